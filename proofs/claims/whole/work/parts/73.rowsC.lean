/-! PRINTED (gen_rows.py): a row an instruction -/
theorem rw_X11_init :
  (∀ (d : Nat) (a0 : Int) (S h : mx_H) (n : Int), mx_M d 100 [(2, a0)] S h n = mx_ex d 100 0 [some (2, a0)] [] S h n) ∧
  (∀ (d : Nat) (x : Int) (S h : mx_H) (n : Int), mx_ex d 100 0 [some (2, x)] [] S h n = mx_ex d 100 1 [some (2, x)] [(2, x)] S h n) ∧
  (∀ (d : Nat) (a : Int) (l0 : Option mx_V) (S h : mx_H) (n : Int), mx_ex d 100 1 [l0] [(2, a)] S h n = mx_gd (0 ≤ a) d 100 4 [l0] [] S h n) ∧
  (∀ (d : Nat) (x : Int) (S h : mx_H) (n : Int), mx_ex d 100 4 [some (2, x)] [] S h n = mx_ex d 100 5 [some (2, x)] [(2, x)] S h n) ∧
  (∀ (d : Nat) (l0 : Option mx_V) (v0 : mx_V) (S h : mx_H) (n : Int), mx_ex d 100 5 [l0] [v0] S h n = mx_ex d 100 8 [l0] [(0, 200), v0] S h n) ∧
  (∀ (d : Nat) (x : Int) (l0 : Option mx_V) (v1 : mx_V) (S h : mx_H) (n : Int), mx_ex d 100 8 [l0] [(0, x), v1] S h n = mx_gd (0 ≤ x ∧ x ≤ 300) d 100 10 [l0] [(2, n), v1] (mx_t S n 20 x) (mx_z h n) (n + 1)) ∧
  (∀ (d : Nat) (v a : Int) (l0 : Option mx_V) (S h : mx_H) (n : Int), mx_ex d 100 10 [l0] [(2, v), (2, a)] S h n = mx_gd (7 ≤ S a (-2) ∧ S a (-2) ≤ 7) d 100 13 [l0] [] (mx_u S a 0 v) h n) ∧
  (∀ (d : Nat) (x : Int) (S h : mx_H) (n : Int), mx_ex d 100 13 [some (2, x)] [] S h n = mx_ex d 100 14 [some (2, x)] [(2, x)] S h n) ∧
  (∀ (d : Nat) (l0 : Option mx_V) (v0 : mx_V) (S h : mx_H) (n : Int), mx_ex d 100 14 [l0] [v0] S h n = mx_ex d 100 15 [l0] [(0, 0), v0] S h n) ∧
  (∀ (d : Nat) (v a : Int) (l0 : Option mx_V) (S h : mx_H) (n : Int), mx_ex d 100 15 [l0] [(0, v), (2, a)] S h n = mx_gd (7 ≤ S a (-2) ∧ S a (-2) ≤ 7) d 100 18 [l0] [] S (mx_u h a 1 v) n) ∧
  (∀ (d : Nat) (x : Int) (S h : mx_H) (n : Int), mx_ex d 100 18 [some (2, x)] [] S h n = mx_ex d 100 19 [some (2, x)] [(2, x)] S h n) ∧
  (∀ (d : Nat) (l0 : Option mx_V) (v0 : mx_V) (S h : mx_H) (n : Int), mx_ex d 100 19 [l0] [v0] S h n = mx_ex d 100 22 [l0] [(2, n), v0] (mx_t S n 9 0) (mx_z h n) (n + 1)) ∧
  (∀ (d : Nat) (a : Int) (l0 : Option mx_V) (v1 : mx_V) (S h : mx_H) (n : Int), mx_ex d 100 22 [l0] [(2, a), v1] S h n = mx_ex d 100 23 [l0] [(2, a), (2, a), v1] S h n) ∧
  (∀ (d : Nat) (a : Int) (l0 : Option mx_V) (v1 v2 : mx_V) (S h : mx_H) (n : Int), mx_ex (d + 1) 100 23 [l0] [(2, a), v1, v2] S h n = mx_cl (9 ≤ S a (-2) ∧ S a (-2) ≤ 9) d 12 [(2, a)] 100 26 [l0] [v1, v2] S h n) ∧
  (∀ (d : Nat) (v a : Int) (l0 : Option mx_V) (S h : mx_H) (n : Int), mx_ex d 100 26 [l0] [(2, v), (2, a)] S h n = mx_gd (7 ≤ S a (-2) ∧ S a (-2) ≤ 7) d 100 29 [l0] [] (mx_u S a 2 v) h n) ∧
  (∀ (d : Nat) (x : Int) (S h : mx_H) (n : Int), mx_ex d 100 29 [some (2, x)] [] S h n = mx_ex d 100 30 [some (2, x)] [(2, x)] S h n) ∧
  (∀ (d : Nat) (x : Int) (v0 : mx_V) (S h : mx_H) (n : Int), mx_ex d 100 30 [some (2, x)] [v0] S h n = mx_ex d 100 31 [some (2, x)] [(2, x), v0] S h n) ∧
  (∀ (d : Nat) (a : Int) (l0 : Option mx_V) (v1 : mx_V) (S h : mx_H) (n : Int), mx_ex d 100 31 [l0] [(2, a), v1] S h n = mx_gd (7 ≤ S a (-2) ∧ S a (-2) ≤ 7) d 100 34 [l0] [(2, S a 2), v1] S h n) ∧
  (∀ (d : Nat) (a : Int) (l0 : Option mx_V) (v1 : mx_V) (S h : mx_H) (n : Int), mx_ex d 100 34 [l0] [(2, a), v1] S h n = mx_gd (9 ≤ S a (-2) ∧ S a (-2) ≤ 9) d 100 37 [l0] [(2, S a 0), v1] S h n) ∧
  (∀ (d : Nat) (v a : Int) (l0 : Option mx_V) (S h : mx_H) (n : Int), mx_ex d 100 37 [l0] [(2, v), (2, a)] S h n = mx_gd (7 ≤ S a (-2) ∧ S a (-2) ≤ 7) d 100 40 [l0] [] (mx_u S a 3 v) h n) ∧
  (∀ (d : Nat) (x : Int) (S h : mx_H) (n : Int), mx_ex d 100 40 [some (2, x)] [] S h n = mx_ex d 100 41 [some (2, x)] [(2, x)] S h n) ∧
  (∀ (d : Nat) (l0 : Option mx_V) (v0 : mx_V) (S h : mx_H) (n : Int), mx_ex d 100 41 [l0] [v0] S h n = mx_ex d 100 44 [l0] [(2, n), v0] (mx_t S n 8 0) (mx_z h n) (n + 1)) ∧
  (∀ (d : Nat) (a : Int) (l0 : Option mx_V) (v1 : mx_V) (S h : mx_H) (n : Int), mx_ex d 100 44 [l0] [(2, a), v1] S h n = mx_ex d 100 45 [l0] [(2, a), (2, a), v1] S h n) ∧
  (∀ (d : Nat) (a : Int) (l0 : Option mx_V) (v1 v2 : mx_V) (S h : mx_H) (n : Int), mx_ex (d + 1) 100 45 [l0] [(2, a), v1, v2] S h n = mx_cl (8 ≤ S a (-2) ∧ S a (-2) ≤ 8) d 85 [(2, a)] 100 48 [l0] [v1, v2] S h n) ∧
  (∀ (d : Nat) (v a : Int) (l0 : Option mx_V) (S h : mx_H) (n : Int), mx_ex d 100 48 [l0] [(2, v), (2, a)] S h n = mx_gd (7 ≤ S a (-2) ∧ S a (-2) ≤ 7) d 100 51 [l0] [] (mx_u S a 4 v) h n) ∧
  (∀ (d : Nat) (x : Int) (S h : mx_H) (n : Int), mx_ex d 100 51 [some (2, x)] [] S h n = mx_ex d 100 52 [some (2, x)] [(2, x)] S h n) ∧
  (∀ (d : Nat) (l0 : Option mx_V) (v0 : mx_V) (S h : mx_H) (n : Int), mx_ex d 100 52 [l0] [v0] S h n = mx_ex d 100 53 [l0] [(0, 0), v0] S h n) ∧
  (∀ (d : Nat) (v a : Int) (l0 : Option mx_V) (S h : mx_H) (n : Int), mx_ex d 100 53 [l0] [(0, v), (2, a)] S h n = mx_gd (7 ≤ S a (-2) ∧ S a (-2) ≤ 7 ∧ 0 ≤ v ∧ v ≤ 1) d 100 56 [l0] [] S (mx_u h a 5 v) n) ∧
  (∀ (d : Nat) (x : Int) (S h : mx_H) (n : Int), mx_ex d 100 56 [some (2, x)] [] S h n = mx_ex d 100 57 [some (2, x)] [(2, x)] S h n) ∧
  (∀ (d : Nat) (l0 : Option mx_V) (v0 : mx_V) (S h : mx_H) (n : Int), mx_ex d 100 57 [l0] [v0] S h n = mx_ex d 100 58 [l0] [(0, 1), v0] S h n) ∧
  (∀ (d : Nat) (v a : Int) (l0 : Option mx_V) (S h : mx_H) (n : Int), mx_ex d 100 58 [l0] [(0, v), (2, a)] S h n = mx_gd (7 ≤ S a (-2) ∧ S a (-2) ≤ 7) d 100 61 [l0] [] S (mx_u h a 6 v) n) ∧
  (∀ (d : Nat) (x : Int) (S h : mx_H) (n : Int), mx_ex d 100 61 [some (2, x)] [] S h n = mx_ex d 100 62 [some (2, x)] [(2, x)] S h n) ∧
  (∀ (d : Nat) (l0 : Option mx_V) (v0 : mx_V) (S h : mx_H) (n : Int), mx_ex d 100 62 [l0] [v0] S h n = mx_ex d 100 63 [l0] [(0, 1), v0] S h n) ∧
  (∀ (d : Nat) (v a : Int) (l0 : Option mx_V) (S h : mx_H) (n : Int), mx_ex d 100 63 [l0] [(0, v), (2, a)] S h n = mx_gd (7 ≤ S a (-2) ∧ S a (-2) ≤ 7) d 100 66 [l0] [] S (mx_u h a 7 v) n) ∧
  (∀ (d : Nat) (x : Int) (S h : mx_H) (n : Int), mx_ex d 100 66 [some (2, x)] [] S h n = mx_ex d 100 67 [some (2, x)] [(2, x)] S h n) ∧
  (∀ (d : Nat) (l0 : Option mx_V) (v0 : mx_V) (S h : mx_H) (n : Int), mx_ex d 100 67 [l0] [v0] S h n = mx_ex d 100 70 [l0] [(2, n), v0] (mx_t S n 10 0) (mx_z h n) (n + 1)) ∧
  (∀ (d : Nat) (a : Int) (l0 : Option mx_V) (v1 : mx_V) (S h : mx_H) (n : Int), mx_ex d 100 70 [l0] [(2, a), v1] S h n = mx_ex d 100 71 [l0] [(2, a), (2, a), v1] S h n) ∧
  (∀ (d : Nat) (a : Int) (l0 : Option mx_V) (v1 v2 : mx_V) (S h : mx_H) (n : Int), mx_ex (d + 1) 100 71 [l0] [(2, a), v1, v2] S h n = mx_cl (10 ≤ S a (-2) ∧ S a (-2) ≤ 10) d 59 [(2, a)] 100 74 [l0] [v1, v2] S h n) ∧
  (∀ (d : Nat) (v a : Int) (l0 : Option mx_V) (S h : mx_H) (n : Int), mx_ex d 100 74 [l0] [(2, v), (2, a)] S h n = mx_gd (7 ≤ S a (-2) ∧ S a (-2) ≤ 7) d 100 77 [l0] [] (mx_u S a 8 v) h n) ∧
  (∀ (d : Nat) (x : Int) (S h : mx_H) (n : Int), mx_ex d 100 77 [some (2, x)] [] S h n = mx_ex d 100 78 [some (2, x)] [(2, x)] S h n) ∧
  (∀ (d : Nat) (l0 : Option mx_V) (v0 : mx_V) (S h : mx_H) (n : Int), mx_ex d 100 78 [l0] [v0] S h n = mx_ex d 100 80 [l0] [(0, 18), v0] S h n) ∧
  (∀ (d : Nat) (x : Int) (l0 : Option mx_V) (v1 : mx_V) (S h : mx_H) (n : Int), mx_ex d 100 80 [l0] [(0, x), v1] S h n = mx_gd (0 ≤ x ∧ x ≤ 300) d 100 82 [l0] [(2, n), v1] (mx_t S n 21 x) (mx_z h n) (n + 1)) ∧
  (∀ (d : Nat) (v a : Int) (l0 : Option mx_V) (S h : mx_H) (n : Int), mx_ex d 100 82 [l0] [(2, v), (2, a)] S h n = mx_gd (7 ≤ S a (-2) ∧ S a (-2) ≤ 7) d 100 85 [l0] [] (mx_u S a 9 v) h n) ∧
  (∀ (d : Nat) (x : Int) (S h : mx_H) (n : Int), mx_ex d 100 85 [some (2, x)] [] S h n = mx_ex d 100 86 [some (2, x)] [(2, x)] S h n) ∧
  (∀ (d : Nat) (l0 : Option mx_V) (v0 : mx_V) (S h : mx_H) (n : Int), mx_ex d 100 86 [l0] [v0] S h n = mx_ex d 100 87 [l0] [(0, 0), v0] S h n) ∧
  (∀ (d : Nat) (v a : Int) (l0 : Option mx_V) (S h : mx_H) (n : Int), mx_ex d 100 87 [l0] [(0, v), (2, a)] S h n = mx_gd (7 ≤ S a (-2) ∧ S a (-2) ≤ 7) d 100 90 [l0] [] S (mx_u h a 10 v) n) ∧
  (∀ (d : Nat) (x : Int) (S h : mx_H) (n : Int), mx_ex d 100 90 [some (2, x)] [] S h n = mx_ex d 100 91 [some (2, x)] [(2, x)] S h n) ∧
  (∀ (d : Nat) (l0 : Option mx_V) (v0 : mx_V) (S h : mx_H) (n : Int), mx_ex d 100 91 [l0] [v0] S h n = mx_ex d 100 92 [l0] [(0, 3), v0] S h n) ∧
  (∀ (d : Nat) (x : Int) (l0 : Option mx_V) (v1 : mx_V) (S h : mx_H) (n : Int), mx_ex d 100 92 [l0] [(0, x), v1] S h n = mx_gd (0 ≤ x ∧ x ≤ 300) d 100 94 [l0] [(2, n), v1] (mx_t S n 20 x) (mx_z h n) (n + 1)) ∧
  (∀ (d : Nat) (v a : Int) (l0 : Option mx_V) (S h : mx_H) (n : Int), mx_ex d 100 94 [l0] [(2, v), (2, a)] S h n = mx_gd (7 ≤ S a (-2) ∧ S a (-2) ≤ 7) d 100 97 [l0] [] (mx_u S a 11 v) h n) ∧
  (∀ (d : Nat) (x : Int) (S h : mx_H) (n : Int), mx_ex d 100 97 [some (2, x)] [] S h n = mx_ex d 100 98 [some (2, x)] [(2, x)] S h n) ∧
  (∀ (d : Nat) (l0 : Option mx_V) (v0 : mx_V) (S h : mx_H) (n : Int), mx_ex d 100 98 [l0] [v0] S h n = mx_ex d 100 99 [l0] [(0, 4), v0] S h n) ∧
  (∀ (d : Nat) (x : Int) (l0 : Option mx_V) (v1 : mx_V) (S h : mx_H) (n : Int), mx_ex d 100 99 [l0] [(0, x), v1] S h n = mx_gd (0 ≤ x ∧ x ≤ 300) d 100 102 [l0] [(2, n), v1] (mx_t S n 23 x) (mx_z h n) (n + 1)) ∧
  (∀ (d : Nat) (v a : Int) (l0 : Option mx_V) (S h : mx_H) (n : Int), mx_ex d 100 102 [l0] [(2, v), (2, a)] S h n = mx_gd (7 ≤ S a (-2) ∧ S a (-2) ≤ 7) d 100 105 [l0] [] (mx_u S a 12 v) h n) ∧
  (∀ (d : Nat) (x : Int) (S h : mx_H) (n : Int), mx_ex d 100 105 [some (2, x)] [] S h n = mx_ex d 100 106 [some (2, x)] [(2, x)] S h n) ∧
  (∀ (d : Nat) (l0 : Option mx_V) (v0 : mx_V) (S h : mx_H) (n : Int), mx_ex d 100 106 [l0] [v0] S h n = mx_ex d 100 107 [l0] [(0, 4), v0] S h n) ∧
  (∀ (d : Nat) (x : Int) (l0 : Option mx_V) (v1 : mx_V) (S h : mx_H) (n : Int), mx_ex d 100 107 [l0] [(0, x), v1] S h n = mx_gd (0 ≤ x ∧ x ≤ 300) d 100 109 [l0] [(2, n), v1] (mx_t S n 20 x) (mx_z h n) (n + 1)) ∧
  (∀ (d : Nat) (v a : Int) (l0 : Option mx_V) (S h : mx_H) (n : Int), mx_ex d 100 109 [l0] [(2, v), (2, a)] S h n = mx_gd (7 ≤ S a (-2) ∧ S a (-2) ≤ 7) d 100 112 [l0] [] (mx_u S a 13 v) h n) ∧
  (∀ (d : Nat) (x : Int) (S h : mx_H) (n : Int), mx_ex d 100 112 [some (2, x)] [] S h n = mx_ex d 100 113 [some (2, x)] [(2, x)] S h n) ∧
  (∀ (d : Nat) (l0 : Option mx_V) (v0 : mx_V) (S h : mx_H) (n : Int), mx_ex d 100 113 [l0] [v0] S h n = mx_ex d 100 114 [l0] [(0, 4), v0] S h n) ∧
  (∀ (d : Nat) (x : Int) (l0 : Option mx_V) (v1 : mx_V) (S h : mx_H) (n : Int), mx_ex d 100 114 [l0] [(0, x), v1] S h n = mx_gd (0 ≤ x ∧ x ≤ 300) d 100 116 [l0] [(2, n), v1] (mx_t S n 20 x) (mx_z h n) (n + 1)) ∧
  (∀ (d : Nat) (v a : Int) (l0 : Option mx_V) (S h : mx_H) (n : Int), mx_ex d 100 116 [l0] [(2, v), (2, a)] S h n = mx_gd (7 ≤ S a (-2) ∧ S a (-2) ≤ 7) d 100 119 [l0] [] (mx_u S a 14 v) h n) ∧
  (∀ (d : Nat) (x : Int) (S h : mx_H) (n : Int), mx_ex d 100 119 [some (2, x)] [] S h n = mx_ex d 100 120 [some (2, x)] [(2, x)] S h n) ∧
  (∀ (d : Nat) (l0 : Option mx_V) (v0 : mx_V) (S h : mx_H) (n : Int), mx_ex d 100 120 [l0] [v0] S h n = mx_ex d 100 121 [l0] [(0, 4), v0] S h n) ∧
  (∀ (d : Nat) (x : Int) (l0 : Option mx_V) (v1 : mx_V) (S h : mx_H) (n : Int), mx_ex d 100 121 [l0] [(0, x), v1] S h n = mx_gd (0 ≤ x ∧ x ≤ 300) d 100 124 [l0] [(2, n), v1] (mx_t S n 23 x) (mx_z h n) (n + 1)) ∧
  (∀ (d : Nat) (v a : Int) (l0 : Option mx_V) (S h : mx_H) (n : Int), mx_ex d 100 124 [l0] [(2, v), (2, a)] S h n = mx_gd (7 ≤ S a (-2) ∧ S a (-2) ≤ 7) d 100 127 [l0] [] (mx_u S a 15 v) h n) ∧
  (∀ (d : Nat) (x : Int) (S h : mx_H) (n : Int), mx_ex d 100 127 [some (2, x)] [] S h n = mx_ex d 100 128 [some (2, x)] [(2, x)] S h n) ∧
  (∀ (d : Nat) (l0 : Option mx_V) (v0 : mx_V) (S h : mx_H) (n : Int), mx_ex d 100 128 [l0] [v0] S h n = mx_ex d 100 131 [l0] [(2, n), v0] (mx_t S n 11 0) (mx_z h n) (n + 1)) ∧
  (∀ (d : Nat) (a : Int) (l0 : Option mx_V) (v1 : mx_V) (S h : mx_H) (n : Int), mx_ex d 100 131 [l0] [(2, a), v1] S h n = mx_ex d 100 132 [l0] [(2, a), (2, a), v1] S h n) ∧
  (∀ (d : Nat) (a : Int) (l0 : Option mx_V) (v1 v2 : mx_V) (S h : mx_H) (n : Int), mx_ex (d + 1) 100 132 [l0] [(2, a), v1, v2] S h n = mx_cl (11 ≤ S a (-2) ∧ S a (-2) ≤ 11) d 75 [(2, a)] 100 135 [l0] [v1, v2] S h n) :=
  ⟨by intros; exact rfl,
   by intros; exact eq_ld rfl rfl,
   by intros; exact eq_oini rfl (Nat.le_of_ble_eq_true rfl),
   by intros; exact eq_ld rfl rfl,
   by intros; exact eq_push rfl,
   by intros; exact eq_newa rfl,
   by intros; exact eq_pr rfl,
   by intros; exact eq_ld rfl rfl,
   by intros; exact eq_push rfl,
   by intros; exact eq_pi rfl,
   by intros; exact eq_ld rfl rfl,
   by intros; exact eq_new rfl,
   by intros; exact eq_dup rfl (by decide),
   by intros; exact eq_ci rfl (Nat.le_of_ble_eq_true rfl) rfl rfl rfl (Nat.le_of_ble_eq_true rfl),
   by intros; exact eq_pr rfl,
   by intros; exact eq_ld rfl rfl,
   by intros; exact eq_ld rfl rfl,
   by intros; exact eq_gr rfl,
   by intros; exact eq_gr rfl,
   by intros; exact eq_pr rfl,
   by intros; exact eq_ld rfl rfl,
   by intros; exact eq_new rfl,
   by intros; exact eq_dup rfl (by decide),
   by intros; exact eq_ci rfl (Nat.le_of_ble_eq_true rfl) rfl rfl rfl (Nat.le_of_ble_eq_true rfl),
   by intros; exact eq_pr rfl,
   by intros; exact eq_ld rfl rfl,
   by intros; exact eq_push rfl,
   by intros; exact eq_pz rfl,
   by intros; exact eq_ld rfl rfl,
   by intros; exact eq_push rfl,
   by intros; exact eq_pi rfl,
   by intros; exact eq_ld rfl rfl,
   by intros; exact eq_push rfl,
   by intros; exact eq_pi rfl,
   by intros; exact eq_ld rfl rfl,
   by intros; exact eq_new rfl,
   by intros; exact eq_dup rfl (by decide),
   by intros; exact eq_ci rfl (Nat.le_of_ble_eq_true rfl) rfl rfl rfl (Nat.le_of_ble_eq_true rfl),
   by intros; exact eq_pr rfl,
   by intros; exact eq_ld rfl rfl,
   by intros; exact eq_push rfl,
   by intros; exact eq_newa rfl,
   by intros; exact eq_pr rfl,
   by intros; exact eq_ld rfl rfl,
   by intros; exact eq_push rfl,
   by intros; exact eq_pi rfl,
   by intros; exact eq_ld rfl rfl,
   by intros; exact eq_push rfl,
   by intros; exact eq_newa rfl,
   by intros; exact eq_pr rfl,
   by intros; exact eq_ld rfl rfl,
   by intros; exact eq_push rfl,
   by intros; exact eq_newa rfl,
   by intros; exact eq_pr rfl,
   by intros; exact eq_ld rfl rfl,
   by intros; exact eq_push rfl,
   by intros; exact eq_newa rfl,
   by intros; exact eq_pr rfl,
   by intros; exact eq_ld rfl rfl,
   by intros; exact eq_push rfl,
   by intros; exact eq_newa rfl,
   by intros; exact eq_pr rfl,
   by intros; exact eq_ld rfl rfl,
   by intros; exact eq_push rfl,
   by intros; exact eq_newa rfl,
   by intros; exact eq_pr rfl,
   by intros; exact eq_ld rfl rfl,
   by intros; exact eq_new rfl,
   by intros; exact eq_dup rfl (by decide),
   by intros; exact eq_ci rfl (Nat.le_of_ble_eq_true rfl) rfl rfl rfl (Nat.le_of_ble_eq_true rfl)⟩
theorem rw_X11_init_1 :
  (∀ (d : Nat) (v a : Int) (l0 : Option mx_V) (S h : mx_H) (n : Int), mx_ex d 100 135 [l0] [(2, v), (2, a)] S h n = mx_gd (7 ≤ S a (-2) ∧ S a (-2) ≤ 7) d 100 138 [l0] [] (mx_u S a 16 v) h n) ∧
  (∀ (d : Nat) (x : Int) (S h : mx_H) (n : Int), mx_ex d 100 138 [some (2, x)] [] S h n = mx_ex d 100 139 [some (2, x)] [(2, x)] S h n) ∧
  (∀ (d : Nat) (a : Int) (l0 : Option mx_V) (S h : mx_H) (n : Int), mx_ex d 100 139 [l0] [(2, a)] S h n = mx_gd (7 ≤ S a (-2) ∧ S a (-2) ≤ 7) d 100 142 [l0] [(2, S a 13)] S h n) ∧
  (∀ (d : Nat) (l0 : Option mx_V) (v0 : mx_V) (S h : mx_H) (n : Int), mx_ex d 100 142 [l0] [v0] S h n = mx_ex d 100 143 [l0] [(0, 2), v0] S h n) ∧
  (∀ (d : Nat) (x0 x1 : Int) (l0 : Option mx_V) (S h : mx_H) (n : Int), mx_ex (d + 1) 100 143 [l0] [(0, x0), (2, x1)] S h n = mx_rt (mx_M d 257 [(2, x1), (0, x0)] S h n) (d + 1) 100 146 [l0] []) ∧
  (∀ (d : Nat) (l0 : Option mx_V) (S h : mx_H) (n : Int), mx_ex d 100 146 [l0] [] S h n = some (none, S, h, n)) :=
  ⟨by intros; exact eq_pr rfl,
   by intros; exact eq_ld rfl rfl,
   by intros; exact eq_gr rfl,
   by intros; exact eq_push rfl,
   by intros; exact eq_cs rfl (Nat.le_of_ble_eq_true rfl) rfl rfl rfl (Nat.le_of_ble_eq_true rfl),
   by intros; exact eq_retv rfl⟩
theorem rh_X11_feed_30 : ∀ (d : Nat) (x : Int) (l0 l1 l2 l3 : Option mx_V) (S h : mx_H) (n : Int), mx_ex d 101 30 [l0, l1, l2, l3, some (0, x)] [] S h n = mx_ex d 101 32 [l0, l1, l2, l3, some (0, x)] [(0, x)] S h n := by intros; exact eq_ld rfl rfl
theorem rw_X11_feed :
  (∀ (d : Nat) (a0 a1 a2 : Int) (S h : mx_H) (n : Int), mx_M d 101 [(2, a0), (1, a1), (0, a2)] S h n = mx_ex d 101 0 [some (2, a0), some (1, a1), none, some (0, a2), none] [] S h n) ∧
  (∀ (d : Nat) (x : Int) (l0 l1 l2 l4 : Option mx_V) (S h : mx_H) (n : Int), mx_ex d 101 0 [l0, l1, l2, some (0, x), l4] [] S h n = mx_ex d 101 1 [l0, l1, l2, some (0, x), l4] [(0, x)] S h n) ∧
  (∀ (d : Nat) (l0 l1 l2 l3 l4 : Option mx_V) (v0 : mx_V) (S h : mx_H) (n : Int), mx_ex d 101 1 [l0, l1, l2, l3, l4] [v0] S h n = mx_ex d 101 2 [l0, l1, l2, l3, l4] [(0, 1), v0] S h n) ∧
  (∀ (d : Nat) (l0 l1 l2 l3 l4 : Option mx_V) (v0 v1 : mx_V) (S h : mx_H) (n : Int), mx_ex d 101 2 [l0, l1, l2, l3, l4] [v0, v1] S h n = mx_ex d 101 4 [l0, l1, l2, l3, l4] [(0, 8), v0, v1] S h n) ∧
  (∀ (d : Nat) (x0 x1 x2 : Int) (l0 l1 l2 l3 l4 : Option mx_V) (S h : mx_H) (n : Int), mx_ex (d + 1) 101 4 [l0, l1, l2, l3, l4] [(0, x0), (0, x1), (0, x2)] S h n = mx_rt (mx_M d 147 [(0, x2), (0, x1), (0, x0)] S h n) (d + 1) 101 7 [l0, l1, l2, l3, l4] []) ∧
  (∀ (d : Nat) (a : Int) (l0 l1 l2 l3 l4 : Option mx_V) (S h : mx_H) (n : Int), mx_ex d 101 7 [l0, l1, l2, l3, l4] [(0, a)] S h n = mx_br (a = 0) d 101 10 12 [l0, l1, l2, l3, l4] [] S h n) ∧
  (∀ (d : Nat) (l0 l1 l2 l3 l4 : Option mx_V) (S h : mx_H) (n : Int), mx_ex d 101 10 [l0, l1, l2, l3, l4] [] S h n = mx_ex d 101 11 [l0, l1, l2, l3, l4] [(0, (-1))] S h n) ∧
  (∀ (d : Nat) (x : Int) (l0 l1 l2 l3 l4 : Option mx_V) (S h : mx_H) (n : Int), mx_ex d 101 11 [l0, l1, l2, l3, l4] [(0, x)] S h n = some (some (0, x), S, h, n)) ∧
  (∀ (d : Nat) (x : Int) (l1 l2 l3 l4 : Option mx_V) (S h : mx_H) (n : Int), mx_ex d 101 12 [some (2, x), l1, l2, l3, l4] [] S h n = mx_ex d 101 13 [some (2, x), l1, l2, l3, l4] [(2, x)] S h n) ∧
  (∀ (d : Nat) (a : Int) (l0 l1 l2 l3 l4 : Option mx_V) (S h : mx_H) (n : Int), mx_ex d 101 13 [l0, l1, l2, l3, l4] [(2, a)] S h n = mx_gd (7 ≤ S a (-2) ∧ S a (-2) ≤ 7) d 101 16 [l0, l1, l2, l3, l4] [(0, h a 1)] S h n) ∧
  (∀ (d : Nat) (x : Int) (l0 l1 l2 l4 : Option mx_V) (v0 : mx_V) (S h : mx_H) (n : Int), mx_ex d 101 16 [l0, l1, l2, some (0, x), l4] [v0] S h n = mx_ex d 101 17 [l0, l1, l2, some (0, x), l4] [(0, x), v0] S h n) ∧
  (∀ (d : Nat) (b a : Int) (l0 l1 l2 l3 l4 : Option mx_V) (S h : mx_H) (n : Int), mx_ex d 101 17 [l0, l1, l2, l3, l4] [(0, b), (0, a)] S h n = mx_ex d 101 18 [l0, l1, l2, l3, l4] [(0, mx_w (a + b))] S h n) ∧
  (∀ (d : Nat) (l0 l1 l2 l3 l4 : Option mx_V) (v0 : mx_V) (S h : mx_H) (n : Int), mx_ex d 101 18 [l0, l1, l2, l3, l4] [v0] S h n = mx_ex d 101 21 [l0, l1, l2, l3, l4] [(0, 200), v0] S h n) ∧
  (∀ (d : Nat) (b a : Int) (l0 l1 l2 l3 l4 : Option mx_V) (S h : mx_H) (n : Int), mx_ex d 101 21 [l0, l1, l2, l3, l4] [(0, b), (0, a)] S h n = mx_br (b < a) d 101 24 27 [l0, l1, l2, l3, l4] [] S h n) ∧
  (∀ (d : Nat) (l0 l1 l2 l3 l4 : Option mx_V) (S h : mx_H) (n : Int), mx_ex d 101 24 [l0, l1, l2, l3, l4] [] S h n = mx_ex d 101 26 [l0, l1, l2, l3, l4] [(0, (-2))] S h n) ∧
  (∀ (d : Nat) (x : Int) (l0 l1 l2 l3 l4 : Option mx_V) (S h : mx_H) (n : Int), mx_ex d 101 26 [l0, l1, l2, l3, l4] [(0, x)] S h n = some (some (0, x), S, h, n)) ∧
  (∀ (d : Nat) (l0 l1 l2 l3 l4 : Option mx_V) (S h : mx_H) (n : Int), mx_ex d 101 27 [l0, l1, l2, l3, l4] [] S h n = mx_ex d 101 28 [l0, l1, l2, l3, l4] [(0, 0)] S h n) ∧
  (∀ (d : Nat) (x : Int) (l0 l1 l2 l3 l4 : Option mx_V) (S h : mx_H) (n : Int), mx_ex d 101 28 [l0, l1, l2, l3, l4] [(0, x)] S h n = mx_ex d 101 30 [l0, l1, l2, mx_nl l3, some (0, x)] [] S h n) ∧
  (∀ (d : Nat) (x : Int) (l0 l1 l2 l4 : Option mx_V) (v0 : mx_V) (S h : mx_H) (n : Int), mx_ex d 101 32 [l0, l1, l2, some (0, x), l4] [v0] S h n = mx_ex d 101 33 [l0, l1, l2, some (0, x), l4] [(0, x), v0] S h n) ∧
  (∀ (d : Nat) (b a : Int) (l0 l1 l2 l3 l4 : Option mx_V) (S h : mx_H) (n : Int), mx_ex d 101 33 [l0, l1, l2, l3, l4] [(0, b), (0, a)] S h n = mx_br (a < b) d 101 36 66 [l0, l1, l2, l3, l4] [] S h n) ∧
  (∀ (d : Nat) (x : Int) (l1 l2 l3 l4 : Option mx_V) (S h : mx_H) (n : Int), mx_ex d 101 36 [some (2, x), l1, l2, l3, l4] [] S h n = mx_ex d 101 37 [some (2, x), l1, l2, l3, l4] [(2, x)] S h n) ∧
  (∀ (d : Nat) (a : Int) (l0 l1 l2 l3 l4 : Option mx_V) (S h : mx_H) (n : Int), mx_ex d 101 37 [l0, l1, l2, l3, l4] [(2, a)] S h n = mx_gd (7 ≤ S a (-2) ∧ S a (-2) ≤ 7) d 101 40 [l0, l1, l2, l3, l4] [(2, S a 0)] S h n) ∧
  (∀ (d : Nat) (x : Int) (l1 l2 l3 l4 : Option mx_V) (v0 : mx_V) (S h : mx_H) (n : Int), mx_ex d 101 40 [some (2, x), l1, l2, l3, l4] [v0] S h n = mx_ex d 101 41 [some (2, x), l1, l2, l3, l4] [(2, x), v0] S h n) ∧
  (∀ (d : Nat) (a : Int) (l0 l1 l2 l3 l4 : Option mx_V) (v1 : mx_V) (S h : mx_H) (n : Int), mx_ex d 101 41 [l0, l1, l2, l3, l4] [(2, a), v1] S h n = mx_gd (7 ≤ S a (-2) ∧ S a (-2) ≤ 7) d 101 44 [l0, l1, l2, l3, l4] [(0, h a 1), v1] S h n) ∧
  (∀ (d : Nat) (x : Int) (l0 l1 l2 l3 : Option mx_V) (v0 v1 : mx_V) (S h : mx_H) (n : Int), mx_ex d 101 44 [l0, l1, l2, l3, some (0, x)] [v0, v1] S h n = mx_ex d 101 46 [l0, l1, l2, l3, some (0, x)] [(0, x), v0, v1] S h n) ∧
  (∀ (d : Nat) (b a : Int) (l0 l1 l2 l3 l4 : Option mx_V) (v2 : mx_V) (S h : mx_H) (n : Int), mx_ex d 101 46 [l0, l1, l2, l3, l4] [(0, b), (0, a), v2] S h n = mx_ex d 101 47 [l0, l1, l2, l3, l4] [(0, mx_w (a + b)), v2] S h n) ∧
  (∀ (d : Nat) (x : Int) (l0 l2 l3 l4 : Option mx_V) (v0 v1 : mx_V) (S h : mx_H) (n : Int), mx_ex d 101 47 [l0, some (1, x), l2, l3, l4] [v0, v1] S h n = mx_ex d 101 48 [l0, some (1, x), l2, l3, l4] [(1, x), v0, v1] S h n) ∧
  (∀ (d : Nat) (l0 l1 l2 l3 l4 : Option mx_V) (v0 v1 v2 : mx_V) (S h : mx_H) (n : Int), mx_ex d 101 48 [l0, l1, l2, l3, l4] [v0, v1, v2] S h n = mx_ex d 101 50 [l0, l1, l2, l3, l4] [(0, 8), v0, v1, v2] S h n) ∧
  (∀ (d : Nat) (x : Int) (l0 l1 l2 l3 : Option mx_V) (v0 v1 v2 v3 : mx_V) (S h : mx_H) (n : Int), mx_ex d 101 50 [l0, l1, l2, l3, some (0, x)] [v0, v1, v2, v3] S h n = mx_ex d 101 52 [l0, l1, l2, l3, some (0, x)] [(0, x), v0, v1, v2, v3] S h n) ∧
  (∀ (d : Nat) (b a : Int) (l0 l1 l2 l3 l4 : Option mx_V) (v2 v3 v4 : mx_V) (S h : mx_H) (n : Int), mx_ex d 101 52 [l0, l1, l2, l3, l4] [(0, b), (0, a), v2, v3, v4] S h n = mx_ex d 101 53 [l0, l1, l2, l3, l4] [(0, mx_w (a * b)), v2, v3, v4] S h n) ∧
  (∀ (d : Nat) (b a : Int) (l0 l1 l2 l3 l4 : Option mx_V) (v2 v3 : mx_V) (S h : mx_H) (n : Int), mx_ex d 101 53 [l0, l1, l2, l3, l4] [(0, b), (1, a), v2, v3] S h n = mx_ex d 101 54 [l0, l1, l2, l3, l4] [(1, ml_ush a b), v2, v3] S h n) ∧
  (∀ (d : Nat) (a : Int) (l0 l1 l2 l3 l4 : Option mx_V) (v1 v2 : mx_V) (S h : mx_H) (n : Int), mx_ex d 101 54 [l0, l1, l2, l3, l4] [(1, a), v1, v2] S h n = mx_ex d 101 55 [l0, l1, l2, l3, l4] [(0, mx_w a), v1, v2] S h n) ∧
  (∀ (d : Nat) (l0 l1 l2 l3 l4 : Option mx_V) (v0 v1 v2 : mx_V) (S h : mx_H) (n : Int), mx_ex d 101 55 [l0, l1, l2, l3, l4] [v0, v1, v2] S h n = mx_ex d 101 58 [l0, l1, l2, l3, l4] [(0, 255), v0, v1, v2] S h n) ∧
  (∀ (d : Nat) (b a : Int) (l0 l1 l2 l3 l4 : Option mx_V) (v2 v3 : mx_V) (S h : mx_H) (n : Int), mx_ex d 101 58 [l0, l1, l2, l3, l4] [(0, b), (0, a), v2, v3] S h n = mx_ex d 101 59 [l0, l1, l2, l3, l4] [(0, mx_and a b), v2, v3] S h n) ∧
  (∀ (d : Nat) (v i a : Int) (l0 l1 l2 l3 l4 : Option mx_V) (S h : mx_H) (n : Int), mx_ex d 101 59 [l0, l1, l2, l3, l4] [(0, v), (0, i), (2, a)] S h n = mx_gd (S a (-2) = 20 ∧ 0 ≤ i ∧ i < S a (-1)) d 101 60 [l0, l1, l2, l3, l4] [] S (mx_u h a i v) n) ∧
  (∀ (d : Nat) (x : Int) (l0 l1 l2 l3 : Option mx_V) (S h : mx_H) (n : Int), mx_ex d 101 60 [l0, l1, l2, l3, some (0, x)] [] S h n = mx_ex d 101 63 [l0, l1, l2, mx_nl l3, some (0, mx_w (x + 1))] [] S h n) ∧
  (∀ (d : Nat) (l0 l1 l2 l3 l4 : Option mx_V) (S h : mx_H) (n : Int), mx_ex d 101 63 [l0, l1, l2, l3, l4] [] S h n = mx_ex d 101 30 [l0, l1, l2, l3, l4] [] S h n) ∧
  (∀ (d : Nat) (x : Int) (l1 l2 l3 l4 : Option mx_V) (S h : mx_H) (n : Int), mx_ex d 101 66 [some (2, x), l1, l2, l3, l4] [] S h n = mx_ex d 101 67 [some (2, x), l1, l2, l3, l4] [(2, x)] S h n) ∧
  (∀ (d : Nat) (a : Int) (l0 l1 l2 l3 l4 : Option mx_V) (S h : mx_H) (n : Int), mx_ex d 101 67 [l0, l1, l2, l3, l4] [(2, a)] S h n = mx_ex d 101 68 [l0, l1, l2, l3, l4] [(2, a), (2, a)] S h n) ∧
  (∀ (d : Nat) (a : Int) (l0 l1 l2 l3 l4 : Option mx_V) (v1 : mx_V) (S h : mx_H) (n : Int), mx_ex d 101 68 [l0, l1, l2, l3, l4] [(2, a), v1] S h n = mx_gd (7 ≤ S a (-2) ∧ S a (-2) ≤ 7) d 101 71 [l0, l1, l2, l3, l4] [(0, h a 1), v1] S h n) ∧
  (∀ (d : Nat) (x : Int) (l0 l1 l2 l4 : Option mx_V) (v0 v1 : mx_V) (S h : mx_H) (n : Int), mx_ex d 101 71 [l0, l1, l2, some (0, x), l4] [v0, v1] S h n = mx_ex d 101 72 [l0, l1, l2, some (0, x), l4] [(0, x), v0, v1] S h n) ∧
  (∀ (d : Nat) (b a : Int) (l0 l1 l2 l3 l4 : Option mx_V) (v2 : mx_V) (S h : mx_H) (n : Int), mx_ex d 101 72 [l0, l1, l2, l3, l4] [(0, b), (0, a), v2] S h n = mx_ex d 101 73 [l0, l1, l2, l3, l4] [(0, mx_w (a + b)), v2] S h n) ∧
  (∀ (d : Nat) (v a : Int) (l0 l1 l2 l3 l4 : Option mx_V) (S h : mx_H) (n : Int), mx_ex d 101 73 [l0, l1, l2, l3, l4] [(0, v), (2, a)] S h n = mx_gd (7 ≤ S a (-2) ∧ S a (-2) ≤ 7) d 101 76 [l0, l1, l2, l3, l4] [] S (mx_u h a 1 v) n) ∧
  (∀ (d : Nat) (x : Int) (l1 l2 l3 l4 : Option mx_V) (S h : mx_H) (n : Int), mx_ex d 101 76 [some (2, x), l1, l2, l3, l4] [] S h n = mx_ex d 101 77 [some (2, x), l1, l2, l3, l4] [(2, x)] S h n) ∧
  (∀ (d : Nat) (a : Int) (l0 l1 l2 l3 l4 : Option mx_V) (S h : mx_H) (n : Int), mx_ex d 101 77 [l0, l1, l2, l3, l4] [(2, a)] S h n = mx_gd (7 ≤ S a (-2) ∧ S a (-2) ≤ 7) d 101 80 [l0, l1, l2, l3, l4] [(0, h a 1)] S h n) ∧
  (∀ (d : Nat) (x : Int) (l0 l1 l2 l3 l4 : Option mx_V) (S h : mx_H) (n : Int), mx_ex d 101 80 [l0, l1, l2, l3, l4] [(0, x)] S h n = some (some (0, x), S, h, n)) :=
  ⟨by intros; exact rfl,
   by intros; exact eq_ld rfl rfl,
   by intros; exact eq_push rfl,
   by intros; exact eq_push rfl,
   by intros; exact eq_cs rfl (Nat.le_of_ble_eq_true rfl) rfl rfl rfl (Nat.le_of_ble_eq_true rfl),
   by intros; exact eq_if1 rfl,
   by intros; exact eq_push rfl,
   by intros; exact eq_ret rfl,
   by intros; exact eq_ld rfl rfl,
   by intros; exact eq_gi rfl,
   by intros; exact eq_ld rfl rfl,
   by intros; exact eq_i2 (o := mx_add) rfl,
   by intros; exact eq_push rfl,
   by intros; exact eq_ic5 rfl,
   by intros; exact eq_push rfl,
   by intros; exact eq_ret rfl,
   by intros; exact eq_push rfl,
   by intros; exact eq_st rfl (by decide) (Nat.le_of_ble_eq_true rfl) rfl,
   by intros; exact eq_ld rfl rfl,
   by intros; exact eq_ic3 rfl,
   by intros; exact eq_ld rfl rfl,
   by intros; exact eq_gr rfl,
   by intros; exact eq_ld rfl rfl,
   by intros; exact eq_gi rfl,
   by intros; exact eq_ld rfl rfl,
   by intros; exact eq_i2 (o := mx_add) rfl,
   by intros; exact eq_ld rfl rfl,
   by intros; exact eq_push rfl,
   by intros; exact eq_ld rfl rfl,
   by intros; exact eq_i2 (o := mx_mul) rfl,
   by intros; exact eq_ls (o := ml_ush) rfl,
   by intros; exact eq_l2i rfl,
   by intros; exact eq_push rfl,
   by intros; exact eq_i2 (o := mx_and) rfl,
   by intros; exact eq_iast rfl,
   by intros; exact eq_inc rfl rfl rfl,
   by intros; exact eq_go rfl,
   by intros; exact eq_ld rfl rfl,
   by intros; exact eq_dup rfl (by decide),
   by intros; exact eq_gi rfl,
   by intros; exact eq_ld rfl rfl,
   by intros; exact eq_i2 (o := mx_add) rfl,
   by intros; exact eq_pi rfl,
   by intros; exact eq_ld rfl rfl,
   by intros; exact eq_gi rfl,
   by intros; exact eq_ret rfl⟩
theorem rw_X11_valley :
  (∀ (d : Nat) (a0 : Int) (S h : mx_H) (n : Int), mx_M d 102 [(2, a0)] S h n = mx_ex d 102 0 [some (2, a0), none] [] S h n) ∧
  (∀ (d : Nat) (x : Int) (l1 : Option mx_V) (S h : mx_H) (n : Int), mx_ex d 102 0 [some (2, x), l1] [] S h n = mx_ex d 102 1 [some (2, x), l1] [(2, x)] S h n) ∧
  (∀ (d : Nat) (a : Int) (l0 l1 : Option mx_V) (S h : mx_H) (n : Int), mx_ex d 102 1 [l0, l1] [(2, a)] S h n = mx_gd (7 ≤ S a (-2) ∧ S a (-2) ≤ 7) d 102 4 [l0, l1] [(0, h a 1)] S h n) ∧
  (∀ (d : Nat) (x : Int) (l0 l1 : Option mx_V) (S h : mx_H) (n : Int), mx_ex d 102 4 [l0, l1] [(0, x)] S h n = mx_ex d 102 5 [mx_nl l0, some (0, x)] [] S h n) ∧
  (∀ (d : Nat) (x : Int) (l1 : Option mx_V) (S h : mx_H) (n : Int), mx_ex d 102 5 [some (2, x), l1] [] S h n = mx_ex d 102 6 [some (2, x), l1] [(2, x)] S h n) ∧
  (∀ (d : Nat) (l0 l1 : Option mx_V) (v0 : mx_V) (S h : mx_H) (n : Int), mx_ex d 102 6 [l0, l1] [v0] S h n = mx_ex d 102 7 [l0, l1] [(0, 0), v0] S h n) ∧
  (∀ (d : Nat) (v a : Int) (l0 l1 : Option mx_V) (S h : mx_H) (n : Int), mx_ex d 102 7 [l0, l1] [(0, v), (2, a)] S h n = mx_gd (7 ≤ S a (-2) ∧ S a (-2) ≤ 7) d 102 10 [l0, l1] [] S (mx_u h a 1 v) n) ∧
  (∀ (d : Nat) (x : Int) (l1 : Option mx_V) (S h : mx_H) (n : Int), mx_ex d 102 10 [some (2, x), l1] [] S h n = mx_ex d 102 11 [some (2, x), l1] [(2, x)] S h n) ∧
  (∀ (d : Nat) (a : Int) (l0 l1 : Option mx_V) (S h : mx_H) (n : Int), mx_ex d 102 11 [l0, l1] [(2, a)] S h n = mx_gd (7 ≤ S a (-2) ∧ S a (-2) ≤ 7) d 102 14 [l0, l1] [(2, S a 8)] S h n) ∧
  (∀ (d : Nat) (x : Int) (l1 : Option mx_V) (v0 : mx_V) (S h : mx_H) (n : Int), mx_ex d 102 14 [some (2, x), l1] [v0] S h n = mx_ex d 102 15 [some (2, x), l1] [(2, x), v0] S h n) ∧
  (∀ (d : Nat) (a : Int) (l0 l1 : Option mx_V) (v1 : mx_V) (S h : mx_H) (n : Int), mx_ex d 102 15 [l0, l1] [(2, a), v1] S h n = mx_gd (7 ≤ S a (-2) ∧ S a (-2) ≤ 7) d 102 18 [l0, l1] [(2, S a 0), v1] S h n) ∧
  (∀ (d : Nat) (x : Int) (l0 : Option mx_V) (v0 v1 : mx_V) (S h : mx_H) (n : Int), mx_ex d 102 18 [l0, some (0, x)] [v0, v1] S h n = mx_ex d 102 19 [l0, some (0, x)] [(0, x), v0, v1] S h n) ∧
  (∀ (d : Nat) (x0 x1 a : Int) (l0 l1 : Option mx_V) (S h : mx_H) (n : Int), mx_ex (d + 1) 102 19 [l0, l1] [(0, x0), (2, x1), (2, a)] S h n = mx_cl (S a (-2) = 10) d 60 [(2, a), (2, x1), (0, x0)] 102 22 [l0, l1] [] S h n) ∧
  (∀ (d : Nat) (a : Int) (l0 l1 : Option mx_V) (S h : mx_H) (n : Int), mx_ex d 102 22 [l0, l1] [(0, a)] S h n = mx_br (a = 0) d 102 25 36 [l0, l1] [] S h n) ∧
  (∀ (d : Nat) (l0 l1 : Option mx_V) (S h : mx_H) (n : Int), mx_ex d 102 25 [l0, l1] [] S h n = mx_ex d 102 27 [l0, l1] [(0, (-100))] S h n) ∧
  (∀ (d : Nat) (x : Int) (l1 : Option mx_V) (v0 : mx_V) (S h : mx_H) (n : Int), mx_ex d 102 27 [some (2, x), l1] [v0] S h n = mx_ex d 102 28 [some (2, x), l1] [(2, x), v0] S h n) ∧
  (∀ (d : Nat) (a : Int) (l0 l1 : Option mx_V) (v1 : mx_V) (S h : mx_H) (n : Int), mx_ex d 102 28 [l0, l1] [(2, a), v1] S h n = mx_gd (7 ≤ S a (-2) ∧ S a (-2) ≤ 7) d 102 31 [l0, l1] [(2, S a 8), v1] S h n) ∧
  (∀ (d : Nat) (a : Int) (l0 l1 : Option mx_V) (v1 : mx_V) (S h : mx_H) (n : Int), mx_ex d 102 31 [l0, l1] [(2, a), v1] S h n = mx_gd (10 ≤ S a (-2) ∧ S a (-2) ≤ 10) d 102 34 [l0, l1] [(0, h a 1), v1] S h n) ∧
  (∀ (d : Nat) (b a : Int) (l0 l1 : Option mx_V) (S h : mx_H) (n : Int), mx_ex d 102 34 [l0, l1] [(0, b), (0, a)] S h n = mx_ex d 102 35 [l0, l1] [(0, mx_w (a - b))] S h n) ∧
  (∀ (d : Nat) (x : Int) (l0 l1 : Option mx_V) (S h : mx_H) (n : Int), mx_ex d 102 35 [l0, l1] [(0, x)] S h n = some (some (0, x), S, h, n)) ∧
  (∀ (d : Nat) (x : Int) (l1 : Option mx_V) (S h : mx_H) (n : Int), mx_ex d 102 36 [some (2, x), l1] [] S h n = mx_ex d 102 37 [some (2, x), l1] [(2, x)] S h n) ∧
  (∀ (d : Nat) (a : Int) (l0 l1 : Option mx_V) (S h : mx_H) (n : Int), mx_ex d 102 37 [l0, l1] [(2, a)] S h n = mx_gd (7 ≤ S a (-2) ∧ S a (-2) ≤ 7) d 102 40 [l0, l1] [(2, S a 3)] S h n) ∧
  (∀ (d : Nat) (x : Int) (l1 : Option mx_V) (v0 : mx_V) (S h : mx_H) (n : Int), mx_ex d 102 40 [some (2, x), l1] [v0] S h n = mx_ex d 102 41 [some (2, x), l1] [(2, x), v0] S h n) ∧
  (∀ (d : Nat) (a : Int) (l0 l1 : Option mx_V) (v1 : mx_V) (S h : mx_H) (n : Int), mx_ex d 102 41 [l0, l1] [(2, a), v1] S h n = mx_gd (7 ≤ S a (-2) ∧ S a (-2) ≤ 7) d 102 44 [l0, l1] [(2, S a 8), v1] S h n) ∧
  (∀ (d : Nat) (a : Int) (l0 l1 : Option mx_V) (v1 : mx_V) (S h : mx_H) (n : Int), mx_ex d 102 44 [l0, l1] [(2, a), v1] S h n = mx_gd (10 ≤ S a (-2) ∧ S a (-2) ≤ 10) d 102 47 [l0, l1] [(2, S a 0), v1] S h n) ∧
  (∀ (d : Nat) (x0 a : Int) (l0 l1 : Option mx_V) (S h : mx_H) (n : Int), mx_ex (d + 1) 102 47 [l0, l1] [(2, x0), (2, a)] S h n = mx_cl (S a (-2) = 8) d 87 [(2, a), (2, x0)] 102 50 [l0, l1] [] S h n) ∧
  (∀ (d : Nat) (x : Int) (l1 : Option mx_V) (S h : mx_H) (n : Int), mx_ex d 102 50 [some (2, x), l1] [] S h n = mx_ex d 102 51 [some (2, x), l1] [(2, x)] S h n) ∧
  (∀ (d : Nat) (l0 l1 : Option mx_V) (v0 : mx_V) (S h : mx_H) (n : Int), mx_ex d 102 51 [l0, l1] [v0] S h n = mx_ex d 102 52 [l0, l1] [(0, 0), v0] S h n) ∧
  (∀ (d : Nat) (v a : Int) (l0 l1 : Option mx_V) (S h : mx_H) (n : Int), mx_ex d 102 52 [l0, l1] [(0, v), (2, a)] S h n = mx_gd (7 ≤ S a (-2) ∧ S a (-2) ≤ 7) d 102 55 [l0, l1] [] S (mx_u h a 10 v) n) ∧
  (∀ (d : Nat) (x : Int) (l1 : Option mx_V) (S h : mx_H) (n : Int), mx_ex d 102 55 [some (2, x), l1] [] S h n = mx_ex d 102 56 [some (2, x), l1] [(2, x)] S h n) ∧
  (∀ (d : Nat) (a : Int) (l0 l1 : Option mx_V) (S h : mx_H) (n : Int), mx_ex d 102 56 [l0, l1] [(2, a)] S h n = mx_gd (7 ≤ S a (-2) ∧ S a (-2) ≤ 7) d 102 59 [l0, l1] [(2, S a 3)] S h n) ∧
  (∀ (d : Nat) (a : Int) (l0 l1 : Option mx_V) (S h : mx_H) (n : Int), mx_ex d 102 59 [l0, l1] [(2, a)] S h n = mx_gd (8 ≤ S a (-2) ∧ S a (-2) ≤ 8) d 102 62 [l0, l1] [(0, h a 3)] S h n) ∧
  (∀ (d : Nat) (x : Int) (l0 l1 : Option mx_V) (S h : mx_H) (n : Int), mx_ex d 102 62 [l0, l1] [(0, x)] S h n = some (some (0, x), S, h, n)) :=
  ⟨by intros; exact rfl,
   by intros; exact eq_ld rfl rfl,
   by intros; exact eq_gi rfl,
   by intros; exact eq_st rfl (by decide) (Nat.le_of_ble_eq_true rfl) rfl,
   by intros; exact eq_ld rfl rfl,
   by intros; exact eq_push rfl,
   by intros; exact eq_pi rfl,
   by intros; exact eq_ld rfl rfl,
   by intros; exact eq_gr rfl,
   by intros; exact eq_ld rfl rfl,
   by intros; exact eq_gr rfl,
   by intros; exact eq_ld rfl rfl,
   by intros; exact eq_cv rfl (Nat.le_of_ble_eq_true rfl) rfl rfl rfl (Nat.le_of_ble_eq_true rfl),
   by intros; exact eq_if1 rfl,
   by intros; exact eq_push rfl,
   by intros; exact eq_ld rfl rfl,
   by intros; exact eq_gr rfl,
   by intros; exact eq_gi rfl,
   by intros; exact eq_i2 (o := mx_sub) rfl,
   by intros; exact eq_ret rfl,
   by intros; exact eq_ld rfl rfl,
   by intros; exact eq_gr rfl,
   by intros; exact eq_ld rfl rfl,
   by intros; exact eq_gr rfl,
   by intros; exact eq_gr rfl,
   by intros; exact eq_cv rfl (Nat.le_of_ble_eq_true rfl) rfl rfl rfl (Nat.le_of_ble_eq_true rfl),
   by intros; exact eq_ld rfl rfl,
   by intros; exact eq_push rfl,
   by intros; exact eq_pi rfl,
   by intros; exact eq_ld rfl rfl,
   by intros; exact eq_gr rfl,
   by intros; exact eq_gi rfl,
   by intros; exact eq_ret rfl⟩
theorem rw_X11_evening :
  (∀ (d : Nat) (a0 a1 a2 a3 : Int) (S h : mx_H) (n : Int), mx_M d 103 [(2, a0), (0, a1), (0, a2), (0, a3)] S h n = mx_ex d 103 0 [some (2, a0), some (0, a1), some (0, a2), some (0, a3)] [] S h n) ∧
  (∀ (d : Nat) (x : Int) (l0 l2 l3 : Option mx_V) (S h : mx_H) (n : Int), mx_ex d 103 0 [l0, some (0, x), l2, l3] [] S h n = mx_ex d 103 1 [l0, some (0, x), l2, l3] [(0, x)] S h n) ∧
  (∀ (d : Nat) (x0 : Int) (l0 l1 l2 l3 : Option mx_V) (S h : mx_H) (n : Int), mx_ex (d + 1) 103 1 [l0, l1, l2, l3] [(0, x0)] S h n = mx_rt (mx_M d 148 [(0, x0)] S h n) (d + 1) 103 4 [l0, l1, l2, l3] []) ∧
  (∀ (d : Nat) (a : Int) (l0 l1 l2 l3 : Option mx_V) (S h : mx_H) (n : Int), mx_ex d 103 4 [l0, l1, l2, l3] [(0, a)] S h n = mx_br (a = 0) d 103 26 7 [l0, l1, l2, l3] [] S h n) ∧
  (∀ (d : Nat) (x : Int) (l0 l1 l3 : Option mx_V) (S h : mx_H) (n : Int), mx_ex d 103 7 [l0, l1, some (0, x), l3] [] S h n = mx_ex d 103 8 [l0, l1, some (0, x), l3] [(0, x)] S h n) ∧
  (∀ (d : Nat) (x0 : Int) (l0 l1 l2 l3 : Option mx_V) (S h : mx_H) (n : Int), mx_ex (d + 1) 103 8 [l0, l1, l2, l3] [(0, x0)] S h n = mx_rt (mx_M d 149 [(0, x0)] S h n) (d + 1) 103 11 [l0, l1, l2, l3] []) ∧
  (∀ (d : Nat) (a : Int) (l0 l1 l2 l3 : Option mx_V) (S h : mx_H) (n : Int), mx_ex d 103 11 [l0, l1, l2, l3] [(0, a)] S h n = mx_br (a = 0) d 103 26 14 [l0, l1, l2, l3] [] S h n) ∧
  (∀ (d : Nat) (x : Int) (l0 l1 l2 : Option mx_V) (S h : mx_H) (n : Int), mx_ex d 103 14 [l0, l1, l2, some (0, x)] [] S h n = mx_ex d 103 15 [l0, l1, l2, some (0, x)] [(0, x)] S h n) ∧
  (∀ (d : Nat) (x0 : Int) (l0 l1 l2 l3 : Option mx_V) (S h : mx_H) (n : Int), mx_ex (d + 1) 103 15 [l0, l1, l2, l3] [(0, x0)] S h n = mx_rt (mx_M d 149 [(0, x0)] S h n) (d + 1) 103 18 [l0, l1, l2, l3] []) ∧
  (∀ (d : Nat) (a : Int) (l0 l1 l2 l3 : Option mx_V) (S h : mx_H) (n : Int), mx_ex d 103 18 [l0, l1, l2, l3] [(0, a)] S h n = mx_br (a = 0) d 103 26 21 [l0, l1, l2, l3] [] S h n) ∧
  (∀ (d : Nat) (x : Int) (l0 l1 l2 : Option mx_V) (S h : mx_H) (n : Int), mx_ex d 103 21 [l0, l1, l2, some (0, x)] [] S h n = mx_ex d 103 22 [l0, l1, l2, some (0, x)] [(0, x)] S h n) ∧
  (∀ (d : Nat) (x : Int) (l0 l1 l3 : Option mx_V) (v0 : mx_V) (S h : mx_H) (n : Int), mx_ex d 103 22 [l0, l1, some (0, x), l3] [v0] S h n = mx_ex d 103 23 [l0, l1, some (0, x), l3] [(0, x), v0] S h n) ∧
  (∀ (d : Nat) (b a : Int) (l0 l1 l2 l3 : Option mx_V) (S h : mx_H) (n : Int), mx_ex d 103 23 [l0, l1, l2, l3] [(0, b), (0, a)] S h n = mx_br (a < b) d 103 26 28 [l0, l1, l2, l3] [] S h n) ∧
  (∀ (d : Nat) (l0 l1 l2 l3 : Option mx_V) (S h : mx_H) (n : Int), mx_ex d 103 26 [l0, l1, l2, l3] [] S h n = mx_ex d 103 27 [l0, l1, l2, l3] [(0, (-1))] S h n) ∧
  (∀ (d : Nat) (x : Int) (l0 l1 l2 l3 : Option mx_V) (S h : mx_H) (n : Int), mx_ex d 103 27 [l0, l1, l2, l3] [(0, x)] S h n = some (some (0, x), S, h, n)) ∧
  (∀ (d : Nat) (x : Int) (l1 l2 l3 : Option mx_V) (S h : mx_H) (n : Int), mx_ex d 103 28 [some (2, x), l1, l2, l3] [] S h n = mx_ex d 103 29 [some (2, x), l1, l2, l3] [(2, x)] S h n) ∧
  (∀ (d : Nat) (a : Int) (l0 l1 l2 l3 : Option mx_V) (S h : mx_H) (n : Int), mx_ex d 103 29 [l0, l1, l2, l3] [(2, a)] S h n = mx_gd (7 ≤ S a (-2) ∧ S a (-2) ≤ 7) d 103 32 [l0, l1, l2, l3] [(2, S a 3)] S h n) ∧
  (∀ (d : Nat) (x : Int) (l0 l2 l3 : Option mx_V) (v0 : mx_V) (S h : mx_H) (n : Int), mx_ex d 103 32 [l0, some (0, x), l2, l3] [v0] S h n = mx_ex d 103 33 [l0, some (0, x), l2, l3] [(0, x), v0] S h n) ∧
  (∀ (d : Nat) (x : Int) (l0 l1 l3 : Option mx_V) (v0 v1 : mx_V) (S h : mx_H) (n : Int), mx_ex d 103 33 [l0, l1, some (0, x), l3] [v0, v1] S h n = mx_ex d 103 34 [l0, l1, some (0, x), l3] [(0, x), v0, v1] S h n) ∧
  (∀ (d : Nat) (x : Int) (l0 l1 l2 : Option mx_V) (v0 v1 v2 : mx_V) (S h : mx_H) (n : Int), mx_ex d 103 34 [l0, l1, l2, some (0, x)] [v0, v1, v2] S h n = mx_ex d 103 35 [l0, l1, l2, some (0, x)] [(0, x), v0, v1, v2] S h n) ∧
  (∀ (d : Nat) (x0 x1 x2 a : Int) (l0 l1 l2 l3 : Option mx_V) (S h : mx_H) (n : Int), mx_ex (d + 1) 103 35 [l0, l1, l2, l3] [(0, x0), (0, x1), (0, x2), (2, a)] S h n = mx_cl (S a (-2) = 8) d 88 [(2, a), (0, x2), (0, x1), (0, x0)] 103 38 [l0, l1, l2, l3] [] S h n) ∧
  (∀ (d : Nat) (l0 l1 l2 l3 : Option mx_V) (S h : mx_H) (n : Int), mx_ex d 103 38 [l0, l1, l2, l3] [] S h n = mx_ex d 103 39 [l0, l1, l2, l3] [(0, 1)] S h n) ∧
  (∀ (d : Nat) (x : Int) (l0 l1 l2 l3 : Option mx_V) (S h : mx_H) (n : Int), mx_ex d 103 39 [l0, l1, l2, l3] [(0, x)] S h n = some (some (0, x), S, h, n)) :=
  ⟨by intros; exact rfl,
   by intros; exact eq_ld rfl rfl,
   by intros; exact eq_cs rfl (Nat.le_of_ble_eq_true rfl) rfl rfl rfl (Nat.le_of_ble_eq_true rfl),
   by intros; exact eq_if0 rfl,
   by intros; exact eq_ld rfl rfl,
   by intros; exact eq_cs rfl (Nat.le_of_ble_eq_true rfl) rfl rfl rfl (Nat.le_of_ble_eq_true rfl),
   by intros; exact eq_if0 rfl,
   by intros; exact eq_ld rfl rfl,
   by intros; exact eq_cs rfl (Nat.le_of_ble_eq_true rfl) rfl rfl rfl (Nat.le_of_ble_eq_true rfl),
   by intros; exact eq_if0 rfl,
   by intros; exact eq_ld rfl rfl,
   by intros; exact eq_ld rfl rfl,
   by intros; exact eq_ic3 rfl,
   by intros; exact eq_push rfl,
   by intros; exact eq_ret rfl,
   by intros; exact eq_ld rfl rfl,
   by intros; exact eq_gr rfl,
   by intros; exact eq_ld rfl rfl,
   by intros; exact eq_ld rfl rfl,
   by intros; exact eq_ld rfl rfl,
   by intros; exact eq_cv rfl (Nat.le_of_ble_eq_true rfl) rfl rfl rfl (Nat.le_of_ble_eq_true rfl),
   by intros; exact eq_push rfl,
   by intros; exact eq_ret rfl⟩
theorem rw_X11_eveningOf :
  (∀ (d : Nat) (a0 a1 a2 : Int) (S h : mx_H) (n : Int), mx_M d 104 [(2, a0), (0, a1), (0, a2)] S h n = mx_ex d 104 0 [some (2, a0), some (0, a1), some (0, a2)] [] S h n) ∧
  (∀ (d : Nat) (x : Int) (l0 l2 : Option mx_V) (S h : mx_H) (n : Int), mx_ex d 104 0 [l0, some (0, x), l2] [] S h n = mx_ex d 104 1 [l0, some (0, x), l2] [(0, x)] S h n) ∧
  (∀ (d : Nat) (x0 : Int) (l0 l1 l2 : Option mx_V) (S h : mx_H) (n : Int), mx_ex (d + 1) 104 1 [l0, l1, l2] [(0, x0)] S h n = mx_rt (mx_M d 148 [(0, x0)] S h n) (d + 1) 104 4 [l0, l1, l2] []) ∧
  (∀ (d : Nat) (a : Int) (l0 l1 l2 : Option mx_V) (S h : mx_H) (n : Int), mx_ex d 104 4 [l0, l1, l2] [(0, a)] S h n = mx_br (a = 0) d 104 7 9 [l0, l1, l2] [] S h n) ∧
  (∀ (d : Nat) (l0 l1 l2 : Option mx_V) (S h : mx_H) (n : Int), mx_ex d 104 7 [l0, l1, l2] [] S h n = mx_ex d 104 8 [l0, l1, l2] [(0, (-1))] S h n) ∧
  (∀ (d : Nat) (x : Int) (l0 l1 l2 : Option mx_V) (S h : mx_H) (n : Int), mx_ex d 104 8 [l0, l1, l2] [(0, x)] S h n = some (some (0, x), S, h, n)) ∧
  (∀ (d : Nat) (x : Int) (l0 l1 : Option mx_V) (S h : mx_H) (n : Int), mx_ex d 104 9 [l0, l1, some (0, x)] [] S h n = mx_ex d 104 10 [l0, l1, some (0, x)] [(0, x)] S h n) ∧
  (∀ (d : Nat) (a : Int) (l0 l1 l2 : Option mx_V) (S h : mx_H) (n : Int), mx_ex d 104 10 [l0, l1, l2] [(0, a)] S h n = mx_sw a [(0, 36), (1, 46), (2, 56)] d 104 65 [l0, l1, l2] [] S h n) ∧
  (∀ (d : Nat) (x : Int) (l1 l2 : Option mx_V) (S h : mx_H) (n : Int), mx_ex d 104 36 [some (2, x), l1, l2] [] S h n = mx_ex d 104 37 [some (2, x), l1, l2] [(2, x)] S h n) ∧
  (∀ (d : Nat) (a : Int) (l0 l1 l2 : Option mx_V) (S h : mx_H) (n : Int), mx_ex d 104 37 [l0, l1, l2] [(2, a)] S h n = mx_gd (7 ≤ S a (-2) ∧ S a (-2) ≤ 7) d 104 40 [l0, l1, l2] [(2, S a 3)] S h n) ∧
  (∀ (d : Nat) (a : Int) (l0 l1 l2 : Option mx_V) (S h : mx_H) (n : Int), mx_ex d 104 40 [l0, l1, l2] [(2, a)] S h n = mx_gd (8 ≤ S a (-2) ∧ S a (-2) ≤ 8) d 104 43 [l0, l1, l2] [(2, S a 0)] S h n) ∧
  (∀ (d : Nat) (x : Int) (l0 l2 : Option mx_V) (v0 : mx_V) (S h : mx_H) (n : Int), mx_ex d 104 43 [l0, some (0, x), l2] [v0] S h n = mx_ex d 104 44 [l0, some (0, x), l2] [(0, x), v0] S h n) ∧
  (∀ (d : Nat) (i a : Int) (l0 l1 l2 : Option mx_V) (S h : mx_H) (n : Int), mx_ex d 104 44 [l0, l1, l2] [(0, i), (2, a)] S h n = mx_gd ((S a (-2) = 20 ∨ S a (-2) = 24) ∧ 0 ≤ i ∧ i < S a (-1)) d 104 45 [l0, l1, l2] [(0, h a i)] S h n) ∧
  (∀ (d : Nat) (x : Int) (l0 l1 l2 : Option mx_V) (S h : mx_H) (n : Int), mx_ex d 104 45 [l0, l1, l2] [(0, x)] S h n = some (some (0, x), S, h, n)) ∧
  (∀ (d : Nat) (x : Int) (l1 l2 : Option mx_V) (S h : mx_H) (n : Int), mx_ex d 104 46 [some (2, x), l1, l2] [] S h n = mx_ex d 104 47 [some (2, x), l1, l2] [(2, x)] S h n) ∧
  (∀ (d : Nat) (a : Int) (l0 l1 l2 : Option mx_V) (S h : mx_H) (n : Int), mx_ex d 104 47 [l0, l1, l2] [(2, a)] S h n = mx_gd (7 ≤ S a (-2) ∧ S a (-2) ≤ 7) d 104 50 [l0, l1, l2] [(2, S a 3)] S h n) ∧
  (∀ (d : Nat) (a : Int) (l0 l1 l2 : Option mx_V) (S h : mx_H) (n : Int), mx_ex d 104 50 [l0, l1, l2] [(2, a)] S h n = mx_gd (8 ≤ S a (-2) ∧ S a (-2) ≤ 8) d 104 53 [l0, l1, l2] [(2, S a 1)] S h n) ∧
  (∀ (d : Nat) (x : Int) (l0 l2 : Option mx_V) (v0 : mx_V) (S h : mx_H) (n : Int), mx_ex d 104 53 [l0, some (0, x), l2] [v0] S h n = mx_ex d 104 54 [l0, some (0, x), l2] [(0, x), v0] S h n) ∧
  (∀ (d : Nat) (i a : Int) (l0 l1 l2 : Option mx_V) (S h : mx_H) (n : Int), mx_ex d 104 54 [l0, l1, l2] [(0, i), (2, a)] S h n = mx_gd ((S a (-2) = 20 ∨ S a (-2) = 24) ∧ 0 ≤ i ∧ i < S a (-1)) d 104 55 [l0, l1, l2] [(0, h a i)] S h n) ∧
  (∀ (d : Nat) (x : Int) (l0 l1 l2 : Option mx_V) (S h : mx_H) (n : Int), mx_ex d 104 55 [l0, l1, l2] [(0, x)] S h n = some (some (0, x), S, h, n)) ∧
  (∀ (d : Nat) (x : Int) (l1 l2 : Option mx_V) (S h : mx_H) (n : Int), mx_ex d 104 56 [some (2, x), l1, l2] [] S h n = mx_ex d 104 57 [some (2, x), l1, l2] [(2, x)] S h n) ∧
  (∀ (d : Nat) (a : Int) (l0 l1 l2 : Option mx_V) (S h : mx_H) (n : Int), mx_ex d 104 57 [l0, l1, l2] [(2, a)] S h n = mx_gd (7 ≤ S a (-2) ∧ S a (-2) ≤ 7) d 104 60 [l0, l1, l2] [(2, S a 3)] S h n) ∧
  (∀ (d : Nat) (x : Int) (l0 l2 : Option mx_V) (v0 : mx_V) (S h : mx_H) (n : Int), mx_ex d 104 60 [l0, some (0, x), l2] [v0] S h n = mx_ex d 104 61 [l0, some (0, x), l2] [(0, x), v0] S h n) ∧
  (∀ (d : Nat) (x0 a : Int) (l0 l1 l2 : Option mx_V) (S h : mx_H) (n : Int), mx_ex (d + 1) 104 61 [l0, l1, l2] [(0, x0), (2, a)] S h n = mx_cl (S a (-2) = 8) d 89 [(2, a), (0, x0)] 104 64 [l0, l1, l2] [] S h n) ∧
  (∀ (d : Nat) (x : Int) (l0 l1 l2 : Option mx_V) (S h : mx_H) (n : Int), mx_ex d 104 64 [l0, l1, l2] [(0, x)] S h n = some (some (0, x), S, h, n)) ∧
  (∀ (d : Nat) (l0 l1 l2 : Option mx_V) (S h : mx_H) (n : Int), mx_ex d 104 65 [l0, l1, l2] [] S h n = mx_ex d 104 66 [l0, l1, l2] [(0, (-1))] S h n) ∧
  (∀ (d : Nat) (x : Int) (l0 l1 l2 : Option mx_V) (S h : mx_H) (n : Int), mx_ex d 104 66 [l0, l1, l2] [(0, x)] S h n = some (some (0, x), S, h, n)) :=
  ⟨by intros; exact rfl,
   by intros; exact eq_ld rfl rfl,
   by intros; exact eq_cs rfl (Nat.le_of_ble_eq_true rfl) rfl rfl rfl (Nat.le_of_ble_eq_true rfl),
   by intros; exact eq_if1 rfl,
   by intros; exact eq_push rfl,
   by intros; exact eq_ret rfl,
   by intros; exact eq_ld rfl rfl,
   by intros; exact eq_sw rfl,
   by intros; exact eq_ld rfl rfl,
   by intros; exact eq_gr rfl,
   by intros; exact eq_gr rfl,
   by intros; exact eq_ld rfl rfl,
   by intros; exact eq_iald rfl,
   by intros; exact eq_ret rfl,
   by intros; exact eq_ld rfl rfl,
   by intros; exact eq_gr rfl,
   by intros; exact eq_gr rfl,
   by intros; exact eq_ld rfl rfl,
   by intros; exact eq_iald rfl,
   by intros; exact eq_ret rfl,
   by intros; exact eq_ld rfl rfl,
   by intros; exact eq_gr rfl,
   by intros; exact eq_ld rfl rfl,
   by intros; exact eq_cv rfl (Nat.le_of_ble_eq_true rfl) rfl rfl rfl (Nat.le_of_ble_eq_true rfl),
   by intros; exact eq_ret rfl,
   by intros; exact eq_push rfl,
   by intros; exact eq_ret rfl⟩
theorem rh_X11_note_70 : ∀ (d : Nat) (x : Int) (l0 l1 l2 l3 l4 l5 l6 : Option mx_V) (S h : mx_H) (n : Int), mx_ex d 105 70 [l0, l1, l2, l3, l4, l5, l6, some (0, x)] [] S h n = mx_ex d 105 72 [l0, l1, l2, l3, l4, l5, l6, some (0, x)] [(0, x)] S h n := by intros; exact eq_ld rfl rfl
theorem rw_X11_note :
  (∀ (d : Nat) (a0 a1 a2 a3 a4 a5 : Int) (S h : mx_H) (n : Int), mx_M d 105 [(2, a0), (0, a1), (0, a2), (0, a3), (0, a4), (0, a5)] S h n = mx_ex d 105 0 [some (2, a0), some (0, a1), some (0, a2), some (0, a3), some (0, a4), some (0, a5), none, none] [] S h n) ∧
  (∀ (d : Nat) (x : Int) (l0 l2 l3 l4 l5 l6 l7 : Option mx_V) (S h : mx_H) (n : Int), mx_ex d 105 0 [l0, some (0, x), l2, l3, l4, l5, l6, l7] [] S h n = mx_ex d 105 1 [l0, some (0, x), l2, l3, l4, l5, l6, l7] [(0, x)] S h n) ∧
  (∀ (d : Nat) (l0 l1 l2 l3 l4 l5 l6 l7 : Option mx_V) (v0 : mx_V) (S h : mx_H) (n : Int), mx_ex d 105 1 [l0, l1, l2, l3, l4, l5, l6, l7] [v0] S h n = mx_ex d 105 2 [l0, l1, l2, l3, l4, l5, l6, l7] [(0, 0), v0] S h n) ∧
  (∀ (d : Nat) (l0 l1 l2 l3 l4 l5 l6 l7 : Option mx_V) (v0 v1 : mx_V) (S h : mx_H) (n : Int), mx_ex d 105 2 [l0, l1, l2, l3, l4, l5, l6, l7] [v0, v1] S h n = mx_ex d 105 3 [l0, l1, l2, l3, l4, l5, l6, l7] [(0, 5), v0, v1] S h n) ∧
  (∀ (d : Nat) (x0 x1 x2 : Int) (l0 l1 l2 l3 l4 l5 l6 l7 : Option mx_V) (S h : mx_H) (n : Int), mx_ex (d + 1) 105 3 [l0, l1, l2, l3, l4, l5, l6, l7] [(0, x0), (0, x1), (0, x2)] S h n = mx_rt (mx_M d 147 [(0, x2), (0, x1), (0, x0)] S h n) (d + 1) 105 6 [l0, l1, l2, l3, l4, l5, l6, l7] []) ∧
  (∀ (d : Nat) (a : Int) (l0 l1 l2 l3 l4 l5 l6 l7 : Option mx_V) (S h : mx_H) (n : Int), mx_ex d 105 6 [l0, l1, l2, l3, l4, l5, l6, l7] [(0, a)] S h n = mx_br (a = 0) d 105 26 9 [l0, l1, l2, l3, l4, l5, l6, l7] [] S h n) ∧
  (∀ (d : Nat) (x : Int) (l0 l1 l3 l4 l5 l6 l7 : Option mx_V) (S h : mx_H) (n : Int), mx_ex d 105 9 [l0, l1, some (0, x), l3, l4, l5, l6, l7] [] S h n = mx_ex d 105 10 [l0, l1, some (0, x), l3, l4, l5, l6, l7] [(0, x)] S h n) ∧
  (∀ (d : Nat) (x0 : Int) (l0 l1 l2 l3 l4 l5 l6 l7 : Option mx_V) (S h : mx_H) (n : Int), mx_ex (d + 1) 105 10 [l0, l1, l2, l3, l4, l5, l6, l7] [(0, x0)] S h n = mx_rt (mx_M d 148 [(0, x0)] S h n) (d + 1) 105 13 [l0, l1, l2, l3, l4, l5, l6, l7] []) ∧
  (∀ (d : Nat) (a : Int) (l0 l1 l2 l3 l4 l5 l6 l7 : Option mx_V) (S h : mx_H) (n : Int), mx_ex d 105 13 [l0, l1, l2, l3, l4, l5, l6, l7] [(0, a)] S h n = mx_br (a = 0) d 105 26 16 [l0, l1, l2, l3, l4, l5, l6, l7] [] S h n) ∧
  (∀ (d : Nat) (x : Int) (l0 l1 l2 l4 l5 l6 l7 : Option mx_V) (S h : mx_H) (n : Int), mx_ex d 105 16 [l0, l1, l2, some (0, x), l4, l5, l6, l7] [] S h n = mx_ex d 105 17 [l0, l1, l2, some (0, x), l4, l5, l6, l7] [(0, x)] S h n) ∧
  (∀ (d : Nat) (l0 l1 l2 l3 l4 l5 l6 l7 : Option mx_V) (v0 : mx_V) (S h : mx_H) (n : Int), mx_ex d 105 17 [l0, l1, l2, l3, l4, l5, l6, l7] [v0] S h n = mx_ex d 105 18 [l0, l1, l2, l3, l4, l5, l6, l7] [(0, 0), v0] S h n) ∧
  (∀ (d : Nat) (l0 l1 l2 l3 l4 l5 l6 l7 : Option mx_V) (v0 v1 : mx_V) (S h : mx_H) (n : Int), mx_ex d 105 18 [l0, l1, l2, l3, l4, l5, l6, l7] [v0, v1] S h n = mx_ex d 105 20 [l0, l1, l2, l3, l4, l5, l6, l7] [(0, 6), v0, v1] S h n) ∧
  (∀ (d : Nat) (x0 x1 x2 : Int) (l0 l1 l2 l3 l4 l5 l6 l7 : Option mx_V) (S h : mx_H) (n : Int), mx_ex (d + 1) 105 20 [l0, l1, l2, l3, l4, l5, l6, l7] [(0, x0), (0, x1), (0, x2)] S h n = mx_rt (mx_M d 147 [(0, x2), (0, x1), (0, x0)] S h n) (d + 1) 105 23 [l0, l1, l2, l3, l4, l5, l6, l7] []) ∧
  (∀ (d : Nat) (a : Int) (l0 l1 l2 l3 l4 l5 l6 l7 : Option mx_V) (S h : mx_H) (n : Int), mx_ex d 105 23 [l0, l1, l2, l3, l4, l5, l6, l7] [(0, a)] S h n = mx_br (a = 0) d 105 26 28 [l0, l1, l2, l3, l4, l5, l6, l7] [] S h n) ∧
  (∀ (d : Nat) (l0 l1 l2 l3 l4 l5 l6 l7 : Option mx_V) (S h : mx_H) (n : Int), mx_ex d 105 26 [l0, l1, l2, l3, l4, l5, l6, l7] [] S h n = mx_ex d 105 27 [l0, l1, l2, l3, l4, l5, l6, l7] [(0, (-1))] S h n) ∧
  (∀ (d : Nat) (x : Int) (l0 l1 l2 l3 l4 l5 l6 l7 : Option mx_V) (S h : mx_H) (n : Int), mx_ex d 105 27 [l0, l1, l2, l3, l4, l5, l6, l7] [(0, x)] S h n = some (some (0, x), S, h, n)) ∧
  (∀ (d : Nat) (x : Int) (l0 l1 l2 l3 l5 l6 l7 : Option mx_V) (S h : mx_H) (n : Int), mx_ex d 105 28 [l0, l1, l2, l3, some (0, x), l5, l6, l7] [] S h n = mx_ex d 105 30 [l0, l1, l2, l3, some (0, x), l5, l6, l7] [(0, x)] S h n) ∧
  (∀ (d : Nat) (l0 l1 l2 l3 l4 l5 l6 l7 : Option mx_V) (v0 : mx_V) (S h : mx_H) (n : Int), mx_ex d 105 30 [l0, l1, l2, l3, l4, l5, l6, l7] [v0] S h n = mx_ex d 105 31 [l0, l1, l2, l3, l4, l5, l6, l7] [(0, 1), v0] S h n) ∧
  (∀ (d : Nat) (l0 l1 l2 l3 l4 l5 l6 l7 : Option mx_V) (v0 v1 : mx_V) (S h : mx_H) (n : Int), mx_ex d 105 31 [l0, l1, l2, l3, l4, l5, l6, l7] [v0, v1] S h n = mx_ex d 105 33 [l0, l1, l2, l3, l4, l5, l6, l7] [(0, 6), v0, v1] S h n) ∧
  (∀ (d : Nat) (x0 x1 x2 : Int) (l0 l1 l2 l3 l4 l5 l6 l7 : Option mx_V) (S h : mx_H) (n : Int), mx_ex (d + 1) 105 33 [l0, l1, l2, l3, l4, l5, l6, l7] [(0, x0), (0, x1), (0, x2)] S h n = mx_rt (mx_M d 147 [(0, x2), (0, x1), (0, x0)] S h n) (d + 1) 105 36 [l0, l1, l2, l3, l4, l5, l6, l7] []) ∧
  (∀ (d : Nat) (a : Int) (l0 l1 l2 l3 l4 l5 l6 l7 : Option mx_V) (S h : mx_H) (n : Int), mx_ex d 105 36 [l0, l1, l2, l3, l4, l5, l6, l7] [(0, a)] S h n = mx_br (a = 0) d 105 44 39 [l0, l1, l2, l3, l4, l5, l6, l7] [] S h n) ∧
  (∀ (d : Nat) (x : Int) (l0 l1 l2 l3 l4 l6 l7 : Option mx_V) (S h : mx_H) (n : Int), mx_ex d 105 39 [l0, l1, l2, l3, l4, some (0, x), l6, l7] [] S h n = mx_ex d 105 41 [l0, l1, l2, l3, l4, some (0, x), l6, l7] [(0, x)] S h n) ∧
  (∀ (d : Nat) (a : Int) (l0 l1 l2 l3 l4 l5 l6 l7 : Option mx_V) (S h : mx_H) (n : Int), mx_ex d 105 41 [l0, l1, l2, l3, l4, l5, l6, l7] [(0, a)] S h n = mx_br (a < 0) d 105 44 46 [l0, l1, l2, l3, l4, l5, l6, l7] [] S h n) ∧
  (∀ (d : Nat) (l0 l1 l2 l3 l4 l5 l6 l7 : Option mx_V) (S h : mx_H) (n : Int), mx_ex d 105 44 [l0, l1, l2, l3, l4, l5, l6, l7] [] S h n = mx_ex d 105 45 [l0, l1, l2, l3, l4, l5, l6, l7] [(0, (-1))] S h n) ∧
  (∀ (d : Nat) (x : Int) (l0 l1 l2 l3 l4 l5 l6 l7 : Option mx_V) (S h : mx_H) (n : Int), mx_ex d 105 45 [l0, l1, l2, l3, l4, l5, l6, l7] [(0, x)] S h n = some (some (0, x), S, h, n)) ∧
  (∀ (d : Nat) (x : Int) (l1 l2 l3 l4 l5 l6 l7 : Option mx_V) (S h : mx_H) (n : Int), mx_ex d 105 46 [some (2, x), l1, l2, l3, l4, l5, l6, l7] [] S h n = mx_ex d 105 47 [some (2, x), l1, l2, l3, l4, l5, l6, l7] [(2, x)] S h n) ∧
  (∀ (d : Nat) (a : Int) (l0 l1 l2 l3 l4 l5 l6 l7 : Option mx_V) (S h : mx_H) (n : Int), mx_ex d 105 47 [l0, l1, l2, l3, l4, l5, l6, l7] [(2, a)] S h n = mx_gd (7 ≤ S a (-2) ∧ S a (-2) ≤ 7) d 105 50 [l0, l1, l2, l3, l4, l5, l6, l7] [(2, S a 3)] S h n) ∧
  (∀ (d : Nat) (a : Int) (l0 l1 l2 l3 l4 l5 l6 l7 : Option mx_V) (S h : mx_H) (n : Int), mx_ex d 105 50 [l0, l1, l2, l3, l4, l5, l6, l7] [(2, a)] S h n = mx_gd (8 ≤ S a (-2) ∧ S a (-2) ≤ 8) d 105 53 [l0, l1, l2, l3, l4, l5, l6, l7] [(0, h a 3)] S h n) ∧
  (∀ (d : Nat) (l0 l1 l2 l3 l4 l5 l6 l7 : Option mx_V) (v0 : mx_V) (S h : mx_H) (n : Int), mx_ex d 105 53 [l0, l1, l2, l3, l4, l5, l6, l7] [v0] S h n = mx_ex d 105 55 [l0, l1, l2, l3, l4, l5, l6, l7] [(0, 6), v0] S h n) ∧
  (∀ (d : Nat) (b a : Int) (l0 l1 l2 l3 l4 l5 l6 l7 : Option mx_V) (S h : mx_H) (n : Int), mx_ex d 105 55 [l0, l1, l2, l3, l4, l5, l6, l7] [(0, b), (0, a)] S h n = mx_br (a < b) d 105 61 58 [l0, l1, l2, l3, l4, l5, l6, l7] [] S h n) ∧
  (∀ (d : Nat) (l0 l1 l2 l3 l4 l5 l6 l7 : Option mx_V) (S h : mx_H) (n : Int), mx_ex d 105 58 [l0, l1, l2, l3, l4, l5, l6, l7] [] S h n = mx_ex d 105 60 [l0, l1, l2, l3, l4, l5, l6, l7] [(0, (-2))] S h n) ∧
  (∀ (d : Nat) (x : Int) (l0 l1 l2 l3 l4 l5 l6 l7 : Option mx_V) (S h : mx_H) (n : Int), mx_ex d 105 60 [l0, l1, l2, l3, l4, l5, l6, l7] [(0, x)] S h n = some (some (0, x), S, h, n)) ∧
  (∀ (d : Nat) (x : Int) (l0 l1 l2 l3 l5 l6 l7 : Option mx_V) (S h : mx_H) (n : Int), mx_ex d 105 61 [l0, l1, l2, l3, some (0, x), l5, l6, l7] [] S h n = mx_ex d 105 63 [l0, l1, l2, l3, some (0, x), l5, l6, l7] [(0, x)] S h n) ∧
  (∀ (d : Nat) (x : Int) (l0 l1 l2 l3 l4 l5 l6 l7 : Option mx_V) (S h : mx_H) (n : Int), mx_ex d 105 63 [l0, l1, l2, l3, l4, l5, l6, l7] [(0, x)] S h n = mx_gd (0 ≤ x ∧ x ≤ 300) d 105 65 [l0, l1, l2, l3, l4, l5, l6, l7] [(2, n)] (mx_t S n 20 x) (mx_z h n) (n + 1)) ∧
  (∀ (d : Nat) (x : Int) (l0 l1 l2 l3 l4 l5 l6 l7 : Option mx_V) (S h : mx_H) (n : Int), mx_ex d 105 65 [l0, l1, l2, l3, l4, l5, l6, l7] [(2, x)] S h n = mx_ex d 105 67 [l0, l1, l2, l3, l4, mx_nl l5, some (2, x), l7] [] S h n) ∧
  (∀ (d : Nat) (l0 l1 l2 l3 l4 l5 l6 l7 : Option mx_V) (S h : mx_H) (n : Int), mx_ex d 105 67 [l0, l1, l2, l3, l4, l5, l6, l7] [] S h n = mx_ex d 105 68 [l0, l1, l2, l3, l4, l5, l6, l7] [(0, 0)] S h n) ∧
  (∀ (d : Nat) (x : Int) (l0 l1 l2 l3 l4 l5 l6 l7 : Option mx_V) (S h : mx_H) (n : Int), mx_ex d 105 68 [l0, l1, l2, l3, l4, l5, l6, l7] [(0, x)] S h n = mx_ex d 105 70 [l0, l1, l2, l3, l4, l5, mx_nl l6, some (0, x)] [] S h n) ∧
  (∀ (d : Nat) (x : Int) (l0 l1 l2 l3 l5 l6 l7 : Option mx_V) (v0 : mx_V) (S h : mx_H) (n : Int), mx_ex d 105 72 [l0, l1, l2, l3, some (0, x), l5, l6, l7] [v0] S h n = mx_ex d 105 74 [l0, l1, l2, l3, some (0, x), l5, l6, l7] [(0, x), v0] S h n) ∧
  (∀ (d : Nat) (b a : Int) (l0 l1 l2 l3 l4 l5 l6 l7 : Option mx_V) (S h : mx_H) (n : Int), mx_ex d 105 74 [l0, l1, l2, l3, l4, l5, l6, l7] [(0, b), (0, a)] S h n = mx_br (a < b) d 105 77 103 [l0, l1, l2, l3, l4, l5, l6, l7] [] S h n) ∧
  (∀ (d : Nat) (x : Int) (l0 l1 l2 l3 l4 l5 l7 : Option mx_V) (S h : mx_H) (n : Int), mx_ex d 105 77 [l0, l1, l2, l3, l4, l5, some (2, x), l7] [] S h n = mx_ex d 105 79 [l0, l1, l2, l3, l4, l5, some (2, x), l7] [(2, x)] S h n) ∧
  (∀ (d : Nat) (x : Int) (l0 l1 l2 l3 l4 l5 l6 : Option mx_V) (v0 : mx_V) (S h : mx_H) (n : Int), mx_ex d 105 79 [l0, l1, l2, l3, l4, l5, l6, some (0, x)] [v0] S h n = mx_ex d 105 81 [l0, l1, l2, l3, l4, l5, l6, some (0, x)] [(0, x), v0] S h n) ∧
  (∀ (d : Nat) (x : Int) (l0 l1 l2 l3 l4 l6 l7 : Option mx_V) (v0 v1 : mx_V) (S h : mx_H) (n : Int), mx_ex d 105 81 [l0, l1, l2, l3, l4, some (0, x), l6, l7] [v0, v1] S h n = mx_ex d 105 83 [l0, l1, l2, l3, l4, some (0, x), l6, l7] [(0, x), v0, v1] S h n) ∧
  (∀ (d : Nat) (l0 l1 l2 l3 l4 l5 l6 l7 : Option mx_V) (v0 v1 v2 : mx_V) (S h : mx_H) (n : Int), mx_ex d 105 83 [l0, l1, l2, l3, l4, l5, l6, l7] [v0, v1, v2] S h n = mx_ex d 105 84 [l0, l1, l2, l3, l4, l5, l6, l7] [(0, 4), v0, v1, v2] S h n) ∧
  (∀ (d : Nat) (x : Int) (l0 l1 l2 l3 l5 l6 l7 : Option mx_V) (v0 v1 v2 v3 : mx_V) (S h : mx_H) (n : Int), mx_ex d 105 84 [l0, l1, l2, l3, some (0, x), l5, l6, l7] [v0, v1, v2, v3] S h n = mx_ex d 105 86 [l0, l1, l2, l3, some (0, x), l5, l6, l7] [(0, x), v0, v1, v2, v3] S h n) ∧
  (∀ (d : Nat) (l0 l1 l2 l3 l4 l5 l6 l7 : Option mx_V) (v0 v1 v2 v3 v4 : mx_V) (S h : mx_H) (n : Int), mx_ex d 105 86 [l0, l1, l2, l3, l4, l5, l6, l7] [v0, v1, v2, v3, v4] S h n = mx_ex d 105 87 [l0, l1, l2, l3, l4, l5, l6, l7] [(0, 1), v0, v1, v2, v3, v4] S h n) ∧
  (∀ (d : Nat) (b a : Int) (l0 l1 l2 l3 l4 l5 l6 l7 : Option mx_V) (v2 v3 v4 v5 : mx_V) (S h : mx_H) (n : Int), mx_ex d 105 87 [l0, l1, l2, l3, l4, l5, l6, l7] [(0, b), (0, a), v2, v3, v4, v5] S h n = mx_ex d 105 88 [l0, l1, l2, l3, l4, l5, l6, l7] [(0, mx_w (a - b)), v2, v3, v4, v5] S h n) ∧
  (∀ (d : Nat) (x : Int) (l0 l1 l2 l3 l4 l5 l6 : Option mx_V) (v0 v1 v2 v3 v4 : mx_V) (S h : mx_H) (n : Int), mx_ex d 105 88 [l0, l1, l2, l3, l4, l5, l6, some (0, x)] [v0, v1, v2, v3, v4] S h n = mx_ex d 105 90 [l0, l1, l2, l3, l4, l5, l6, some (0, x)] [(0, x), v0, v1, v2, v3, v4] S h n) ∧
  (∀ (d : Nat) (b a : Int) (l0 l1 l2 l3 l4 l5 l6 l7 : Option mx_V) (v2 v3 v4 v5 : mx_V) (S h : mx_H) (n : Int), mx_ex d 105 90 [l0, l1, l2, l3, l4, l5, l6, l7] [(0, b), (0, a), v2, v3, v4, v5] S h n = mx_ex d 105 91 [l0, l1, l2, l3, l4, l5, l6, l7] [(0, mx_w (a - b)), v2, v3, v4, v5] S h n) ∧
  (∀ (d : Nat) (b a : Int) (l0 l1 l2 l3 l4 l5 l6 l7 : Option mx_V) (v2 v3 v4 : mx_V) (S h : mx_H) (n : Int), mx_ex d 105 91 [l0, l1, l2, l3, l4, l5, l6, l7] [(0, b), (0, a), v2, v3, v4] S h n = mx_ex d 105 92 [l0, l1, l2, l3, l4, l5, l6, l7] [(0, mx_w (a * b)), v2, v3, v4] S h n) ∧
  (∀ (d : Nat) (b a : Int) (l0 l1 l2 l3 l4 l5 l6 l7 : Option mx_V) (v2 v3 : mx_V) (S h : mx_H) (n : Int), mx_ex d 105 92 [l0, l1, l2, l3, l4, l5, l6, l7] [(0, b), (0, a), v2, v3] S h n = mx_ex d 105 93 [l0, l1, l2, l3, l4, l5, l6, l7] [(0, mx_shr a b), v2, v3] S h n) ∧
  (∀ (d : Nat) (l0 l1 l2 l3 l4 l5 l6 l7 : Option mx_V) (v0 v1 v2 : mx_V) (S h : mx_H) (n : Int), mx_ex d 105 93 [l0, l1, l2, l3, l4, l5, l6, l7] [v0, v1, v2] S h n = mx_ex d 105 95 [l0, l1, l2, l3, l4, l5, l6, l7] [(0, 15), v0, v1, v2] S h n) ∧
  (∀ (d : Nat) (b a : Int) (l0 l1 l2 l3 l4 l5 l6 l7 : Option mx_V) (v2 v3 : mx_V) (S h : mx_H) (n : Int), mx_ex d 105 95 [l0, l1, l2, l3, l4, l5, l6, l7] [(0, b), (0, a), v2, v3] S h n = mx_ex d 105 96 [l0, l1, l2, l3, l4, l5, l6, l7] [(0, mx_and a b), v2, v3] S h n) ∧
  (∀ (d : Nat) (v i a : Int) (l0 l1 l2 l3 l4 l5 l6 l7 : Option mx_V) (S h : mx_H) (n : Int), mx_ex d 105 96 [l0, l1, l2, l3, l4, l5, l6, l7] [(0, v), (0, i), (2, a)] S h n = mx_gd (S a (-2) = 20 ∧ 0 ≤ i ∧ i < S a (-1)) d 105 97 [l0, l1, l2, l3, l4, l5, l6, l7] [] S (mx_u h a i v) n) ∧
  (∀ (d : Nat) (x : Int) (l0 l1 l2 l3 l4 l5 l6 : Option mx_V) (S h : mx_H) (n : Int), mx_ex d 105 97 [l0, l1, l2, l3, l4, l5, l6, some (0, x)] [] S h n = mx_ex d 105 100 [l0, l1, l2, l3, l4, l5, mx_nl l6, some (0, mx_w (x + 1))] [] S h n) ∧
  (∀ (d : Nat) (l0 l1 l2 l3 l4 l5 l6 l7 : Option mx_V) (S h : mx_H) (n : Int), mx_ex d 105 100 [l0, l1, l2, l3, l4, l5, l6, l7] [] S h n = mx_ex d 105 70 [l0, l1, l2, l3, l4, l5, l6, l7] [] S h n) ∧
  (∀ (d : Nat) (x : Int) (l1 l2 l3 l4 l5 l6 l7 : Option mx_V) (S h : mx_H) (n : Int), mx_ex d 105 103 [some (2, x), l1, l2, l3, l4, l5, l6, l7] [] S h n = mx_ex d 105 104 [some (2, x), l1, l2, l3, l4, l5, l6, l7] [(2, x)] S h n) ∧
  (∀ (d : Nat) (a : Int) (l0 l1 l2 l3 l4 l5 l6 l7 : Option mx_V) (S h : mx_H) (n : Int), mx_ex d 105 104 [l0, l1, l2, l3, l4, l5, l6, l7] [(2, a)] S h n = mx_gd (7 ≤ S a (-2) ∧ S a (-2) ≤ 7) d 105 107 [l0, l1, l2, l3, l4, l5, l6, l7] [(2, S a 3)] S h n) ∧
  (∀ (d : Nat) (x : Int) (l0 l2 l3 l4 l5 l6 l7 : Option mx_V) (v0 : mx_V) (S h : mx_H) (n : Int), mx_ex d 105 107 [l0, some (0, x), l2, l3, l4, l5, l6, l7] [v0] S h n = mx_ex d 105 108 [l0, some (0, x), l2, l3, l4, l5, l6, l7] [(0, x), v0] S h n) ∧
  (∀ (d : Nat) (x : Int) (l0 l1 l3 l4 l5 l6 l7 : Option mx_V) (v0 v1 : mx_V) (S h : mx_H) (n : Int), mx_ex d 105 108 [l0, l1, some (0, x), l3, l4, l5, l6, l7] [v0, v1] S h n = mx_ex d 105 109 [l0, l1, some (0, x), l3, l4, l5, l6, l7] [(0, x), v0, v1] S h n) ∧
  (∀ (d : Nat) (x : Int) (l0 l1 l2 l4 l5 l6 l7 : Option mx_V) (v0 v1 v2 : mx_V) (S h : mx_H) (n : Int), mx_ex d 105 109 [l0, l1, l2, some (0, x), l4, l5, l6, l7] [v0, v1, v2] S h n = mx_ex d 105 110 [l0, l1, l2, some (0, x), l4, l5, l6, l7] [(0, x), v0, v1, v2] S h n) ∧
  (∀ (d : Nat) (x : Int) (l0 l1 l2 l3 l4 l5 l7 : Option mx_V) (v0 v1 v2 v3 : mx_V) (S h : mx_H) (n : Int), mx_ex d 105 110 [l0, l1, l2, l3, l4, l5, some (2, x), l7] [v0, v1, v2, v3] S h n = mx_ex d 105 112 [l0, l1, l2, l3, l4, l5, some (2, x), l7] [(2, x), v0, v1, v2, v3] S h n) ∧
  (∀ (d : Nat) (x0 x1 x2 x3 a : Int) (l0 l1 l2 l3 l4 l5 l6 l7 : Option mx_V) (S h : mx_H) (n : Int), mx_ex (d + 1) 105 112 [l0, l1, l2, l3, l4, l5, l6, l7] [(2, x0), (0, x1), (0, x2), (0, x3), (2, a)] S h n = mx_cl (S a (-2) = 8) d 92 [(2, a), (0, x3), (0, x2), (0, x1), (2, x0)] 105 115 [l0, l1, l2, l3, l4, l5, l6, l7] [] S h n) ∧
  (∀ (d : Nat) (x : Int) (l0 l1 l2 l3 l4 l5 l6 l7 : Option mx_V) (S h : mx_H) (n : Int), mx_ex d 105 115 [l0, l1, l2, l3, l4, l5, l6, l7] [(0, x)] S h n = some (some (0, x), S, h, n)) :=
  ⟨by intros; exact rfl,
   by intros; exact eq_ld rfl rfl,
   by intros; exact eq_push rfl,
   by intros; exact eq_push rfl,
   by intros; exact eq_cs rfl (Nat.le_of_ble_eq_true rfl) rfl rfl rfl (Nat.le_of_ble_eq_true rfl),
   by intros; exact eq_if0 rfl,
   by intros; exact eq_ld rfl rfl,
   by intros; exact eq_cs rfl (Nat.le_of_ble_eq_true rfl) rfl rfl rfl (Nat.le_of_ble_eq_true rfl),
   by intros; exact eq_if0 rfl,
   by intros; exact eq_ld rfl rfl,
   by intros; exact eq_push rfl,
   by intros; exact eq_push rfl,
   by intros; exact eq_cs rfl (Nat.le_of_ble_eq_true rfl) rfl rfl rfl (Nat.le_of_ble_eq_true rfl),
   by intros; exact eq_if1 rfl,
   by intros; exact eq_push rfl,
   by intros; exact eq_ret rfl,
   by intros; exact eq_ld rfl rfl,
   by intros; exact eq_push rfl,
   by intros; exact eq_push rfl,
   by intros; exact eq_cs rfl (Nat.le_of_ble_eq_true rfl) rfl rfl rfl (Nat.le_of_ble_eq_true rfl),
   by intros; exact eq_if0 rfl,
   by intros; exact eq_ld rfl rfl,
   by intros; exact eq_if3 rfl,
   by intros; exact eq_push rfl,
   by intros; exact eq_ret rfl,
   by intros; exact eq_ld rfl rfl,
   by intros; exact eq_gr rfl,
   by intros; exact eq_gi rfl,
   by intros; exact eq_push rfl,
   by intros; exact eq_ic2 rfl,
   by intros; exact eq_push rfl,
   by intros; exact eq_ret rfl,
   by intros; exact eq_ld rfl rfl,
   by intros; exact eq_newa rfl,
   by intros; exact eq_st rfl (by decide) (Nat.le_of_ble_eq_true rfl) rfl,
   by intros; exact eq_push rfl,
   by intros; exact eq_st rfl (by decide) (Nat.le_of_ble_eq_true rfl) rfl,
   by intros; exact eq_ld rfl rfl,
   by intros; exact eq_ic3 rfl,
   by intros; exact eq_ld rfl rfl,
   by intros; exact eq_ld rfl rfl,
   by intros; exact eq_ld rfl rfl,
   by intros; exact eq_push rfl,
   by intros; exact eq_ld rfl rfl,
   by intros; exact eq_push rfl,
   by intros; exact eq_i2 (o := mx_sub) rfl,
   by intros; exact eq_ld rfl rfl,
   by intros; exact eq_i2 (o := mx_sub) rfl,
   by intros; exact eq_i2 (o := mx_mul) rfl,
   by intros; exact eq_i2 (o := mx_shr) rfl,
   by intros; exact eq_push rfl,
   by intros; exact eq_i2 (o := mx_and) rfl,
   by intros; exact eq_iast rfl,
   by intros; exact eq_inc rfl rfl rfl,
   by intros; exact eq_go rfl,
   by intros; exact eq_ld rfl rfl,
   by intros; exact eq_gr rfl,
   by intros; exact eq_ld rfl rfl,
   by intros; exact eq_ld rfl rfl,
   by intros; exact eq_ld rfl rfl,
   by intros; exact eq_ld rfl rfl,
   by intros; exact eq_cv rfl (Nat.le_of_ble_eq_true rfl) rfl rfl rfl (Nat.le_of_ble_eq_true rfl),
   by intros; exact eq_ret rfl⟩
theorem rw_X11_noteOf :
  (∀ (d : Nat) (a0 a1 a2 : Int) (S h : mx_H) (n : Int), mx_M d 106 [(2, a0), (0, a1), (0, a2)] S h n = mx_ex d 106 0 [some (2, a0), some (0, a1), some (0, a2), none] [] S h n) ∧
  (∀ (d : Nat) (x : Int) (l1 l2 l3 : Option mx_V) (S h : mx_H) (n : Int), mx_ex d 106 0 [some (2, x), l1, l2, l3] [] S h n = mx_ex d 106 1 [some (2, x), l1, l2, l3] [(2, x)] S h n) ∧
  (∀ (d : Nat) (a : Int) (l0 l1 l2 l3 : Option mx_V) (S h : mx_H) (n : Int), mx_ex d 106 1 [l0, l1, l2, l3] [(2, a)] S h n = mx_gd (7 ≤ S a (-2) ∧ S a (-2) ≤ 7) d 106 4 [l0, l1, l2, l3] [(2, S a 3)] S h n) ∧
  (∀ (d : Nat) (x : Int) (l0 l2 l3 : Option mx_V) (v0 : mx_V) (S h : mx_H) (n : Int), mx_ex d 106 4 [l0, some (0, x), l2, l3] [v0] S h n = mx_ex d 106 5 [l0, some (0, x), l2, l3] [(0, x), v0] S h n) ∧
  (∀ (d : Nat) (x0 a : Int) (l0 l1 l2 l3 : Option mx_V) (S h : mx_H) (n : Int), mx_ex (d + 1) 106 5 [l0, l1, l2, l3] [(0, x0), (2, a)] S h n = mx_cl (S a (-2) = 8) d 91 [(2, a), (0, x0)] 106 8 [l0, l1, l2, l3] [] S h n) ∧
  (∀ (d : Nat) (x : Int) (l0 l1 l2 l3 : Option mx_V) (S h : mx_H) (n : Int), mx_ex d 106 8 [l0, l1, l2, l3] [(2, x)] S h n = mx_ex d 106 9 [l0, l1, mx_nl l2, some (2, x)] [] S h n) ∧
  (∀ (d : Nat) (x : Int) (l0 l1 l2 : Option mx_V) (S h : mx_H) (n : Int), mx_ex d 106 9 [l0, l1, l2, some (2, x)] [] S h n = mx_ex d 106 10 [l0, l1, l2, some (2, x)] [(2, x)] S h n) ∧
  (∀ (d : Nat) (a : Int) (l0 l1 l2 l3 : Option mx_V) (S h : mx_H) (n : Int), mx_ex d 106 10 [l0, l1, l2, l3] [(2, a)] S h n = mx_br (a = -1) d 106 13 15 [l0, l1, l2, l3] [] S h n) ∧
  (∀ (d : Nat) (l0 l1 l2 l3 : Option mx_V) (S h : mx_H) (n : Int), mx_ex d 106 13 [l0, l1, l2, l3] [] S h n = mx_ex d 106 14 [l0, l1, l2, l3] [(0, (-1))] S h n) ∧
  (∀ (d : Nat) (x : Int) (l0 l1 l2 l3 : Option mx_V) (S h : mx_H) (n : Int), mx_ex d 106 14 [l0, l1, l2, l3] [(0, x)] S h n = some (some (0, x), S, h, n)) ∧
  (∀ (d : Nat) (x : Int) (l0 l1 l3 : Option mx_V) (S h : mx_H) (n : Int), mx_ex d 106 15 [l0, l1, some (0, x), l3] [] S h n = mx_ex d 106 16 [l0, l1, some (0, x), l3] [(0, x)] S h n) ∧
  (∀ (d : Nat) (a : Int) (l0 l1 l2 l3 : Option mx_V) (S h : mx_H) (n : Int), mx_ex d 106 16 [l0, l1, l2, l3] [(0, a)] S h n = mx_sw a [(0, 48), (1, 53), (2, 58), (3, 63)] d 106 69 [l0, l1, l2, l3] [] S h n) ∧
  (∀ (d : Nat) (x : Int) (l0 l1 l2 : Option mx_V) (S h : mx_H) (n : Int), mx_ex d 106 48 [l0, l1, l2, some (2, x)] [] S h n = mx_ex d 106 49 [l0, l1, l2, some (2, x)] [(2, x)] S h n) ∧
  (∀ (d : Nat) (a : Int) (l0 l1 l2 l3 : Option mx_V) (S h : mx_H) (n : Int), mx_ex (d + 1) 106 49 [l0, l1, l2, l3] [(2, a)] S h n = mx_cu (mx_vt (S a (-2)) [(1, 39), (2, 55), (3, 1), (4, 34), (5, 81), (6, 8)]) d [(2, a)] 106 52 [l0, l1, l2, l3] [] S h n) ∧
  (∀ (d : Nat) (x : Int) (l0 l1 l2 l3 : Option mx_V) (S h : mx_H) (n : Int), mx_ex d 106 52 [l0, l1, l2, l3] [(0, x)] S h n = some (some (0, x), S, h, n)) ∧
  (∀ (d : Nat) (x : Int) (l0 l1 l2 : Option mx_V) (S h : mx_H) (n : Int), mx_ex d 106 53 [l0, l1, l2, some (2, x)] [] S h n = mx_ex d 106 54 [l0, l1, l2, some (2, x)] [(2, x)] S h n) ∧
  (∀ (d : Nat) (a : Int) (l0 l1 l2 l3 : Option mx_V) (S h : mx_H) (n : Int), mx_ex d 106 54 [l0, l1, l2, l3] [(2, a)] S h n = mx_gd (1 ≤ S a (-2) ∧ S a (-2) ≤ 6) d 106 57 [l0, l1, l2, l3] [(0, h a 3)] S h n) ∧
  (∀ (d : Nat) (x : Int) (l0 l1 l2 l3 : Option mx_V) (S h : mx_H) (n : Int), mx_ex d 106 57 [l0, l1, l2, l3] [(0, x)] S h n = some (some (0, x), S, h, n)) ∧
  (∀ (d : Nat) (x : Int) (l0 l1 l2 : Option mx_V) (S h : mx_H) (n : Int), mx_ex d 106 58 [l0, l1, l2, some (2, x)] [] S h n = mx_ex d 106 59 [l0, l1, l2, some (2, x)] [(2, x)] S h n) ∧
  (∀ (d : Nat) (a : Int) (l0 l1 l2 l3 : Option mx_V) (S h : mx_H) (n : Int), mx_ex d 106 59 [l0, l1, l2, l3] [(2, a)] S h n = mx_gd (1 ≤ S a (-2) ∧ S a (-2) ≤ 6) d 106 62 [l0, l1, l2, l3] [(0, h a 1)] S h n) ∧
  (∀ (d : Nat) (x : Int) (l0 l1 l2 l3 : Option mx_V) (S h : mx_H) (n : Int), mx_ex d 106 62 [l0, l1, l2, l3] [(0, x)] S h n = some (some (0, x), S, h, n)) ∧
  (∀ (d : Nat) (x : Int) (l0 l1 l2 : Option mx_V) (S h : mx_H) (n : Int), mx_ex d 106 63 [l0, l1, l2, some (2, x)] [] S h n = mx_ex d 106 64 [l0, l1, l2, some (2, x)] [(2, x)] S h n) ∧
  (∀ (d : Nat) (a : Int) (l0 l1 l2 l3 : Option mx_V) (S h : mx_H) (n : Int), mx_ex d 106 64 [l0, l1, l2, l3] [(2, a)] S h n = mx_gd (1 ≤ S a (-2) ∧ S a (-2) ≤ 6) d 106 67 [l0, l1, l2, l3] [(2, S a 2)] S h n) ∧
  (∀ (d : Nat) (a : Int) (l0 l1 l2 l3 : Option mx_V) (S h : mx_H) (n : Int), mx_ex d 106 67 [l0, l1, l2, l3] [(2, a)] S h n = mx_gd (20 ≤ S a (-2) ∧ S a (-2) ≤ 25) d 106 68 [l0, l1, l2, l3] [(0, S a (-1))] S h n) ∧
  (∀ (d : Nat) (x : Int) (l0 l1 l2 l3 : Option mx_V) (S h : mx_H) (n : Int), mx_ex d 106 68 [l0, l1, l2, l3] [(0, x)] S h n = some (some (0, x), S, h, n)) ∧
  (∀ (d : Nat) (x : Int) (l0 l1 l3 : Option mx_V) (S h : mx_H) (n : Int), mx_ex d 106 69 [l0, l1, some (0, x), l3] [] S h n = mx_ex d 106 70 [l0, l1, some (0, x), l3] [(0, x)] S h n) ∧
  (∀ (d : Nat) (l0 l1 l2 l3 : Option mx_V) (v0 : mx_V) (S h : mx_H) (n : Int), mx_ex d 106 70 [l0, l1, l2, l3] [v0] S h n = mx_ex d 106 72 [l0, l1, l2, l3] [(0, 10), v0] S h n) ∧
  (∀ (d : Nat) (b a : Int) (l0 l1 l2 l3 : Option mx_V) (S h : mx_H) (n : Int), mx_ex d 106 72 [l0, l1, l2, l3] [(0, b), (0, a)] S h n = mx_br (a < b) d 106 98 75 [l0, l1, l2, l3] [] S h n) ∧
  (∀ (d : Nat) (x : Int) (l0 l1 l2 : Option mx_V) (S h : mx_H) (n : Int), mx_ex d 106 75 [l0, l1, l2, some (2, x)] [] S h n = mx_ex d 106 76 [l0, l1, l2, some (2, x)] [(2, x)] S h n) ∧
  (∀ (d : Nat) (x : Int) (l0 l1 l3 : Option mx_V) (v0 : mx_V) (S h : mx_H) (n : Int), mx_ex d 106 76 [l0, l1, some (0, x), l3] [v0] S h n = mx_ex d 106 77 [l0, l1, some (0, x), l3] [(0, x), v0] S h n) ∧
  (∀ (d : Nat) (l0 l1 l2 l3 : Option mx_V) (v0 v1 : mx_V) (S h : mx_H) (n : Int), mx_ex d 106 77 [l0, l1, l2, l3] [v0, v1] S h n = mx_ex d 106 79 [l0, l1, l2, l3] [(0, 10), v0, v1] S h n) ∧
  (∀ (d : Nat) (b a : Int) (l0 l1 l2 l3 : Option mx_V) (v2 : mx_V) (S h : mx_H) (n : Int), mx_ex d 106 79 [l0, l1, l2, l3] [(0, b), (0, a), v2] S h n = mx_ex d 106 80 [l0, l1, l2, l3] [(0, mx_w (a - b)), v2] S h n) ∧
  (∀ (d : Nat) (x0 a : Int) (l0 l1 l2 l3 : Option mx_V) (S h : mx_H) (n : Int), mx_ex (d + 1) 106 80 [l0, l1, l2, l3] [(0, x0), (2, a)] S h n = mx_cl (1 ≤ S a (-2) ∧ S a (-2) ≤ 6) d 40 [(2, a), (0, x0)] 106 83 [l0, l1, l2, l3] [] S h n) ∧
  (∀ (d : Nat) (a : Int) (l0 l1 l2 l3 : Option mx_V) (S h : mx_H) (n : Int), mx_ex d 106 83 [l0, l1, l2, l3] [(0, a)] S h n = mx_br (a = 0) d 106 98 86 [l0, l1, l2, l3] [] S h n) ∧
  (∀ (d : Nat) (x : Int) (l0 l1 l2 : Option mx_V) (S h : mx_H) (n : Int), mx_ex d 106 86 [l0, l1, l2, some (2, x)] [] S h n = mx_ex d 106 87 [l0, l1, l2, some (2, x)] [(2, x)] S h n) ∧
  (∀ (d : Nat) (a : Int) (l0 l1 l2 l3 : Option mx_V) (S h : mx_H) (n : Int), mx_ex d 106 87 [l0, l1, l2, l3] [(2, a)] S h n = mx_gd (1 ≤ S a (-2) ∧ S a (-2) ≤ 6) d 106 90 [l0, l1, l2, l3] [(2, S a 2)] S h n) ∧
  (∀ (d : Nat) (x : Int) (l0 l1 l3 : Option mx_V) (v0 : mx_V) (S h : mx_H) (n : Int), mx_ex d 106 90 [l0, l1, some (0, x), l3] [v0] S h n = mx_ex d 106 91 [l0, l1, some (0, x), l3] [(0, x), v0] S h n) ∧
  (∀ (d : Nat) (l0 l1 l2 l3 : Option mx_V) (v0 v1 : mx_V) (S h : mx_H) (n : Int), mx_ex d 106 91 [l0, l1, l2, l3] [v0, v1] S h n = mx_ex d 106 93 [l0, l1, l2, l3] [(0, 10), v0, v1] S h n) ∧
  (∀ (d : Nat) (b a : Int) (l0 l1 l2 l3 : Option mx_V) (v2 : mx_V) (S h : mx_H) (n : Int), mx_ex d 106 93 [l0, l1, l2, l3] [(0, b), (0, a), v2] S h n = mx_ex d 106 94 [l0, l1, l2, l3] [(0, mx_w (a - b)), v2] S h n) ∧
  (∀ (d : Nat) (i a : Int) (l0 l1 l2 l3 : Option mx_V) (S h : mx_H) (n : Int), mx_ex d 106 94 [l0, l1, l2, l3] [(0, i), (2, a)] S h n = mx_gd ((S a (-2) = 20 ∨ S a (-2) = 24) ∧ 0 ≤ i ∧ i < S a (-1)) d 106 95 [l0, l1, l2, l3] [(0, h a i)] S h n) ∧
  (∀ (d : Nat) (l0 l1 l2 l3 : Option mx_V) (v0 : mx_V) (S h : mx_H) (n : Int), mx_ex d 106 95 [l0, l1, l2, l3] [v0] S h n = mx_ex d 106 99 [l0, l1, l2, l3] [v0] S h n) ∧
  (∀ (d : Nat) (l0 l1 l2 l3 : Option mx_V) (S h : mx_H) (n : Int), mx_ex d 106 98 [l0, l1, l2, l3] [] S h n = mx_ex d 106 99 [l0, l1, l2, l3] [(0, (-1))] S h n) ∧
  (∀ (d : Nat) (x : Int) (l0 l1 l2 l3 : Option mx_V) (S h : mx_H) (n : Int), mx_ex d 106 99 [l0, l1, l2, l3] [(0, x)] S h n = some (some (0, x), S, h, n)) :=
  ⟨by intros; exact rfl,
   by intros; exact eq_ld rfl rfl,
   by intros; exact eq_gr rfl,
   by intros; exact eq_ld rfl rfl,
   by intros; exact eq_cv rfl (Nat.le_of_ble_eq_true rfl) rfl rfl rfl (Nat.le_of_ble_eq_true rfl),
   by intros; exact eq_st rfl (by decide) (Nat.le_of_ble_eq_true rfl) rfl,
   by intros; exact eq_ld rfl rfl,
   by intros; exact eq_nul rfl,
   by intros; exact eq_push rfl,
   by intros; exact eq_ret rfl,
   by intros; exact eq_ld rfl rfl,
   by intros; exact eq_sw rfl,
   by intros; exact eq_ld rfl rfl,
   by intros; exact eq_cu rfl (Nat.le_of_ble_eq_true rfl) rfl rfl rfl (Nat.le_of_ble_eq_true rfl),
   by intros; exact eq_ret rfl,
   by intros; exact eq_ld rfl rfl,
   by intros; exact eq_gi rfl,
   by intros; exact eq_ret rfl,
   by intros; exact eq_ld rfl rfl,
   by intros; exact eq_gi rfl,
   by intros; exact eq_ret rfl,
   by intros; exact eq_ld rfl rfl,
   by intros; exact eq_gr rfl,
   by intros; exact eq_alen rfl,
   by intros; exact eq_ret rfl,
   by intros; exact eq_ld rfl rfl,
   by intros; exact eq_push rfl,
   by intros; exact eq_ic2 rfl,
   by intros; exact eq_ld rfl rfl,
   by intros; exact eq_ld rfl rfl,
   by intros; exact eq_push rfl,
   by intros; exact eq_i2 (o := mx_sub) rfl,
   by intros; exact eq_ci rfl (Nat.le_of_ble_eq_true rfl) rfl rfl rfl (Nat.le_of_ble_eq_true rfl),
   by intros; exact eq_if0 rfl,
   by intros; exact eq_ld rfl rfl,
   by intros; exact eq_gr rfl,
   by intros; exact eq_ld rfl rfl,
   by intros; exact eq_push rfl,
   by intros; exact eq_i2 (o := mx_sub) rfl,
   by intros; exact eq_iald rfl,
   by intros; exact eq_go rfl,
   by intros; exact eq_push rfl,
   by intros; exact eq_ret rfl⟩
theorem rw_X11_alter :
  (∀ (d : Nat) (a0 a1 a2 a3 : Int) (S h : mx_H) (n : Int), mx_M d 107 [(2, a0), (0, a1), (0, a2), (0, a3)] S h n = mx_ex d 107 0 [some (2, a0), some (0, a1), some (0, a2), some (0, a3), none, none] [] S h n) ∧
  (∀ (d : Nat) (x : Int) (l1 l2 l3 l4 l5 : Option mx_V) (S h : mx_H) (n : Int), mx_ex d 107 0 [some (2, x), l1, l2, l3, l4, l5] [] S h n = mx_ex d 107 1 [some (2, x), l1, l2, l3, l4, l5] [(2, x)] S h n) ∧
  (∀ (d : Nat) (a : Int) (l0 l1 l2 l3 l4 l5 : Option mx_V) (S h : mx_H) (n : Int), mx_ex d 107 1 [l0, l1, l2, l3, l4, l5] [(2, a)] S h n = mx_gd (7 ≤ S a (-2) ∧ S a (-2) ≤ 7) d 107 4 [l0, l1, l2, l3, l4, l5] [(2, S a 3)] S h n) ∧
  (∀ (d : Nat) (x : Int) (l0 l2 l3 l4 l5 : Option mx_V) (v0 : mx_V) (S h : mx_H) (n : Int), mx_ex d 107 4 [l0, some (0, x), l2, l3, l4, l5] [v0] S h n = mx_ex d 107 5 [l0, some (0, x), l2, l3, l4, l5] [(0, x), v0] S h n) ∧
  (∀ (d : Nat) (x0 a : Int) (l0 l1 l2 l3 l4 l5 : Option mx_V) (S h : mx_H) (n : Int), mx_ex (d + 1) 107 5 [l0, l1, l2, l3, l4, l5] [(0, x0), (2, a)] S h n = mx_cl (S a (-2) = 8) d 91 [(2, a), (0, x0)] 107 8 [l0, l1, l2, l3, l4, l5] [] S h n) ∧
  (∀ (d : Nat) (x : Int) (l0 l1 l2 l3 l4 l5 : Option mx_V) (S h : mx_H) (n : Int), mx_ex d 107 8 [l0, l1, l2, l3, l4, l5] [(2, x)] S h n = mx_ex d 107 10 [l0, l1, l2, mx_nl l3, some (2, x), l5] [] S h n) ∧
  (∀ (d : Nat) (x : Int) (l0 l1 l2 l3 l5 : Option mx_V) (S h : mx_H) (n : Int), mx_ex d 107 10 [l0, l1, l2, l3, some (2, x), l5] [] S h n = mx_ex d 107 12 [l0, l1, l2, l3, some (2, x), l5] [(2, x)] S h n) ∧
  (∀ (d : Nat) (a : Int) (l0 l1 l2 l3 l4 l5 : Option mx_V) (S h : mx_H) (n : Int), mx_ex d 107 12 [l0, l1, l2, l3, l4, l5] [(2, a)] S h n = mx_br (a = -1) d 107 34 15 [l0, l1, l2, l3, l4, l5] [] S h n) ∧
  (∀ (d : Nat) (x : Int) (l0 l1 l2 l3 l5 : Option mx_V) (S h : mx_H) (n : Int), mx_ex d 107 15 [l0, l1, l2, l3, some (2, x), l5] [] S h n = mx_ex d 107 17 [l0, l1, l2, l3, some (2, x), l5] [(2, x)] S h n) ∧
  (∀ (d : Nat) (x : Int) (l0 l1 l3 l4 l5 : Option mx_V) (v0 : mx_V) (S h : mx_H) (n : Int), mx_ex d 107 17 [l0, l1, some (0, x), l3, l4, l5] [v0] S h n = mx_ex d 107 18 [l0, l1, some (0, x), l3, l4, l5] [(0, x), v0] S h n) ∧
  (∀ (d : Nat) (x0 a : Int) (l0 l1 l2 l3 l4 l5 : Option mx_V) (S h : mx_H) (n : Int), mx_ex (d + 1) 107 18 [l0, l1, l2, l3, l4, l5] [(0, x0), (2, a)] S h n = mx_cl (1 ≤ S a (-2) ∧ S a (-2) ≤ 6) d 40 [(2, a), (0, x0)] 107 21 [l0, l1, l2, l3, l4, l5] [] S h n) ∧
  (∀ (d : Nat) (a : Int) (l0 l1 l2 l3 l4 l5 : Option mx_V) (S h : mx_H) (n : Int), mx_ex d 107 21 [l0, l1, l2, l3, l4, l5] [(0, a)] S h n = mx_br (a = 0) d 107 34 24 [l0, l1, l2, l3, l4, l5] [] S h n) ∧
  (∀ (d : Nat) (x : Int) (l0 l1 l2 l4 l5 : Option mx_V) (S h : mx_H) (n : Int), mx_ex d 107 24 [l0, l1, l2, some (0, x), l4, l5] [] S h n = mx_ex d 107 25 [l0, l1, l2, some (0, x), l4, l5] [(0, x)] S h n) ∧
  (∀ (d : Nat) (l0 l1 l2 l3 l4 l5 : Option mx_V) (v0 : mx_V) (S h : mx_H) (n : Int), mx_ex d 107 25 [l0, l1, l2, l3, l4, l5] [v0] S h n = mx_ex d 107 26 [l0, l1, l2, l3, l4, l5] [(0, 0), v0] S h n) ∧
  (∀ (d : Nat) (l0 l1 l2 l3 l4 l5 : Option mx_V) (v0 v1 : mx_V) (S h : mx_H) (n : Int), mx_ex d 107 26 [l0, l1, l2, l3, l4, l5] [v0, v1] S h n = mx_ex d 107 28 [l0, l1, l2, l3, l4, l5] [(0, 15), v0, v1] S h n) ∧
  (∀ (d : Nat) (x0 x1 x2 : Int) (l0 l1 l2 l3 l4 l5 : Option mx_V) (S h : mx_H) (n : Int), mx_ex (d + 1) 107 28 [l0, l1, l2, l3, l4, l5] [(0, x0), (0, x1), (0, x2)] S h n = mx_rt (mx_M d 147 [(0, x2), (0, x1), (0, x0)] S h n) (d + 1) 107 31 [l0, l1, l2, l3, l4, l5] []) ∧
  (∀ (d : Nat) (a : Int) (l0 l1 l2 l3 l4 l5 : Option mx_V) (S h : mx_H) (n : Int), mx_ex d 107 31 [l0, l1, l2, l3, l4, l5] [(0, a)] S h n = mx_br (a = 0) d 107 34 36 [l0, l1, l2, l3, l4, l5] [] S h n) ∧
  (∀ (d : Nat) (l0 l1 l2 l3 l4 l5 : Option mx_V) (S h : mx_H) (n : Int), mx_ex d 107 34 [l0, l1, l2, l3, l4, l5] [] S h n = mx_ex d 107 35 [l0, l1, l2, l3, l4, l5] [(0, (-1))] S h n) ∧
  (∀ (d : Nat) (x : Int) (l0 l1 l2 l3 l4 l5 : Option mx_V) (S h : mx_H) (n : Int), mx_ex d 107 35 [l0, l1, l2, l3, l4, l5] [(0, x)] S h n = some (some (0, x), S, h, n)) ∧
  (∀ (d : Nat) (x : Int) (l0 l1 l2 l3 l5 : Option mx_V) (S h : mx_H) (n : Int), mx_ex d 107 36 [l0, l1, l2, l3, some (2, x), l5] [] S h n = mx_ex d 107 38 [l0, l1, l2, l3, some (2, x), l5] [(2, x)] S h n) ∧
  (∀ (d : Nat) (a : Int) (l0 l1 l2 l3 l4 l5 : Option mx_V) (S h : mx_H) (n : Int), mx_ex d 107 38 [l0, l1, l2, l3, l4, l5] [(2, a)] S h n = mx_gd (1 ≤ S a (-2) ∧ S a (-2) ≤ 6) d 107 41 [l0, l1, l2, l3, l4, l5] [(2, S a 2)] S h n) ∧
  (∀ (d : Nat) (x : Int) (l0 l1 l3 l4 l5 : Option mx_V) (v0 : mx_V) (S h : mx_H) (n : Int), mx_ex d 107 41 [l0, l1, some (0, x), l3, l4, l5] [v0] S h n = mx_ex d 107 42 [l0, l1, some (0, x), l3, l4, l5] [(0, x), v0] S h n) ∧
  (∀ (d : Nat) (i a : Int) (l0 l1 l2 l3 l4 l5 : Option mx_V) (S h : mx_H) (n : Int), mx_ex d 107 42 [l0, l1, l2, l3, l4, l5] [(0, i), (2, a)] S h n = mx_gd ((S a (-2) = 20 ∨ S a (-2) = 24) ∧ 0 ≤ i ∧ i < S a (-1)) d 107 43 [l0, l1, l2, l3, l4, l5] [(0, h a i)] S h n) ∧
  (∀ (d : Nat) (x : Int) (l0 l1 l2 l3 l4 l5 : Option mx_V) (S h : mx_H) (n : Int), mx_ex d 107 43 [l0, l1, l2, l3, l4, l5] [(0, x)] S h n = mx_ex d 107 45 [l0, l1, l2, l3, mx_nl l4, some (0, x)] [] S h n) ∧
  (∀ (d : Nat) (x : Int) (l0 l1 l2 l3 l5 : Option mx_V) (S h : mx_H) (n : Int), mx_ex d 107 45 [l0, l1, l2, l3, some (2, x), l5] [] S h n = mx_ex d 107 47 [l0, l1, l2, l3, some (2, x), l5] [(2, x)] S h n) ∧
  (∀ (d : Nat) (a : Int) (l0 l1 l2 l3 l4 l5 : Option mx_V) (S h : mx_H) (n : Int), mx_ex d 107 47 [l0, l1, l2, l3, l4, l5] [(2, a)] S h n = mx_gd (1 ≤ S a (-2) ∧ S a (-2) ≤ 6) d 107 50 [l0, l1, l2, l3, l4, l5] [(2, S a 2)] S h n) ∧
  (∀ (d : Nat) (x : Int) (l0 l1 l3 l4 l5 : Option mx_V) (v0 : mx_V) (S h : mx_H) (n : Int), mx_ex d 107 50 [l0, l1, some (0, x), l3, l4, l5] [v0] S h n = mx_ex d 107 51 [l0, l1, some (0, x), l3, l4, l5] [(0, x), v0] S h n) ∧
  (∀ (d : Nat) (x : Int) (l0 l1 l2 l4 l5 : Option mx_V) (v0 v1 : mx_V) (S h : mx_H) (n : Int), mx_ex d 107 51 [l0, l1, l2, some (0, x), l4, l5] [v0, v1] S h n = mx_ex d 107 52 [l0, l1, l2, some (0, x), l4, l5] [(0, x), v0, v1] S h n) ∧
  (∀ (d : Nat) (v i a : Int) (l0 l1 l2 l3 l4 l5 : Option mx_V) (S h : mx_H) (n : Int), mx_ex d 107 52 [l0, l1, l2, l3, l4, l5] [(0, v), (0, i), (2, a)] S h n = mx_gd (S a (-2) = 20 ∧ 0 ≤ i ∧ i < S a (-1)) d 107 53 [l0, l1, l2, l3, l4, l5] [] S (mx_u h a i v) n) ∧
  (∀ (d : Nat) (x : Int) (l1 l2 l3 l4 l5 : Option mx_V) (S h : mx_H) (n : Int), mx_ex d 107 53 [some (2, x), l1, l2, l3, l4, l5] [] S h n = mx_ex d 107 54 [some (2, x), l1, l2, l3, l4, l5] [(2, x)] S h n) ∧
  (∀ (d : Nat) (a : Int) (l0 l1 l2 l3 l4 l5 : Option mx_V) (S h : mx_H) (n : Int), mx_ex d 107 54 [l0, l1, l2, l3, l4, l5] [(2, a)] S h n = mx_gd (7 ≤ S a (-2) ∧ S a (-2) ≤ 7) d 107 57 [l0, l1, l2, l3, l4, l5] [(2, S a 3)] S h n) ∧
  (∀ (d : Nat) (a : Int) (l0 l1 l2 l3 l4 l5 : Option mx_V) (S h : mx_H) (n : Int), mx_ex d 107 57 [l0, l1, l2, l3, l4, l5] [(2, a)] S h n = mx_ex d 107 58 [l0, l1, l2, l3, l4, l5] [(2, a), (2, a)] S h n) ∧
  (∀ (d : Nat) (a : Int) (l0 l1 l2 l3 l4 l5 : Option mx_V) (v1 : mx_V) (S h : mx_H) (n : Int), mx_ex d 107 58 [l0, l1, l2, l3, l4, l5] [(2, a), v1] S h n = mx_gd (8 ≤ S a (-2) ∧ S a (-2) ≤ 8) d 107 61 [l0, l1, l2, l3, l4, l5] [(0, h a 5), v1] S h n) ∧
  (∀ (d : Nat) (l0 l1 l2 l3 l4 l5 : Option mx_V) (v0 v1 : mx_V) (S h : mx_H) (n : Int), mx_ex d 107 61 [l0, l1, l2, l3, l4, l5] [v0, v1] S h n = mx_ex d 107 62 [l0, l1, l2, l3, l4, l5] [(0, 1), v0, v1] S h n) ∧
  (∀ (d : Nat) (b a : Int) (l0 l1 l2 l3 l4 l5 : Option mx_V) (v2 : mx_V) (S h : mx_H) (n : Int), mx_ex d 107 62 [l0, l1, l2, l3, l4, l5] [(0, b), (0, a), v2] S h n = mx_ex d 107 63 [l0, l1, l2, l3, l4, l5] [(0, mx_w (a + b)), v2] S h n) ∧
  (∀ (d : Nat) (v a : Int) (l0 l1 l2 l3 l4 l5 : Option mx_V) (S h : mx_H) (n : Int), mx_ex d 107 63 [l0, l1, l2, l3, l4, l5] [(0, v), (2, a)] S h n = mx_gd (8 ≤ S a (-2) ∧ S a (-2) ≤ 8) d 107 66 [l0, l1, l2, l3, l4, l5] [] S (mx_u h a 5 v) n) ∧
  (∀ (d : Nat) (x : Int) (l0 l1 l2 l3 l4 : Option mx_V) (S h : mx_H) (n : Int), mx_ex d 107 66 [l0, l1, l2, l3, l4, some (0, x)] [] S h n = mx_ex d 107 68 [l0, l1, l2, l3, l4, some (0, x)] [(0, x)] S h n) ∧
  (∀ (d : Nat) (x : Int) (l0 l1 l2 l3 l4 l5 : Option mx_V) (S h : mx_H) (n : Int), mx_ex d 107 68 [l0, l1, l2, l3, l4, l5] [(0, x)] S h n = some (some (0, x), S, h, n)) :=
  ⟨by intros; exact rfl,
   by intros; exact eq_ld rfl rfl,
   by intros; exact eq_gr rfl,
   by intros; exact eq_ld rfl rfl,
   by intros; exact eq_cv rfl (Nat.le_of_ble_eq_true rfl) rfl rfl rfl (Nat.le_of_ble_eq_true rfl),
   by intros; exact eq_st rfl (by decide) (Nat.le_of_ble_eq_true rfl) rfl,
   by intros; exact eq_ld rfl rfl,
   by intros; exact eq_nul rfl,
   by intros; exact eq_ld rfl rfl,
   by intros; exact eq_ld rfl rfl,
   by intros; exact eq_ci rfl (Nat.le_of_ble_eq_true rfl) rfl rfl rfl (Nat.le_of_ble_eq_true rfl),
   by intros; exact eq_if0 rfl,
   by intros; exact eq_ld rfl rfl,
   by intros; exact eq_push rfl,
   by intros; exact eq_push rfl,
   by intros; exact eq_cs rfl (Nat.le_of_ble_eq_true rfl) rfl rfl rfl (Nat.le_of_ble_eq_true rfl),
   by intros; exact eq_if1 rfl,
   by intros; exact eq_push rfl,
   by intros; exact eq_ret rfl,
   by intros; exact eq_ld rfl rfl,
   by intros; exact eq_gr rfl,
   by intros; exact eq_ld rfl rfl,
   by intros; exact eq_iald rfl,
   by intros; exact eq_st rfl (by decide) (Nat.le_of_ble_eq_true rfl) rfl,
   by intros; exact eq_ld rfl rfl,
   by intros; exact eq_gr rfl,
   by intros; exact eq_ld rfl rfl,
   by intros; exact eq_ld rfl rfl,
   by intros; exact eq_iast rfl,
   by intros; exact eq_ld rfl rfl,
   by intros; exact eq_gr rfl,
   by intros; exact eq_dup rfl (by decide),
   by intros; exact eq_gi rfl,
   by intros; exact eq_push rfl,
   by intros; exact eq_i2 (o := mx_add) rfl,
   by intros; exact eq_pi rfl,
   by intros; exact eq_ld rfl rfl,
   by intros; exact eq_ret rfl⟩
theorem rw_X11_move :
  (∀ (d : Nat) (a0 a1 a2 : Int) (S h : mx_H) (n : Int), mx_M d 108 [(2, a0), (0, a1), (0, a2)] S h n = mx_ex d 108 0 [some (2, a0), some (0, a1), some (0, a2), none, none] [] S h n) ∧
  (∀ (d : Nat) (x : Int) (l1 l2 l3 l4 : Option mx_V) (S h : mx_H) (n : Int), mx_ex d 108 0 [some (2, x), l1, l2, l3, l4] [] S h n = mx_ex d 108 1 [some (2, x), l1, l2, l3, l4] [(2, x)] S h n) ∧
  (∀ (d : Nat) (a : Int) (l0 l1 l2 l3 l4 : Option mx_V) (S h : mx_H) (n : Int), mx_ex d 108 1 [l0, l1, l2, l3, l4] [(2, a)] S h n = mx_gd (7 ≤ S a (-2) ∧ S a (-2) ≤ 7) d 108 4 [l0, l1, l2, l3, l4] [(2, S a 3)] S h n) ∧
  (∀ (d : Nat) (x : Int) (l0 l2 l3 l4 : Option mx_V) (v0 : mx_V) (S h : mx_H) (n : Int), mx_ex d 108 4 [l0, some (0, x), l2, l3, l4] [v0] S h n = mx_ex d 108 5 [l0, some (0, x), l2, l3, l4] [(0, x), v0] S h n) ∧
  (∀ (d : Nat) (x0 a : Int) (l0 l1 l2 l3 l4 : Option mx_V) (S h : mx_H) (n : Int), mx_ex (d + 1) 108 5 [l0, l1, l2, l3, l4] [(0, x0), (2, a)] S h n = mx_cl (S a (-2) = 8) d 91 [(2, a), (0, x0)] 108 8 [l0, l1, l2, l3, l4] [] S h n) ∧
  (∀ (d : Nat) (x : Int) (l0 l1 l2 l3 l4 : Option mx_V) (S h : mx_H) (n : Int), mx_ex d 108 8 [l0, l1, l2, l3, l4] [(2, x)] S h n = mx_ex d 108 9 [l0, l1, mx_nl l2, some (2, x), l4] [] S h n) ∧
  (∀ (d : Nat) (x : Int) (l0 l1 l2 l4 : Option mx_V) (S h : mx_H) (n : Int), mx_ex d 108 9 [l0, l1, l2, some (2, x), l4] [] S h n = mx_ex d 108 10 [l0, l1, l2, some (2, x), l4] [(2, x)] S h n) ∧
  (∀ (d : Nat) (a : Int) (l0 l1 l2 l3 l4 : Option mx_V) (S h : mx_H) (n : Int), mx_ex d 108 10 [l0, l1, l2, l3, l4] [(2, a)] S h n = mx_br (a = -1) d 108 20 13 [l0, l1, l2, l3, l4] [] S h n) ∧
  (∀ (d : Nat) (x : Int) (l0 l1 l3 l4 : Option mx_V) (S h : mx_H) (n : Int), mx_ex d 108 13 [l0, l1, some (0, x), l3, l4] [] S h n = mx_ex d 108 14 [l0, l1, some (0, x), l3, l4] [(0, x)] S h n) ∧
  (∀ (d : Nat) (x0 : Int) (l0 l1 l2 l3 l4 : Option mx_V) (S h : mx_H) (n : Int), mx_ex (d + 1) 108 14 [l0, l1, l2, l3, l4] [(0, x0)] S h n = mx_rt (mx_M d 148 [(0, x0)] S h n) (d + 1) 108 17 [l0, l1, l2, l3, l4] []) ∧
  (∀ (d : Nat) (a : Int) (l0 l1 l2 l3 l4 : Option mx_V) (S h : mx_H) (n : Int), mx_ex d 108 17 [l0, l1, l2, l3, l4] [(0, a)] S h n = mx_br (a = 0) d 108 20 22 [l0, l1, l2, l3, l4] [] S h n) ∧
  (∀ (d : Nat) (l0 l1 l2 l3 l4 : Option mx_V) (S h : mx_H) (n : Int), mx_ex d 108 20 [l0, l1, l2, l3, l4] [] S h n = mx_ex d 108 21 [l0, l1, l2, l3, l4] [(0, (-1))] S h n) ∧
  (∀ (d : Nat) (x : Int) (l0 l1 l2 l3 l4 : Option mx_V) (S h : mx_H) (n : Int), mx_ex d 108 21 [l0, l1, l2, l3, l4] [(0, x)] S h n = some (some (0, x), S, h, n)) ∧
  (∀ (d : Nat) (x : Int) (l0 l1 l2 l4 : Option mx_V) (S h : mx_H) (n : Int), mx_ex d 108 22 [l0, l1, l2, some (2, x), l4] [] S h n = mx_ex d 108 23 [l0, l1, l2, some (2, x), l4] [(2, x)] S h n) ∧
  (∀ (d : Nat) (a : Int) (l0 l1 l2 l3 l4 : Option mx_V) (S h : mx_H) (n : Int), mx_ex d 108 23 [l0, l1, l2, l3, l4] [(2, a)] S h n = mx_gd (1 ≤ S a (-2) ∧ S a (-2) ≤ 6) d 108 26 [l0, l1, l2, l3, l4] [(0, h a 3)] S h n) ∧
  (∀ (d : Nat) (x : Int) (l0 l1 l2 l3 l4 : Option mx_V) (S h : mx_H) (n : Int), mx_ex d 108 26 [l0, l1, l2, l3, l4] [(0, x)] S h n = mx_ex d 108 28 [l0, l1, l2, mx_nl l3, some (0, x)] [] S h n) ∧
  (∀ (d : Nat) (x : Int) (l0 l1 l2 l4 : Option mx_V) (S h : mx_H) (n : Int), mx_ex d 108 28 [l0, l1, l2, some (2, x), l4] [] S h n = mx_ex d 108 29 [l0, l1, l2, some (2, x), l4] [(2, x)] S h n) ∧
  (∀ (d : Nat) (x : Int) (l0 l1 l3 l4 : Option mx_V) (v0 : mx_V) (S h : mx_H) (n : Int), mx_ex d 108 29 [l0, l1, some (0, x), l3, l4] [v0] S h n = mx_ex d 108 30 [l0, l1, some (0, x), l3, l4] [(0, x), v0] S h n) ∧
  (∀ (d : Nat) (v a : Int) (l0 l1 l2 l3 l4 : Option mx_V) (S h : mx_H) (n : Int), mx_ex d 108 30 [l0, l1, l2, l3, l4] [(0, v), (2, a)] S h n = mx_gd (1 ≤ S a (-2) ∧ S a (-2) ≤ 6) d 108 33 [l0, l1, l2, l3, l4] [] S (mx_u h a 3 v) n) ∧
  (∀ (d : Nat) (x : Int) (l1 l2 l3 l4 : Option mx_V) (S h : mx_H) (n : Int), mx_ex d 108 33 [some (2, x), l1, l2, l3, l4] [] S h n = mx_ex d 108 34 [some (2, x), l1, l2, l3, l4] [(2, x)] S h n) ∧
  (∀ (d : Nat) (a : Int) (l0 l1 l2 l3 l4 : Option mx_V) (S h : mx_H) (n : Int), mx_ex d 108 34 [l0, l1, l2, l3, l4] [(2, a)] S h n = mx_gd (7 ≤ S a (-2) ∧ S a (-2) ≤ 7) d 108 37 [l0, l1, l2, l3, l4] [(2, S a 3)] S h n) ∧
  (∀ (d : Nat) (a : Int) (l0 l1 l2 l3 l4 : Option mx_V) (S h : mx_H) (n : Int), mx_ex d 108 37 [l0, l1, l2, l3, l4] [(2, a)] S h n = mx_ex d 108 38 [l0, l1, l2, l3, l4] [(2, a), (2, a)] S h n) ∧
  (∀ (d : Nat) (a : Int) (l0 l1 l2 l3 l4 : Option mx_V) (v1 : mx_V) (S h : mx_H) (n : Int), mx_ex d 108 38 [l0, l1, l2, l3, l4] [(2, a), v1] S h n = mx_gd (8 ≤ S a (-2) ∧ S a (-2) ≤ 8) d 108 41 [l0, l1, l2, l3, l4] [(0, h a 5), v1] S h n) ∧
  (∀ (d : Nat) (l0 l1 l2 l3 l4 : Option mx_V) (v0 v1 : mx_V) (S h : mx_H) (n : Int), mx_ex d 108 41 [l0, l1, l2, l3, l4] [v0, v1] S h n = mx_ex d 108 42 [l0, l1, l2, l3, l4] [(0, 1), v0, v1] S h n) ∧
  (∀ (d : Nat) (b a : Int) (l0 l1 l2 l3 l4 : Option mx_V) (v2 : mx_V) (S h : mx_H) (n : Int), mx_ex d 108 42 [l0, l1, l2, l3, l4] [(0, b), (0, a), v2] S h n = mx_ex d 108 43 [l0, l1, l2, l3, l4] [(0, mx_w (a + b)), v2] S h n) ∧
  (∀ (d : Nat) (v a : Int) (l0 l1 l2 l3 l4 : Option mx_V) (S h : mx_H) (n : Int), mx_ex d 108 43 [l0, l1, l2, l3, l4] [(0, v), (2, a)] S h n = mx_gd (8 ≤ S a (-2) ∧ S a (-2) ≤ 8) d 108 46 [l0, l1, l2, l3, l4] [] S (mx_u h a 5 v) n) ∧
  (∀ (d : Nat) (x : Int) (l0 l1 l2 l3 : Option mx_V) (S h : mx_H) (n : Int), mx_ex d 108 46 [l0, l1, l2, l3, some (0, x)] [] S h n = mx_ex d 108 48 [l0, l1, l2, l3, some (0, x)] [(0, x)] S h n) ∧
  (∀ (d : Nat) (x : Int) (l0 l1 l2 l3 l4 : Option mx_V) (S h : mx_H) (n : Int), mx_ex d 108 48 [l0, l1, l2, l3, l4] [(0, x)] S h n = some (some (0, x), S, h, n)) :=
  ⟨by intros; exact rfl,
   by intros; exact eq_ld rfl rfl,
   by intros; exact eq_gr rfl,
   by intros; exact eq_ld rfl rfl,
   by intros; exact eq_cv rfl (Nat.le_of_ble_eq_true rfl) rfl rfl rfl (Nat.le_of_ble_eq_true rfl),
   by intros; exact eq_st rfl (by decide) (Nat.le_of_ble_eq_true rfl) rfl,
   by intros; exact eq_ld rfl rfl,
   by intros; exact eq_nul rfl,
   by intros; exact eq_ld rfl rfl,
   by intros; exact eq_cs rfl (Nat.le_of_ble_eq_true rfl) rfl rfl rfl (Nat.le_of_ble_eq_true rfl),
   by intros; exact eq_if1 rfl,
   by intros; exact eq_push rfl,
   by intros; exact eq_ret rfl,
   by intros; exact eq_ld rfl rfl,
   by intros; exact eq_gi rfl,
   by intros; exact eq_st rfl (by decide) (Nat.le_of_ble_eq_true rfl) rfl,
   by intros; exact eq_ld rfl rfl,
   by intros; exact eq_ld rfl rfl,
   by intros; exact eq_pi rfl,
   by intros; exact eq_ld rfl rfl,
   by intros; exact eq_gr rfl,
   by intros; exact eq_dup rfl (by decide),
   by intros; exact eq_gi rfl,
   by intros; exact eq_push rfl,
   by intros; exact eq_i2 (o := mx_add) rfl,
   by intros; exact eq_pi rfl,
   by intros; exact eq_ld rfl rfl,
   by intros; exact eq_ret rfl⟩
theorem rw_X11_worth :
  (∀ (d : Nat) (a0 a1 a2 : Int) (S h : mx_H) (n : Int), mx_M d 109 [(2, a0), (0, a1), (0, a2)] S h n = mx_ex d 109 0 [some (2, a0), some (0, a1), some (0, a2), none] [] S h n) ∧
  (∀ (d : Nat) (x : Int) (l1 l2 l3 : Option mx_V) (S h : mx_H) (n : Int), mx_ex d 109 0 [some (2, x), l1, l2, l3] [] S h n = mx_ex d 109 1 [some (2, x), l1, l2, l3] [(2, x)] S h n) ∧
  (∀ (d : Nat) (a : Int) (l0 l1 l2 l3 : Option mx_V) (S h : mx_H) (n : Int), mx_ex d 109 1 [l0, l1, l2, l3] [(2, a)] S h n = mx_gd (7 ≤ S a (-2) ∧ S a (-2) ≤ 7) d 109 4 [l0, l1, l2, l3] [(2, S a 3)] S h n) ∧
  (∀ (d : Nat) (x : Int) (l0 l2 l3 : Option mx_V) (v0 : mx_V) (S h : mx_H) (n : Int), mx_ex d 109 4 [l0, some (0, x), l2, l3] [v0] S h n = mx_ex d 109 5 [l0, some (0, x), l2, l3] [(0, x), v0] S h n) ∧
  (∀ (d : Nat) (x0 a : Int) (l0 l1 l2 l3 : Option mx_V) (S h : mx_H) (n : Int), mx_ex (d + 1) 109 5 [l0, l1, l2, l3] [(0, x0), (2, a)] S h n = mx_cl (S a (-2) = 8) d 91 [(2, a), (0, x0)] 109 8 [l0, l1, l2, l3] [] S h n) ∧
  (∀ (d : Nat) (x : Int) (l0 l1 l2 l3 : Option mx_V) (S h : mx_H) (n : Int), mx_ex d 109 8 [l0, l1, l2, l3] [(2, x)] S h n = mx_ex d 109 9 [l0, l1, mx_nl l2, some (2, x)] [] S h n) ∧
  (∀ (d : Nat) (x : Int) (l0 l1 l2 : Option mx_V) (S h : mx_H) (n : Int), mx_ex d 109 9 [l0, l1, l2, some (2, x)] [] S h n = mx_ex d 109 10 [l0, l1, l2, some (2, x)] [(2, x)] S h n) ∧
  (∀ (d : Nat) (a : Int) (l0 l1 l2 l3 : Option mx_V) (S h : mx_H) (n : Int), mx_ex d 109 10 [l0, l1, l2, l3] [(2, a)] S h n = mx_br (a = -1) d 109 20 13 [l0, l1, l2, l3] [] S h n) ∧
  (∀ (d : Nat) (x : Int) (l0 l1 l3 : Option mx_V) (S h : mx_H) (n : Int), mx_ex d 109 13 [l0, l1, some (0, x), l3] [] S h n = mx_ex d 109 14 [l0, l1, some (0, x), l3] [(0, x)] S h n) ∧
  (∀ (d : Nat) (x0 : Int) (l0 l1 l2 l3 : Option mx_V) (S h : mx_H) (n : Int), mx_ex (d + 1) 109 14 [l0, l1, l2, l3] [(0, x0)] S h n = mx_rt (mx_M d 149 [(0, x0)] S h n) (d + 1) 109 17 [l0, l1, l2, l3] []) ∧
  (∀ (d : Nat) (a : Int) (l0 l1 l2 l3 : Option mx_V) (S h : mx_H) (n : Int), mx_ex d 109 17 [l0, l1, l2, l3] [(0, a)] S h n = mx_br (a = 0) d 109 20 26 [l0, l1, l2, l3] [] S h n) ∧
  (∀ (d : Nat) (l0 l1 l2 l3 : Option mx_V) (S h : mx_H) (n : Int), mx_ex d 109 20 [l0, l1, l2, l3] [] S h n = mx_ex d 109 23 [l0, l1, l2, l3] [(1, (-1000000000000))] S h n) ∧
  (∀ (d : Nat) (l0 l1 l2 l3 : Option mx_V) (v0 : mx_V) (S h : mx_H) (n : Int), mx_ex d 109 23 [l0, l1, l2, l3] [v0] S h n = mx_ex d 109 32 [l0, l1, l2, l3] [v0] S h n) ∧
  (∀ (d : Nat) (x : Int) (l0 l1 l2 : Option mx_V) (S h : mx_H) (n : Int), mx_ex d 109 26 [l0, l1, l2, some (2, x)] [] S h n = mx_ex d 109 27 [l0, l1, l2, some (2, x)] [(2, x)] S h n) ∧
  (∀ (d : Nat) (x : Int) (l0 l1 l3 : Option mx_V) (v0 : mx_V) (S h : mx_H) (n : Int), mx_ex d 109 27 [l0, l1, some (0, x), l3] [v0] S h n = mx_ex d 109 28 [l0, l1, some (0, x), l3] [(0, x), v0] S h n) ∧
  (∀ (d : Nat) (x0 a : Int) (l0 l1 l2 l3 : Option mx_V) (S h : mx_H) (n : Int), mx_ex (d + 1) 109 28 [l0, l1, l2, l3] [(0, x0), (2, a)] S h n = mx_cu (mx_vt (S a (-2)) [(1, 43), (2, 56), (3, 3), (4, 3), (5, 82), (6, 9)]) d [(2, a), (0, x0)] 109 31 [l0, l1, l2, l3] [] S h n) ∧
  (∀ (d : Nat) (a : Int) (l0 l1 l2 l3 : Option mx_V) (S h : mx_H) (n : Int), mx_ex d 109 31 [l0, l1, l2, l3] [(0, a)] S h n = mx_ex d 109 32 [l0, l1, l2, l3] [(1, a)] S h n) ∧
  (∀ (d : Nat) (x : Int) (l0 l1 l2 l3 : Option mx_V) (S h : mx_H) (n : Int), mx_ex d 109 32 [l0, l1, l2, l3] [(1, x)] S h n = some (some (1, x), S, h, n)) :=
  ⟨by intros; exact rfl,
   by intros; exact eq_ld rfl rfl,
   by intros; exact eq_gr rfl,
   by intros; exact eq_ld rfl rfl,
   by intros; exact eq_cv rfl (Nat.le_of_ble_eq_true rfl) rfl rfl rfl (Nat.le_of_ble_eq_true rfl),
   by intros; exact eq_st rfl (by decide) (Nat.le_of_ble_eq_true rfl) rfl,
   by intros; exact eq_ld rfl rfl,
   by intros; exact eq_nul rfl,
   by intros; exact eq_ld rfl rfl,
   by intros; exact eq_cs rfl (Nat.le_of_ble_eq_true rfl) rfl rfl rfl (Nat.le_of_ble_eq_true rfl),
   by intros; exact eq_if1 rfl,
   by intros; exact eq_push rfl,
   by intros; exact eq_go rfl,
   by intros; exact eq_ld rfl rfl,
   by intros; exact eq_ld rfl rfl,
   by intros; exact eq_cu rfl (Nat.le_of_ble_eq_true rfl) rfl rfl rfl (Nat.le_of_ble_eq_true rfl),
   by intros; exact eq_i2l rfl,
   by intros; exact eq_ret rfl⟩
theorem rw_X11_can :
  (∀ (d : Nat) (a0 a1 : Int) (S h : mx_H) (n : Int), mx_M d 110 [(2, a0), (0, a1)] S h n = mx_ex d 110 0 [some (2, a0), some (0, a1), none] [] S h n) ∧
  (∀ (d : Nat) (x : Int) (l1 l2 : Option mx_V) (S h : mx_H) (n : Int), mx_ex d 110 0 [some (2, x), l1, l2] [] S h n = mx_ex d 110 1 [some (2, x), l1, l2] [(2, x)] S h n) ∧
  (∀ (d : Nat) (a : Int) (l0 l1 l2 : Option mx_V) (S h : mx_H) (n : Int), mx_ex d 110 1 [l0, l1, l2] [(2, a)] S h n = mx_gd (7 ≤ S a (-2) ∧ S a (-2) ≤ 7) d 110 4 [l0, l1, l2] [(2, S a 3)] S h n) ∧
  (∀ (d : Nat) (x : Int) (l0 l2 : Option mx_V) (v0 : mx_V) (S h : mx_H) (n : Int), mx_ex d 110 4 [l0, some (0, x), l2] [v0] S h n = mx_ex d 110 5 [l0, some (0, x), l2] [(0, x), v0] S h n) ∧
  (∀ (d : Nat) (x0 a : Int) (l0 l1 l2 : Option mx_V) (S h : mx_H) (n : Int), mx_ex (d + 1) 110 5 [l0, l1, l2] [(0, x0), (2, a)] S h n = mx_cl (S a (-2) = 8) d 91 [(2, a), (0, x0)] 110 8 [l0, l1, l2] [] S h n) ∧
  (∀ (d : Nat) (x : Int) (l0 l1 l2 : Option mx_V) (S h : mx_H) (n : Int), mx_ex d 110 8 [l0, l1, l2] [(2, x)] S h n = mx_ex d 110 9 [l0, mx_nl l1, some (2, x)] [] S h n) ∧
  (∀ (d : Nat) (x : Int) (l0 l1 : Option mx_V) (S h : mx_H) (n : Int), mx_ex d 110 9 [l0, l1, some (2, x)] [] S h n = mx_ex d 110 10 [l0, l1, some (2, x)] [(2, x)] S h n) ∧
  (∀ (d : Nat) (a : Int) (l0 l1 l2 : Option mx_V) (S h : mx_H) (n : Int), mx_ex d 110 10 [l0, l1, l2] [(2, a)] S h n = mx_br (a = -1) d 110 13 17 [l0, l1, l2] [] S h n) ∧
  (∀ (d : Nat) (l0 l1 l2 : Option mx_V) (S h : mx_H) (n : Int), mx_ex d 110 13 [l0, l1, l2] [] S h n = mx_ex d 110 14 [l0, l1, l2] [(0, (-1))] S h n) ∧
  (∀ (d : Nat) (l0 l1 l2 : Option mx_V) (v0 : mx_V) (S h : mx_H) (n : Int), mx_ex d 110 14 [l0, l1, l2] [v0] S h n = mx_ex d 110 21 [l0, l1, l2] [v0] S h n) ∧
  (∀ (d : Nat) (x : Int) (l0 l1 : Option mx_V) (S h : mx_H) (n : Int), mx_ex d 110 17 [l0, l1, some (2, x)] [] S h n = mx_ex d 110 18 [l0, l1, some (2, x)] [(2, x)] S h n) ∧
  (∀ (d : Nat) (a : Int) (l0 l1 l2 : Option mx_V) (S h : mx_H) (n : Int), mx_ex (d + 1) 110 18 [l0, l1, l2] [(2, a)] S h n = mx_cl (1 ≤ S a (-2) ∧ S a (-2) ≤ 6) d 45 [(2, a)] 110 21 [l0, l1, l2] [] S h n) ∧
  (∀ (d : Nat) (x : Int) (l0 l1 l2 : Option mx_V) (S h : mx_H) (n : Int), mx_ex d 110 21 [l0, l1, l2] [(0, x)] S h n = some (some (0, x), S, h, n)) :=
  ⟨by intros; exact rfl,
   by intros; exact eq_ld rfl rfl,
   by intros; exact eq_gr rfl,
   by intros; exact eq_ld rfl rfl,
   by intros; exact eq_cv rfl (Nat.le_of_ble_eq_true rfl) rfl rfl rfl (Nat.le_of_ble_eq_true rfl),
   by intros; exact eq_st rfl (by decide) (Nat.le_of_ble_eq_true rfl) rfl,
   by intros; exact eq_ld rfl rfl,
   by intros; exact eq_nul rfl,
   by intros; exact eq_push rfl,
   by intros; exact eq_go rfl,
   by intros; exact eq_ld rfl rfl,
   by intros; exact eq_ci rfl (Nat.le_of_ble_eq_true rfl) rfl rfl rfl (Nat.le_of_ble_eq_true rfl),
   by intros; exact eq_ret rfl⟩
theorem rw_X11_line :
  (∀ (d : Nat) (a0 a1 a2 a3 a4 : Int) (S h : mx_H) (n : Int), mx_M d 111 [(2, a0), (0, a1), (0, a2), (0, a3), (0, a4)] S h n = mx_ex d 111 0 [some (2, a0), some (0, a1), some (0, a2), some (0, a3), some (0, a4)] [] S h n) ∧
  (∀ (d : Nat) (x : Int) (l0 l2 l3 l4 : Option mx_V) (S h : mx_H) (n : Int), mx_ex d 111 0 [l0, some (0, x), l2, l3, l4] [] S h n = mx_ex d 111 1 [l0, some (0, x), l2, l3, l4] [(0, x)] S h n) ∧
  (∀ (d : Nat) (l0 l1 l2 l3 l4 : Option mx_V) (v0 : mx_V) (S h : mx_H) (n : Int), mx_ex d 111 1 [l0, l1, l2, l3, l4] [v0] S h n = mx_ex d 111 2 [l0, l1, l2, l3, l4] [(0, 0), v0] S h n) ∧
  (∀ (d : Nat) (l0 l1 l2 l3 l4 : Option mx_V) (v0 v1 : mx_V) (S h : mx_H) (n : Int), mx_ex d 111 2 [l0, l1, l2, l3, l4] [v0, v1] S h n = mx_ex d 111 3 [l0, l1, l2, l3, l4] [(0, 3), v0, v1] S h n) ∧
  (∀ (d : Nat) (x0 x1 x2 : Int) (l0 l1 l2 l3 l4 : Option mx_V) (S h : mx_H) (n : Int), mx_ex (d + 1) 111 3 [l0, l1, l2, l3, l4] [(0, x0), (0, x1), (0, x2)] S h n = mx_rt (mx_M d 147 [(0, x2), (0, x1), (0, x0)] S h n) (d + 1) 111 6 [l0, l1, l2, l3, l4] []) ∧
  (∀ (d : Nat) (a : Int) (l0 l1 l2 l3 l4 : Option mx_V) (S h : mx_H) (n : Int), mx_ex d 111 6 [l0, l1, l2, l3, l4] [(0, a)] S h n = mx_br (a = 0) d 111 20 9 [l0, l1, l2, l3, l4] [] S h n) ∧
  (∀ (d : Nat) (x : Int) (l1 l2 l3 l4 : Option mx_V) (S h : mx_H) (n : Int), mx_ex d 111 9 [some (2, x), l1, l2, l3, l4] [] S h n = mx_ex d 111 10 [some (2, x), l1, l2, l3, l4] [(2, x)] S h n) ∧
  (∀ (d : Nat) (a : Int) (l0 l1 l2 l3 l4 : Option mx_V) (S h : mx_H) (n : Int), mx_ex d 111 10 [l0, l1, l2, l3, l4] [(2, a)] S h n = mx_gd (7 ≤ S a (-2) ∧ S a (-2) ≤ 7) d 111 13 [l0, l1, l2, l3, l4] [(2, S a 3)] S h n) ∧
  (∀ (d : Nat) (x : Int) (l0 l1 l3 l4 : Option mx_V) (v0 : mx_V) (S h : mx_H) (n : Int), mx_ex d 111 13 [l0, l1, some (0, x), l3, l4] [v0] S h n = mx_ex d 111 14 [l0, l1, some (0, x), l3, l4] [(0, x), v0] S h n) ∧
  (∀ (d : Nat) (x0 a : Int) (l0 l1 l2 l3 l4 : Option mx_V) (S h : mx_H) (n : Int), mx_ex (d + 1) 111 14 [l0, l1, l2, l3, l4] [(0, x0), (2, a)] S h n = mx_cl (S a (-2) = 8) d 91 [(2, a), (0, x0)] 111 17 [l0, l1, l2, l3, l4] [] S h n) ∧
  (∀ (d : Nat) (a : Int) (l0 l1 l2 l3 l4 : Option mx_V) (S h : mx_H) (n : Int), mx_ex d 111 17 [l0, l1, l2, l3, l4] [(2, a)] S h n = mx_br (a = -1) d 111 20 22 [l0, l1, l2, l3, l4] [] S h n) ∧
  (∀ (d : Nat) (l0 l1 l2 l3 l4 : Option mx_V) (S h : mx_H) (n : Int), mx_ex d 111 20 [l0, l1, l2, l3, l4] [] S h n = mx_ex d 111 21 [l0, l1, l2, l3, l4] [(0, (-1))] S h n) ∧
  (∀ (d : Nat) (x : Int) (l0 l1 l2 l3 l4 : Option mx_V) (S h : mx_H) (n : Int), mx_ex d 111 21 [l0, l1, l2, l3, l4] [(0, x)] S h n = some (some (0, x), S, h, n)) ∧
  (∀ (d : Nat) (x : Int) (l0 l2 l3 l4 : Option mx_V) (S h : mx_H) (n : Int), mx_ex d 111 22 [l0, some (0, x), l2, l3, l4] [] S h n = mx_ex d 111 23 [l0, some (0, x), l2, l3, l4] [(0, x)] S h n) ∧
  (∀ (d : Nat) (l0 l1 l2 l3 l4 : Option mx_V) (v0 : mx_V) (S h : mx_H) (n : Int), mx_ex d 111 23 [l0, l1, l2, l3, l4] [v0] S h n = mx_ex d 111 24 [l0, l1, l2, l3, l4] [(0, 3), v0] S h n) ∧
  (∀ (d : Nat) (b a : Int) (l0 l1 l2 l3 l4 : Option mx_V) (S h : mx_H) (n : Int), mx_ex d 111 24 [l0, l1, l2, l3, l4] [(0, b), (0, a)] S h n = mx_br (a = b) d 111 40 27 [l0, l1, l2, l3, l4] [] S h n) ∧
  (∀ (d : Nat) (x : Int) (l1 l2 l3 l4 : Option mx_V) (S h : mx_H) (n : Int), mx_ex d 111 27 [some (2, x), l1, l2, l3, l4] [] S h n = mx_ex d 111 28 [some (2, x), l1, l2, l3, l4] [(2, x)] S h n) ∧
  (∀ (d : Nat) (a : Int) (l0 l1 l2 l3 l4 : Option mx_V) (S h : mx_H) (n : Int), mx_ex d 111 28 [l0, l1, l2, l3, l4] [(2, a)] S h n = mx_gd (7 ≤ S a (-2) ∧ S a (-2) ≤ 7) d 111 31 [l0, l1, l2, l3, l4] [(2, S a 3)] S h n) ∧
  (∀ (d : Nat) (x : Int) (l0 l1 l2 l4 : Option mx_V) (v0 : mx_V) (S h : mx_H) (n : Int), mx_ex d 111 31 [l0, l1, l2, some (0, x), l4] [v0] S h n = mx_ex d 111 32 [l0, l1, l2, some (0, x), l4] [(0, x), v0] S h n) ∧
  (∀ (d : Nat) (x0 a : Int) (l0 l1 l2 l3 l4 : Option mx_V) (S h : mx_H) (n : Int), mx_ex (d + 1) 111 32 [l0, l1, l2, l3, l4] [(0, x0), (2, a)] S h n = mx_cl (S a (-2) = 8) d 91 [(2, a), (0, x0)] 111 35 [l0, l1, l2, l3, l4] [] S h n) ∧
  (∀ (d : Nat) (a : Int) (l0 l1 l2 l3 l4 : Option mx_V) (S h : mx_H) (n : Int), mx_ex d 111 35 [l0, l1, l2, l3, l4] [(2, a)] S h n = mx_br (a = -1) d 111 38 40 [l0, l1, l2, l3, l4] [] S h n) ∧
  (∀ (d : Nat) (l0 l1 l2 l3 l4 : Option mx_V) (S h : mx_H) (n : Int), mx_ex d 111 38 [l0, l1, l2, l3, l4] [] S h n = mx_ex d 111 39 [l0, l1, l2, l3, l4] [(0, (-1))] S h n) ∧
  (∀ (d : Nat) (x : Int) (l0 l1 l2 l3 l4 : Option mx_V) (S h : mx_H) (n : Int), mx_ex d 111 39 [l0, l1, l2, l3, l4] [(0, x)] S h n = some (some (0, x), S, h, n)) ∧
  (∀ (d : Nat) (x : Int) (l0 l2 l3 l4 : Option mx_V) (S h : mx_H) (n : Int), mx_ex d 111 40 [l0, some (0, x), l2, l3, l4] [] S h n = mx_ex d 111 41 [l0, some (0, x), l2, l3, l4] [(0, x)] S h n) ∧
  (∀ (d : Nat) (l0 l1 l2 l3 l4 : Option mx_V) (v0 : mx_V) (S h : mx_H) (n : Int), mx_ex d 111 41 [l0, l1, l2, l3, l4] [v0] S h n = mx_ex d 111 42 [l0, l1, l2, l3, l4] [(0, 2), v0] S h n) ∧
  (∀ (d : Nat) (b a : Int) (l0 l1 l2 l3 l4 : Option mx_V) (S h : mx_H) (n : Int), mx_ex d 111 42 [l0, l1, l2, l3, l4] [(0, b), (0, a)] S h n = mx_br (a = b) d 111 45 59 [l0, l1, l2, l3, l4] [] S h n) ∧
  (∀ (d : Nat) (x : Int) (l1 l2 l3 l4 : Option mx_V) (S h : mx_H) (n : Int), mx_ex d 111 45 [some (2, x), l1, l2, l3, l4] [] S h n = mx_ex d 111 46 [some (2, x), l1, l2, l3, l4] [(2, x)] S h n) ∧
  (∀ (d : Nat) (a : Int) (l0 l1 l2 l3 l4 : Option mx_V) (S h : mx_H) (n : Int), mx_ex d 111 46 [l0, l1, l2, l3, l4] [(2, a)] S h n = mx_gd (7 ≤ S a (-2) ∧ S a (-2) ≤ 7) d 111 49 [l0, l1, l2, l3, l4] [(2, S a 3)] S h n) ∧
  (∀ (d : Nat) (x : Int) (l0 l1 l2 l3 : Option mx_V) (v0 : mx_V) (S h : mx_H) (n : Int), mx_ex d 111 49 [l0, l1, l2, l3, some (0, x)] [v0] S h n = mx_ex d 111 51 [l0, l1, l2, l3, some (0, x)] [(0, x), v0] S h n) ∧
  (∀ (d : Nat) (x0 a : Int) (l0 l1 l2 l3 l4 : Option mx_V) (S h : mx_H) (n : Int), mx_ex (d + 1) 111 51 [l0, l1, l2, l3, l4] [(0, x0), (2, a)] S h n = mx_cl (S a (-2) = 8) d 91 [(2, a), (0, x0)] 111 54 [l0, l1, l2, l3, l4] [] S h n) ∧
  (∀ (d : Nat) (a : Int) (l0 l1 l2 l3 l4 : Option mx_V) (S h : mx_H) (n : Int), mx_ex d 111 54 [l0, l1, l2, l3, l4] [(2, a)] S h n = mx_br (a = -1) d 111 57 59 [l0, l1, l2, l3, l4] [] S h n) ∧
  (∀ (d : Nat) (l0 l1 l2 l3 l4 : Option mx_V) (S h : mx_H) (n : Int), mx_ex d 111 57 [l0, l1, l2, l3, l4] [] S h n = mx_ex d 111 58 [l0, l1, l2, l3, l4] [(0, (-1))] S h n) ∧
  (∀ (d : Nat) (x : Int) (l0 l1 l2 l3 l4 : Option mx_V) (S h : mx_H) (n : Int), mx_ex d 111 58 [l0, l1, l2, l3, l4] [(0, x)] S h n = some (some (0, x), S, h, n)) ∧
  (∀ (d : Nat) (x : Int) (l0 l2 l3 l4 : Option mx_V) (S h : mx_H) (n : Int), mx_ex d 111 59 [l0, some (0, x), l2, l3, l4] [] S h n = mx_ex d 111 60 [l0, some (0, x), l2, l3, l4] [(0, x)] S h n) ∧
  (∀ (d : Nat) (l0 l1 l2 l3 l4 : Option mx_V) (v0 : mx_V) (S h : mx_H) (n : Int), mx_ex d 111 60 [l0, l1, l2, l3, l4] [v0] S h n = mx_ex d 111 61 [l0, l1, l2, l3, l4] [(0, 3), v0] S h n) ∧
  (∀ (d : Nat) (b a : Int) (l0 l1 l2 l3 l4 : Option mx_V) (S h : mx_H) (n : Int), mx_ex d 111 61 [l0, l1, l2, l3, l4] [(0, b), (0, a)] S h n = mx_br (a = b) d 111 64 77 [l0, l1, l2, l3, l4] [] S h n) ∧
  (∀ (d : Nat) (x : Int) (l0 l1 l2 l3 : Option mx_V) (S h : mx_H) (n : Int), mx_ex d 111 64 [l0, l1, l2, l3, some (0, x)] [] S h n = mx_ex d 111 66 [l0, l1, l2, l3, some (0, x)] [(0, x)] S h n) ∧
  (∀ (d : Nat) (l0 l1 l2 l3 l4 : Option mx_V) (v0 : mx_V) (S h : mx_H) (n : Int), mx_ex d 111 66 [l0, l1, l2, l3, l4] [v0] S h n = mx_ex d 111 67 [l0, l1, l2, l3, l4] [(0, 1), v0] S h n) ∧
  (∀ (d : Nat) (l0 l1 l2 l3 l4 : Option mx_V) (v0 v1 : mx_V) (S h : mx_H) (n : Int), mx_ex d 111 67 [l0, l1, l2, l3, l4] [v0, v1] S h n = mx_ex d 111 69 [l0, l1, l2, l3, l4] [(0, 99), v0, v1] S h n) ∧
  (∀ (d : Nat) (x0 x1 x2 : Int) (l0 l1 l2 l3 l4 : Option mx_V) (S h : mx_H) (n : Int), mx_ex (d + 1) 111 69 [l0, l1, l2, l3, l4] [(0, x0), (0, x1), (0, x2)] S h n = mx_rt (mx_M d 147 [(0, x2), (0, x1), (0, x0)] S h n) (d + 1) 111 72 [l0, l1, l2, l3, l4] []) ∧
  (∀ (d : Nat) (a : Int) (l0 l1 l2 l3 l4 : Option mx_V) (S h : mx_H) (n : Int), mx_ex d 111 72 [l0, l1, l2, l3, l4] [(0, a)] S h n = mx_br (a = 0) d 111 75 77 [l0, l1, l2, l3, l4] [] S h n) ∧
  (∀ (d : Nat) (l0 l1 l2 l3 l4 : Option mx_V) (S h : mx_H) (n : Int), mx_ex d 111 75 [l0, l1, l2, l3, l4] [] S h n = mx_ex d 111 76 [l0, l1, l2, l3, l4] [(0, (-1))] S h n) ∧
  (∀ (d : Nat) (x : Int) (l0 l1 l2 l3 l4 : Option mx_V) (S h : mx_H) (n : Int), mx_ex d 111 76 [l0, l1, l2, l3, l4] [(0, x)] S h n = some (some (0, x), S, h, n)) ∧
  (∀ (d : Nat) (x : Int) (l1 l2 l3 l4 : Option mx_V) (S h : mx_H) (n : Int), mx_ex d 111 77 [some (2, x), l1, l2, l3, l4] [] S h n = mx_ex d 111 78 [some (2, x), l1, l2, l3, l4] [(2, x)] S h n) ∧
  (∀ (d : Nat) (a : Int) (l0 l1 l2 l3 l4 : Option mx_V) (S h : mx_H) (n : Int), mx_ex d 111 78 [l0, l1, l2, l3, l4] [(2, a)] S h n = mx_gd (7 ≤ S a (-2) ∧ S a (-2) ≤ 7) d 111 81 [l0, l1, l2, l3, l4] [(2, S a 3)] S h n) ∧
  (∀ (d : Nat) (a : Int) (l0 l1 l2 l3 l4 : Option mx_V) (S h : mx_H) (n : Int), mx_ex d 111 81 [l0, l1, l2, l3, l4] [(2, a)] S h n = mx_gd (8 ≤ S a (-2) ∧ S a (-2) ≤ 8) d 111 84 [l0, l1, l2, l3, l4] [(0, h a 4)] S h n) ∧
  (∀ (d : Nat) (l0 l1 l2 l3 l4 : Option mx_V) (v0 : mx_V) (S h : mx_H) (n : Int), mx_ex d 111 84 [l0, l1, l2, l3, l4] [v0] S h n = mx_ex d 111 86 [l0, l1, l2, l3, l4] [(0, 6), v0] S h n) ∧
  (∀ (d : Nat) (b a : Int) (l0 l1 l2 l3 l4 : Option mx_V) (S h : mx_H) (n : Int), mx_ex d 111 86 [l0, l1, l2, l3, l4] [(0, b), (0, a)] S h n = mx_br (a < b) d 111 92 89 [l0, l1, l2, l3, l4] [] S h n) ∧
  (∀ (d : Nat) (l0 l1 l2 l3 l4 : Option mx_V) (S h : mx_H) (n : Int), mx_ex d 111 89 [l0, l1, l2, l3, l4] [] S h n = mx_ex d 111 91 [l0, l1, l2, l3, l4] [(0, (-2))] S h n) ∧
  (∀ (d : Nat) (x : Int) (l0 l1 l2 l3 l4 : Option mx_V) (S h : mx_H) (n : Int), mx_ex d 111 91 [l0, l1, l2, l3, l4] [(0, x)] S h n = some (some (0, x), S, h, n)) ∧
  (∀ (d : Nat) (x : Int) (l1 l2 l3 l4 : Option mx_V) (S h : mx_H) (n : Int), mx_ex d 111 92 [some (2, x), l1, l2, l3, l4] [] S h n = mx_ex d 111 93 [some (2, x), l1, l2, l3, l4] [(2, x)] S h n) ∧
  (∀ (d : Nat) (a : Int) (l0 l1 l2 l3 l4 : Option mx_V) (S h : mx_H) (n : Int), mx_ex d 111 93 [l0, l1, l2, l3, l4] [(2, a)] S h n = mx_gd (7 ≤ S a (-2) ∧ S a (-2) ≤ 7) d 111 96 [l0, l1, l2, l3, l4] [(2, S a 3)] S h n) ∧
  (∀ (d : Nat) (x : Int) (l0 l2 l3 l4 : Option mx_V) (v0 : mx_V) (S h : mx_H) (n : Int), mx_ex d 111 96 [l0, some (0, x), l2, l3, l4] [v0] S h n = mx_ex d 111 97 [l0, some (0, x), l2, l3, l4] [(0, x), v0] S h n) ∧
  (∀ (d : Nat) (x : Int) (l0 l1 l3 l4 : Option mx_V) (v0 v1 : mx_V) (S h : mx_H) (n : Int), mx_ex d 111 97 [l0, l1, some (0, x), l3, l4] [v0, v1] S h n = mx_ex d 111 98 [l0, l1, some (0, x), l3, l4] [(0, x), v0, v1] S h n) ∧
  (∀ (d : Nat) (x : Int) (l0 l1 l2 l4 : Option mx_V) (v0 v1 v2 : mx_V) (S h : mx_H) (n : Int), mx_ex d 111 98 [l0, l1, l2, some (0, x), l4] [v0, v1, v2] S h n = mx_ex d 111 99 [l0, l1, l2, some (0, x), l4] [(0, x), v0, v1, v2] S h n) ∧
  (∀ (d : Nat) (x : Int) (l0 l1 l2 l3 : Option mx_V) (v0 v1 v2 v3 : mx_V) (S h : mx_H) (n : Int), mx_ex d 111 99 [l0, l1, l2, l3, some (0, x)] [v0, v1, v2, v3] S h n = mx_ex d 111 101 [l0, l1, l2, l3, some (0, x)] [(0, x), v0, v1, v2, v3] S h n) ∧
  (∀ (d : Nat) (x0 x1 x2 x3 a : Int) (l0 l1 l2 l3 l4 : Option mx_V) (S h : mx_H) (n : Int), mx_ex (d + 1) 111 101 [l0, l1, l2, l3, l4] [(0, x0), (0, x1), (0, x2), (0, x3), (2, a)] S h n = mx_cl (S a (-2) = 8) d 94 [(2, a), (0, x3), (0, x2), (0, x1), (0, x0)] 111 104 [l0, l1, l2, l3, l4] [] S h n) ∧
  (∀ (d : Nat) (x : Int) (l0 l1 l2 l3 l4 : Option mx_V) (S h : mx_H) (n : Int), mx_ex d 111 104 [l0, l1, l2, l3, l4] [(0, x)] S h n = some (some (0, x), S, h, n)) :=
  ⟨by intros; exact rfl,
   by intros; exact eq_ld rfl rfl,
   by intros; exact eq_push rfl,
   by intros; exact eq_push rfl,
   by intros; exact eq_cs rfl (Nat.le_of_ble_eq_true rfl) rfl rfl rfl (Nat.le_of_ble_eq_true rfl),
   by intros; exact eq_if0 rfl,
   by intros; exact eq_ld rfl rfl,
   by intros; exact eq_gr rfl,
   by intros; exact eq_ld rfl rfl,
   by intros; exact eq_cv rfl (Nat.le_of_ble_eq_true rfl) rfl rfl rfl (Nat.le_of_ble_eq_true rfl),
   by intros; exact eq_nul rfl,
   by intros; exact eq_push rfl,
   by intros; exact eq_ret rfl,
   by intros; exact eq_ld rfl rfl,
   by intros; exact eq_push rfl,
   by intros; exact eq_ic0 rfl,
   by intros; exact eq_ld rfl rfl,
   by intros; exact eq_gr rfl,
   by intros; exact eq_ld rfl rfl,
   by intros; exact eq_cv rfl (Nat.le_of_ble_eq_true rfl) rfl rfl rfl (Nat.le_of_ble_eq_true rfl),
   by intros; exact eq_nul rfl,
   by intros; exact eq_push rfl,
   by intros; exact eq_ret rfl,
   by intros; exact eq_ld rfl rfl,
   by intros; exact eq_push rfl,
   by intros; exact eq_ic1 rfl,
   by intros; exact eq_ld rfl rfl,
   by intros; exact eq_gr rfl,
   by intros; exact eq_ld rfl rfl,
   by intros; exact eq_cv rfl (Nat.le_of_ble_eq_true rfl) rfl rfl rfl (Nat.le_of_ble_eq_true rfl),
   by intros; exact eq_nul rfl,
   by intros; exact eq_push rfl,
   by intros; exact eq_ret rfl,
   by intros; exact eq_ld rfl rfl,
   by intros; exact eq_push rfl,
   by intros; exact eq_ic1 rfl,
   by intros; exact eq_ld rfl rfl,
   by intros; exact eq_push rfl,
   by intros; exact eq_push rfl,
   by intros; exact eq_cs rfl (Nat.le_of_ble_eq_true rfl) rfl rfl rfl (Nat.le_of_ble_eq_true rfl),
   by intros; exact eq_if1 rfl,
   by intros; exact eq_push rfl,
   by intros; exact eq_ret rfl,
   by intros; exact eq_ld rfl rfl,
   by intros; exact eq_gr rfl,
   by intros; exact eq_gi rfl,
   by intros; exact eq_push rfl,
   by intros; exact eq_ic2 rfl,
   by intros; exact eq_push rfl,
   by intros; exact eq_ret rfl,
   by intros; exact eq_ld rfl rfl,
   by intros; exact eq_gr rfl,
   by intros; exact eq_ld rfl rfl,
   by intros; exact eq_ld rfl rfl,
   by intros; exact eq_ld rfl rfl,
   by intros; exact eq_ld rfl rfl,
   by intros; exact eq_cv rfl (Nat.le_of_ble_eq_true rfl) rfl rfl rfl (Nat.le_of_ble_eq_true rfl),
   by intros; exact eq_ret rfl⟩
theorem rw_X11_lineOf :
  (∀ (d : Nat) (a0 a1 a2 : Int) (S h : mx_H) (n : Int), mx_M d 112 [(2, a0), (0, a1), (0, a2)] S h n = mx_ex d 112 0 [some (2, a0), some (0, a1), some (0, a2)] [] S h n) ∧
  (∀ (d : Nat) (x : Int) (l0 l2 : Option mx_V) (S h : mx_H) (n : Int), mx_ex d 112 0 [l0, some (0, x), l2] [] S h n = mx_ex d 112 1 [l0, some (0, x), l2] [(0, x)] S h n) ∧
  (∀ (d : Nat) (l0 l1 l2 : Option mx_V) (v0 : mx_V) (S h : mx_H) (n : Int), mx_ex d 112 1 [l0, l1, l2] [v0] S h n = mx_ex d 112 2 [l0, l1, l2] [(0, 0), v0] S h n) ∧
  (∀ (d : Nat) (x : Int) (l1 l2 : Option mx_V) (v0 v1 : mx_V) (S h : mx_H) (n : Int), mx_ex d 112 2 [some (2, x), l1, l2] [v0, v1] S h n = mx_ex d 112 3 [some (2, x), l1, l2] [(2, x), v0, v1] S h n) ∧
  (∀ (d : Nat) (a : Int) (l0 l1 l2 : Option mx_V) (v1 v2 : mx_V) (S h : mx_H) (n : Int), mx_ex d 112 3 [l0, l1, l2] [(2, a), v1, v2] S h n = mx_gd (7 ≤ S a (-2) ∧ S a (-2) ≤ 7) d 112 6 [l0, l1, l2] [(2, S a 3), v1, v2] S h n) ∧
  (∀ (d : Nat) (a : Int) (l0 l1 l2 : Option mx_V) (v1 v2 : mx_V) (S h : mx_H) (n : Int), mx_ex d 112 6 [l0, l1, l2] [(2, a), v1, v2] S h n = mx_gd (8 ≤ S a (-2) ∧ S a (-2) ≤ 8) d 112 9 [l0, l1, l2] [(0, h a 4), v1, v2] S h n) ∧
  (∀ (d : Nat) (l0 l1 l2 : Option mx_V) (v0 v1 v2 : mx_V) (S h : mx_H) (n : Int), mx_ex d 112 9 [l0, l1, l2] [v0, v1, v2] S h n = mx_ex d 112 10 [l0, l1, l2] [(0, 1), v0, v1, v2] S h n) ∧
  (∀ (d : Nat) (b a : Int) (l0 l1 l2 : Option mx_V) (v2 v3 : mx_V) (S h : mx_H) (n : Int), mx_ex d 112 10 [l0, l1, l2] [(0, b), (0, a), v2, v3] S h n = mx_ex d 112 11 [l0, l1, l2] [(0, mx_w (a - b)), v2, v3] S h n) ∧
  (∀ (d : Nat) (x0 x1 x2 : Int) (l0 l1 l2 : Option mx_V) (S h : mx_H) (n : Int), mx_ex (d + 1) 112 11 [l0, l1, l2] [(0, x0), (0, x1), (0, x2)] S h n = mx_rt (mx_M d 147 [(0, x2), (0, x1), (0, x0)] S h n) (d + 1) 112 14 [l0, l1, l2] []) ∧
  (∀ (d : Nat) (a : Int) (l0 l1 l2 : Option mx_V) (S h : mx_H) (n : Int), mx_ex d 112 14 [l0, l1, l2] [(0, a)] S h n = mx_br (a = 0) d 112 26 17 [l0, l1, l2] [] S h n) ∧
  (∀ (d : Nat) (x : Int) (l0 l1 : Option mx_V) (S h : mx_H) (n : Int), mx_ex d 112 17 [l0, l1, some (0, x)] [] S h n = mx_ex d 112 18 [l0, l1, some (0, x)] [(0, x)] S h n) ∧
  (∀ (d : Nat) (l0 l1 l2 : Option mx_V) (v0 : mx_V) (S h : mx_H) (n : Int), mx_ex d 112 18 [l0, l1, l2] [v0] S h n = mx_ex d 112 19 [l0, l1, l2] [(0, 0), v0] S h n) ∧
  (∀ (d : Nat) (l0 l1 l2 : Option mx_V) (v0 v1 : mx_V) (S h : mx_H) (n : Int), mx_ex d 112 19 [l0, l1, l2] [v0, v1] S h n = mx_ex d 112 20 [l0, l1, l2] [(0, 3), v0, v1] S h n) ∧
  (∀ (d : Nat) (x0 x1 x2 : Int) (l0 l1 l2 : Option mx_V) (S h : mx_H) (n : Int), mx_ex (d + 1) 112 20 [l0, l1, l2] [(0, x0), (0, x1), (0, x2)] S h n = mx_rt (mx_M d 147 [(0, x2), (0, x1), (0, x0)] S h n) (d + 1) 112 23 [l0, l1, l2] []) ∧
  (∀ (d : Nat) (a : Int) (l0 l1 l2 : Option mx_V) (S h : mx_H) (n : Int), mx_ex d 112 23 [l0, l1, l2] [(0, a)] S h n = mx_br (a = 0) d 112 26 28 [l0, l1, l2] [] S h n) ∧
  (∀ (d : Nat) (l0 l1 l2 : Option mx_V) (S h : mx_H) (n : Int), mx_ex d 112 26 [l0, l1, l2] [] S h n = mx_ex d 112 27 [l0, l1, l2] [(0, (-1))] S h n) ∧
  (∀ (d : Nat) (x : Int) (l0 l1 l2 : Option mx_V) (S h : mx_H) (n : Int), mx_ex d 112 27 [l0, l1, l2] [(0, x)] S h n = some (some (0, x), S, h, n)) ∧
  (∀ (d : Nat) (x : Int) (l1 l2 : Option mx_V) (S h : mx_H) (n : Int), mx_ex d 112 28 [some (2, x), l1, l2] [] S h n = mx_ex d 112 29 [some (2, x), l1, l2] [(2, x)] S h n) ∧
  (∀ (d : Nat) (a : Int) (l0 l1 l2 : Option mx_V) (S h : mx_H) (n : Int), mx_ex d 112 29 [l0, l1, l2] [(2, a)] S h n = mx_gd (7 ≤ S a (-2) ∧ S a (-2) ≤ 7) d 112 32 [l0, l1, l2] [(2, S a 3)] S h n) ∧
  (∀ (d : Nat) (a : Int) (l0 l1 l2 : Option mx_V) (S h : mx_H) (n : Int), mx_ex d 112 32 [l0, l1, l2] [(2, a)] S h n = mx_gd (8 ≤ S a (-2) ∧ S a (-2) ≤ 8) d 112 35 [l0, l1, l2] [(2, S a 2)] S h n) ∧
  (∀ (d : Nat) (x : Int) (l0 l2 : Option mx_V) (v0 : mx_V) (S h : mx_H) (n : Int), mx_ex d 112 35 [l0, some (0, x), l2] [v0] S h n = mx_ex d 112 36 [l0, some (0, x), l2] [(0, x), v0] S h n) ∧
  (∀ (d : Nat) (l0 l1 l2 : Option mx_V) (v0 v1 : mx_V) (S h : mx_H) (n : Int), mx_ex d 112 36 [l0, l1, l2] [v0, v1] S h n = mx_ex d 112 37 [l0, l1, l2] [(0, 4), v0, v1] S h n) ∧
  (∀ (d : Nat) (b a : Int) (l0 l1 l2 : Option mx_V) (v2 : mx_V) (S h : mx_H) (n : Int), mx_ex d 112 37 [l0, l1, l2] [(0, b), (0, a), v2] S h n = mx_ex d 112 38 [l0, l1, l2] [(0, mx_w (a * b)), v2] S h n) ∧
  (∀ (d : Nat) (x : Int) (l0 l1 : Option mx_V) (v0 v1 : mx_V) (S h : mx_H) (n : Int), mx_ex d 112 38 [l0, l1, some (0, x)] [v0, v1] S h n = mx_ex d 112 39 [l0, l1, some (0, x)] [(0, x), v0, v1] S h n) ∧
  (∀ (d : Nat) (b a : Int) (l0 l1 l2 : Option mx_V) (v2 : mx_V) (S h : mx_H) (n : Int), mx_ex d 112 39 [l0, l1, l2] [(0, b), (0, a), v2] S h n = mx_ex d 112 40 [l0, l1, l2] [(0, mx_w (a + b)), v2] S h n) ∧
  (∀ (d : Nat) (i a : Int) (l0 l1 l2 : Option mx_V) (S h : mx_H) (n : Int), mx_ex d 112 40 [l0, l1, l2] [(0, i), (2, a)] S h n = mx_gd ((S a (-2) = 20 ∨ S a (-2) = 24) ∧ 0 ≤ i ∧ i < S a (-1)) d 112 41 [l0, l1, l2] [(0, h a i)] S h n) ∧
  (∀ (d : Nat) (x : Int) (l0 l1 l2 : Option mx_V) (S h : mx_H) (n : Int), mx_ex d 112 41 [l0, l1, l2] [(0, x)] S h n = some (some (0, x), S, h, n)) :=
  ⟨by intros; exact rfl,
   by intros; exact eq_ld rfl rfl,
   by intros; exact eq_push rfl,
   by intros; exact eq_ld rfl rfl,
   by intros; exact eq_gr rfl,
   by intros; exact eq_gi rfl,
   by intros; exact eq_push rfl,
   by intros; exact eq_i2 (o := mx_sub) rfl,
   by intros; exact eq_cs rfl (Nat.le_of_ble_eq_true rfl) rfl rfl rfl (Nat.le_of_ble_eq_true rfl),
   by intros; exact eq_if0 rfl,
   by intros; exact eq_ld rfl rfl,
   by intros; exact eq_push rfl,
   by intros; exact eq_push rfl,
   by intros; exact eq_cs rfl (Nat.le_of_ble_eq_true rfl) rfl rfl rfl (Nat.le_of_ble_eq_true rfl),
   by intros; exact eq_if1 rfl,
   by intros; exact eq_push rfl,
   by intros; exact eq_ret rfl,
   by intros; exact eq_ld rfl rfl,
   by intros; exact eq_gr rfl,
   by intros; exact eq_gr rfl,
   by intros; exact eq_ld rfl rfl,
   by intros; exact eq_push rfl,
   by intros; exact eq_i2 (o := mx_mul) rfl,
   by intros; exact eq_ld rfl rfl,
   by intros; exact eq_i2 (o := mx_add) rfl,
   by intros; exact eq_iald rfl,
   by intros; exact eq_ret rfl⟩
theorem rw_X11_strike :
  (∀ (d : Nat) (a0 a1 : Int) (S h : mx_H) (n : Int), mx_M d 113 [(2, a0), (0, a1)] S h n = mx_ex d 113 0 [some (2, a0), some (0, a1)] [] S h n) ∧
  (∀ (d : Nat) (x : Int) (l0 : Option mx_V) (S h : mx_H) (n : Int), mx_ex d 113 0 [l0, some (0, x)] [] S h n = mx_ex d 113 1 [l0, some (0, x)] [(0, x)] S h n) ∧
  (∀ (d : Nat) (l0 l1 : Option mx_V) (v0 : mx_V) (S h : mx_H) (n : Int), mx_ex d 113 1 [l0, l1] [v0] S h n = mx_ex d 113 2 [l0, l1] [(0, 0), v0] S h n) ∧
  (∀ (d : Nat) (x : Int) (l1 : Option mx_V) (v0 v1 : mx_V) (S h : mx_H) (n : Int), mx_ex d 113 2 [some (2, x), l1] [v0, v1] S h n = mx_ex d 113 3 [some (2, x), l1] [(2, x), v0, v1] S h n) ∧
  (∀ (d : Nat) (a : Int) (l0 l1 : Option mx_V) (v1 v2 : mx_V) (S h : mx_H) (n : Int), mx_ex d 113 3 [l0, l1] [(2, a), v1, v2] S h n = mx_gd (7 ≤ S a (-2) ∧ S a (-2) ≤ 7) d 113 6 [l0, l1] [(2, S a 3), v1, v2] S h n) ∧
  (∀ (d : Nat) (a : Int) (l0 l1 : Option mx_V) (v1 v2 : mx_V) (S h : mx_H) (n : Int), mx_ex d 113 6 [l0, l1] [(2, a), v1, v2] S h n = mx_gd (8 ≤ S a (-2) ∧ S a (-2) ≤ 8) d 113 9 [l0, l1] [(0, h a 4), v1, v2] S h n) ∧
  (∀ (d : Nat) (l0 l1 : Option mx_V) (v0 v1 v2 : mx_V) (S h : mx_H) (n : Int), mx_ex d 113 9 [l0, l1] [v0, v1, v2] S h n = mx_ex d 113 10 [l0, l1] [(0, 1), v0, v1, v2] S h n) ∧
  (∀ (d : Nat) (b a : Int) (l0 l1 : Option mx_V) (v2 v3 : mx_V) (S h : mx_H) (n : Int), mx_ex d 113 10 [l0, l1] [(0, b), (0, a), v2, v3] S h n = mx_ex d 113 11 [l0, l1] [(0, mx_w (a - b)), v2, v3] S h n) ∧
  (∀ (d : Nat) (x0 x1 x2 : Int) (l0 l1 : Option mx_V) (S h : mx_H) (n : Int), mx_ex (d + 1) 113 11 [l0, l1] [(0, x0), (0, x1), (0, x2)] S h n = mx_rt (mx_M d 147 [(0, x2), (0, x1), (0, x0)] S h n) (d + 1) 113 14 [l0, l1] []) ∧
  (∀ (d : Nat) (a : Int) (l0 l1 : Option mx_V) (S h : mx_H) (n : Int), mx_ex d 113 14 [l0, l1] [(0, a)] S h n = mx_br (a = 0) d 113 17 19 [l0, l1] [] S h n) ∧
  (∀ (d : Nat) (l0 l1 : Option mx_V) (S h : mx_H) (n : Int), mx_ex d 113 17 [l0, l1] [] S h n = mx_ex d 113 18 [l0, l1] [(0, (-1))] S h n) ∧
  (∀ (d : Nat) (x : Int) (l0 l1 : Option mx_V) (S h : mx_H) (n : Int), mx_ex d 113 18 [l0, l1] [(0, x)] S h n = some (some (0, x), S, h, n)) ∧
  (∀ (d : Nat) (x : Int) (l1 : Option mx_V) (S h : mx_H) (n : Int), mx_ex d 113 19 [some (2, x), l1] [] S h n = mx_ex d 113 20 [some (2, x), l1] [(2, x)] S h n) ∧
  (∀ (d : Nat) (a : Int) (l0 l1 : Option mx_V) (S h : mx_H) (n : Int), mx_ex d 113 20 [l0, l1] [(2, a)] S h n = mx_gd (7 ≤ S a (-2) ∧ S a (-2) ≤ 7) d 113 23 [l0, l1] [(2, S a 3)] S h n) ∧
  (∀ (d : Nat) (x : Int) (l0 : Option mx_V) (v0 : mx_V) (S h : mx_H) (n : Int), mx_ex d 113 23 [l0, some (0, x)] [v0] S h n = mx_ex d 113 24 [l0, some (0, x)] [(0, x), v0] S h n) ∧
  (∀ (d : Nat) (x0 a : Int) (l0 l1 : Option mx_V) (S h : mx_H) (n : Int), mx_ex (d + 1) 113 24 [l0, l1] [(0, x0), (2, a)] S h n = mx_cl (S a (-2) = 8) d 95 [(2, a), (0, x0)] 113 27 [l0, l1] [] S h n) ∧
  (∀ (d : Nat) (x : Int) (l0 l1 : Option mx_V) (S h : mx_H) (n : Int), mx_ex d 113 27 [l0, l1] [(0, x)] S h n = some (some (0, x), S, h, n)) :=
  ⟨by intros; exact rfl,
   by intros; exact eq_ld rfl rfl,
   by intros; exact eq_push rfl,
   by intros; exact eq_ld rfl rfl,
   by intros; exact eq_gr rfl,
   by intros; exact eq_gi rfl,
   by intros; exact eq_push rfl,
   by intros; exact eq_i2 (o := mx_sub) rfl,
   by intros; exact eq_cs rfl (Nat.le_of_ble_eq_true rfl) rfl rfl rfl (Nat.le_of_ble_eq_true rfl),
   by intros; exact eq_if1 rfl,
   by intros; exact eq_push rfl,
   by intros; exact eq_ret rfl,
   by intros; exact eq_ld rfl rfl,
   by intros; exact eq_gr rfl,
   by intros; exact eq_ld rfl rfl,
   by intros; exact eq_cv rfl (Nat.le_of_ble_eq_true rfl) rfl rfl rfl (Nat.le_of_ble_eq_true rfl),
   by intros; exact eq_ret rfl⟩
theorem rw_X11_worlds :
  (∀ (d : Nat) (a0 : Int) (S h : mx_H) (n : Int), mx_M d 114 [(2, a0)] S h n = mx_ex d 114 0 [some (2, a0)] [] S h n) ∧
  (∀ (d : Nat) (x : Int) (S h : mx_H) (n : Int), mx_ex d 114 0 [some (2, x)] [] S h n = mx_ex d 114 1 [some (2, x)] [(2, x)] S h n) ∧
  (∀ (d : Nat) (a : Int) (l0 : Option mx_V) (S h : mx_H) (n : Int), mx_ex d 114 1 [l0] [(2, a)] S h n = mx_gd (7 ≤ S a (-2) ∧ S a (-2) ≤ 7) d 114 4 [l0] [(2, S a 2)] S h n) ∧
  (∀ (d : Nat) (a : Int) (l0 : Option mx_V) (S h : mx_H) (n : Int), mx_ex (d + 1) 114 4 [l0] [(2, a)] S h n = mx_cl (S a (-2) = 9) d 13 [(2, a)] 114 7 [l0] [] S h n) ∧
  (∀ (d : Nat) (x : Int) (l0 : Option mx_V) (S h : mx_H) (n : Int), mx_ex d 114 7 [l0] [(0, x)] S h n = some (some (0, x), S, h, n)) :=
  ⟨by intros; exact rfl,
   by intros; exact eq_ld rfl rfl,
   by intros; exact eq_gr rfl,
   by intros; exact eq_cv rfl (Nat.le_of_ble_eq_true rfl) rfl rfl rfl (Nat.le_of_ble_eq_true rfl),
   by intros; exact eq_ret rfl⟩
theorem rw_X11_world :
  (∀ (d : Nat) (a0 a1 a2 : Int) (S h : mx_H) (n : Int), mx_M d 115 [(2, a0), (0, a1), (0, a2)] S h n = mx_ex d 115 0 [some (2, a0), some (0, a1), some (0, a2)] [] S h n) ∧
  (∀ (d : Nat) (x : Int) (l0 l1 : Option mx_V) (S h : mx_H) (n : Int), mx_ex d 115 0 [l0, l1, some (0, x)] [] S h n = mx_ex d 115 1 [l0, l1, some (0, x)] [(0, x)] S h n) ∧
  (∀ (d : Nat) (x0 : Int) (l0 l1 l2 : Option mx_V) (S h : mx_H) (n : Int), mx_ex (d + 1) 115 1 [l0, l1, l2] [(0, x0)] S h n = mx_rt (mx_M d 148 [(0, x0)] S h n) (d + 1) 115 4 [l0, l1, l2] []) ∧
  (∀ (d : Nat) (a : Int) (l0 l1 l2 : Option mx_V) (S h : mx_H) (n : Int), mx_ex d 115 4 [l0, l1, l2] [(0, a)] S h n = mx_br (a = 0) d 115 7 9 [l0, l1, l2] [] S h n) ∧
  (∀ (d : Nat) (l0 l1 l2 : Option mx_V) (S h : mx_H) (n : Int), mx_ex d 115 7 [l0, l1, l2] [] S h n = mx_ex d 115 8 [l0, l1, l2] [(0, (-1))] S h n) ∧
  (∀ (d : Nat) (x : Int) (l0 l1 l2 : Option mx_V) (S h : mx_H) (n : Int), mx_ex d 115 8 [l0, l1, l2] [(0, x)] S h n = some (some (0, x), S, h, n)) ∧
  (∀ (d : Nat) (x : Int) (l1 l2 : Option mx_V) (S h : mx_H) (n : Int), mx_ex d 115 9 [some (2, x), l1, l2] [] S h n = mx_ex d 115 10 [some (2, x), l1, l2] [(2, x)] S h n) ∧
  (∀ (d : Nat) (a : Int) (l0 l1 l2 : Option mx_V) (S h : mx_H) (n : Int), mx_ex d 115 10 [l0, l1, l2] [(2, a)] S h n = mx_gd (7 ≤ S a (-2) ∧ S a (-2) ≤ 7) d 115 13 [l0, l1, l2] [(2, S a 2)] S h n) ∧
  (∀ (d : Nat) (x : Int) (l0 l2 : Option mx_V) (v0 : mx_V) (S h : mx_H) (n : Int), mx_ex d 115 13 [l0, some (0, x), l2] [v0] S h n = mx_ex d 115 14 [l0, some (0, x), l2] [(0, x), v0] S h n) ∧
  (∀ (d : Nat) (x0 a : Int) (l0 l1 l2 : Option mx_V) (S h : mx_H) (n : Int), mx_ex (d + 1) 115 14 [l0, l1, l2] [(0, x0), (2, a)] S h n = mx_cl (S a (-2) = 9) d 15 [(2, a), (0, x0)] 115 17 [l0, l1, l2] [] S h n) ∧
  (∀ (d : Nat) (a : Int) (l0 l1 l2 : Option mx_V) (S h : mx_H) (n : Int), mx_ex d 115 17 [l0, l1, l2] [(0, a)] S h n = mx_br (a = 0) d 115 32 20 [l0, l1, l2] [] S h n) ∧
  (∀ (d : Nat) (x : Int) (l1 l2 : Option mx_V) (S h : mx_H) (n : Int), mx_ex d 115 20 [some (2, x), l1, l2] [] S h n = mx_ex d 115 21 [some (2, x), l1, l2] [(2, x)] S h n) ∧
  (∀ (d : Nat) (a : Int) (l0 l1 l2 : Option mx_V) (S h : mx_H) (n : Int), mx_ex d 115 21 [l0, l1, l2] [(2, a)] S h n = mx_gd (7 ≤ S a (-2) ∧ S a (-2) ≤ 7) d 115 24 [l0, l1, l2] [(2, S a 2)] S h n) ∧
  (∀ (d : Nat) (a : Int) (l0 l1 l2 : Option mx_V) (S h : mx_H) (n : Int), mx_ex d 115 24 [l0, l1, l2] [(2, a)] S h n = mx_gd (9 ≤ S a (-2) ∧ S a (-2) ≤ 9) d 115 27 [l0, l1, l2] [(2, S a 1)] S h n) ∧
  (∀ (d : Nat) (x : Int) (l0 l1 : Option mx_V) (v0 : mx_V) (S h : mx_H) (n : Int), mx_ex d 115 27 [l0, l1, some (0, x)] [v0] S h n = mx_ex d 115 28 [l0, l1, some (0, x)] [(0, x), v0] S h n) ∧
  (∀ (d : Nat) (i a : Int) (l0 l1 l2 : Option mx_V) (S h : mx_H) (n : Int), mx_ex d 115 28 [l0, l1, l2] [(0, i), (2, a)] S h n = mx_gd ((S a (-2) = 20 ∨ S a (-2) = 24) ∧ 0 ≤ i ∧ i < S a (-1)) d 115 29 [l0, l1, l2] [(0, h a i)] S h n) ∧
  (∀ (d : Nat) (l0 l1 l2 : Option mx_V) (v0 : mx_V) (S h : mx_H) (n : Int), mx_ex d 115 29 [l0, l1, l2] [v0] S h n = mx_ex d 115 34 [l0, l1, l2] [v0] S h n) ∧
  (∀ (d : Nat) (l0 l1 l2 : Option mx_V) (S h : mx_H) (n : Int), mx_ex d 115 32 [l0, l1, l2] [] S h n = mx_ex d 115 34 [l0, l1, l2] [(0, (-3))] S h n) ∧
  (∀ (d : Nat) (x : Int) (l0 l1 l2 : Option mx_V) (S h : mx_H) (n : Int), mx_ex d 115 34 [l0, l1, l2] [(0, x)] S h n = some (some (0, x), S, h, n)) :=
  ⟨by intros; exact rfl,
   by intros; exact eq_ld rfl rfl,
   by intros; exact eq_cs rfl (Nat.le_of_ble_eq_true rfl) rfl rfl rfl (Nat.le_of_ble_eq_true rfl),
   by intros; exact eq_if1 rfl,
   by intros; exact eq_push rfl,
   by intros; exact eq_ret rfl,
   by intros; exact eq_ld rfl rfl,
   by intros; exact eq_gr rfl,
   by intros; exact eq_ld rfl rfl,
   by intros; exact eq_cv rfl (Nat.le_of_ble_eq_true rfl) rfl rfl rfl (Nat.le_of_ble_eq_true rfl),
   by intros; exact eq_if0 rfl,
   by intros; exact eq_ld rfl rfl,
   by intros; exact eq_gr rfl,
   by intros; exact eq_gr rfl,
   by intros; exact eq_ld rfl rfl,
   by intros; exact eq_iald rfl,
   by intros; exact eq_go rfl,
   by intros; exact eq_push rfl,
   by intros; exact eq_ret rfl⟩
theorem rw_X11_may :
  (∀ (d : Nat) (a0 a1 : Int) (S h : mx_H) (n : Int), mx_M d 116 [(2, a0), (0, a1)] S h n = mx_ex d 116 0 [some (2, a0), some (0, a1)] [] S h n) ∧
  (∀ (d : Nat) (x : Int) (l0 : Option mx_V) (S h : mx_H) (n : Int), mx_ex d 116 0 [l0, some (0, x)] [] S h n = mx_ex d 116 1 [l0, some (0, x)] [(0, x)] S h n) ∧
  (∀ (d : Nat) (x0 : Int) (l0 l1 : Option mx_V) (S h : mx_H) (n : Int), mx_ex (d + 1) 116 1 [l0, l1] [(0, x0)] S h n = mx_rt (mx_M d 148 [(0, x0)] S h n) (d + 1) 116 4 [l0, l1] []) ∧
  (∀ (d : Nat) (a : Int) (l0 l1 : Option mx_V) (S h : mx_H) (n : Int), mx_ex d 116 4 [l0, l1] [(0, a)] S h n = mx_br (a = 0) d 116 18 7 [l0, l1] [] S h n) ∧
  (∀ (d : Nat) (x : Int) (l1 : Option mx_V) (S h : mx_H) (n : Int), mx_ex d 116 7 [some (2, x), l1] [] S h n = mx_ex d 116 8 [some (2, x), l1] [(2, x)] S h n) ∧
  (∀ (d : Nat) (a : Int) (l0 l1 : Option mx_V) (S h : mx_H) (n : Int), mx_ex d 116 8 [l0, l1] [(2, a)] S h n = mx_gd (7 ≤ S a (-2) ∧ S a (-2) ≤ 7) d 116 11 [l0, l1] [(2, S a 2)] S h n) ∧
  (∀ (d : Nat) (x : Int) (l0 : Option mx_V) (v0 : mx_V) (S h : mx_H) (n : Int), mx_ex d 116 11 [l0, some (0, x)] [v0] S h n = mx_ex d 116 12 [l0, some (0, x)] [(0, x), v0] S h n) ∧
  (∀ (d : Nat) (x0 a : Int) (l0 l1 : Option mx_V) (S h : mx_H) (n : Int), mx_ex (d + 1) 116 12 [l0, l1] [(0, x0), (2, a)] S h n = mx_cl (S a (-2) = 9) d 14 [(2, a), (0, x0)] 116 15 [l0, l1] [] S h n) ∧
  (∀ (d : Nat) (l0 l1 : Option mx_V) (v0 : mx_V) (S h : mx_H) (n : Int), mx_ex d 116 15 [l0, l1] [v0] S h n = mx_ex d 116 19 [l0, l1] [v0] S h n) ∧
  (∀ (d : Nat) (l0 l1 : Option mx_V) (S h : mx_H) (n : Int), mx_ex d 116 18 [l0, l1] [] S h n = mx_ex d 116 19 [l0, l1] [(0, (-1))] S h n) ∧
  (∀ (d : Nat) (x : Int) (l0 l1 : Option mx_V) (S h : mx_H) (n : Int), mx_ex d 116 19 [l0, l1] [(0, x)] S h n = some (some (0, x), S, h, n)) :=
  ⟨by intros; exact rfl,
   by intros; exact eq_ld rfl rfl,
   by intros; exact eq_cs rfl (Nat.le_of_ble_eq_true rfl) rfl rfl rfl (Nat.le_of_ble_eq_true rfl),
   by intros; exact eq_if0 rfl,
   by intros; exact eq_ld rfl rfl,
   by intros; exact eq_gr rfl,
   by intros; exact eq_ld rfl rfl,
   by intros; exact eq_cv rfl (Nat.le_of_ble_eq_true rfl) rfl rfl rfl (Nat.le_of_ble_eq_true rfl),
   by intros; exact eq_go rfl,
   by intros; exact eq_push rfl,
   by intros; exact eq_ret rfl⟩
theorem rw_X11_sure :
  (∀ (d : Nat) (a0 a1 : Int) (S h : mx_H) (n : Int), mx_M d 117 [(2, a0), (0, a1)] S h n = mx_ex d 117 0 [some (2, a0), some (0, a1), none] [] S h n) ∧
  (∀ (d : Nat) (x : Int) (l0 l2 : Option mx_V) (S h : mx_H) (n : Int), mx_ex d 117 0 [l0, some (0, x), l2] [] S h n = mx_ex d 117 1 [l0, some (0, x), l2] [(0, x)] S h n) ∧
  (∀ (d : Nat) (x0 : Int) (l0 l1 l2 : Option mx_V) (S h : mx_H) (n : Int), mx_ex (d + 1) 117 1 [l0, l1, l2] [(0, x0)] S h n = mx_rt (mx_M d 148 [(0, x0)] S h n) (d + 1) 117 4 [l0, l1, l2] []) ∧
  (∀ (d : Nat) (a : Int) (l0 l1 l2 : Option mx_V) (S h : mx_H) (n : Int), mx_ex d 117 4 [l0, l1, l2] [(0, a)] S h n = mx_br (a = 0) d 117 7 9 [l0, l1, l2] [] S h n) ∧
  (∀ (d : Nat) (l0 l1 l2 : Option mx_V) (S h : mx_H) (n : Int), mx_ex d 117 7 [l0, l1, l2] [] S h n = mx_ex d 117 8 [l0, l1, l2] [(0, (-1))] S h n) ∧
  (∀ (d : Nat) (x : Int) (l0 l1 l2 : Option mx_V) (S h : mx_H) (n : Int), mx_ex d 117 8 [l0, l1, l2] [(0, x)] S h n = some (some (0, x), S, h, n)) ∧
  (∀ (d : Nat) (x : Int) (l1 l2 : Option mx_V) (S h : mx_H) (n : Int), mx_ex d 117 9 [some (2, x), l1, l2] [] S h n = mx_ex d 117 10 [some (2, x), l1, l2] [(2, x)] S h n) ∧
  (∀ (d : Nat) (a : Int) (l0 l1 l2 : Option mx_V) (S h : mx_H) (n : Int), mx_ex d 117 10 [l0, l1, l2] [(2, a)] S h n = mx_gd (7 ≤ S a (-2) ∧ S a (-2) ≤ 7) d 117 13 [l0, l1, l2] [(2, S a 2)] S h n) ∧
  (∀ (d : Nat) (x : Int) (l0 l2 : Option mx_V) (v0 : mx_V) (S h : mx_H) (n : Int), mx_ex d 117 13 [l0, some (0, x), l2] [v0] S h n = mx_ex d 117 14 [l0, some (0, x), l2] [(0, x), v0] S h n) ∧
  (∀ (d : Nat) (x0 a : Int) (l0 l1 l2 : Option mx_V) (S h : mx_H) (n : Int), mx_ex (d + 1) 117 14 [l0, l1, l2] [(0, x0), (2, a)] S h n = mx_cl (S a (-2) = 9) d 14 [(2, a), (0, x0)] 117 17 [l0, l1, l2] [] S h n) ∧
  (∀ (d : Nat) (x : Int) (l0 l1 l2 : Option mx_V) (S h : mx_H) (n : Int), mx_ex d 117 17 [l0, l1, l2] [(0, x)] S h n = mx_ex d 117 18 [l0, mx_nl l1, some (0, x)] [] S h n) ∧
  (∀ (d : Nat) (x : Int) (l0 l1 : Option mx_V) (S h : mx_H) (n : Int), mx_ex d 117 18 [l0, l1, some (0, x)] [] S h n = mx_ex d 117 19 [l0, l1, some (0, x)] [(0, x)] S h n) ∧
  (∀ (d : Nat) (x0 : Int) (l0 l1 l2 : Option mx_V) (S h : mx_H) (n : Int), mx_ex (d + 1) 117 19 [l0, l1, l2] [(0, x0)] S h n = mx_rt (mx_M d 250 [(0, x0)] S h n) (d + 1) 117 22 [l0, l1, l2] []) ∧
  (∀ (d : Nat) (l0 l1 l2 : Option mx_V) (v0 : mx_V) (S h : mx_H) (n : Int), mx_ex d 117 22 [l0, l1, l2] [v0] S h n = mx_ex d 117 23 [l0, l1, l2] [(0, 1), v0] S h n) ∧
  (∀ (d : Nat) (b a : Int) (l0 l1 l2 : Option mx_V) (S h : mx_H) (n : Int), mx_ex d 117 23 [l0, l1, l2] [(0, b), (0, a)] S h n = mx_br (a = b) d 117 26 34 [l0, l1, l2] [] S h n) ∧
  (∀ (d : Nat) (x : Int) (l0 l1 : Option mx_V) (S h : mx_H) (n : Int), mx_ex d 117 26 [l0, l1, some (0, x)] [] S h n = mx_ex d 117 27 [l0, l1, some (0, x)] [(0, x)] S h n) ∧
  (∀ (d : Nat) (l0 l1 l2 : Option mx_V) (v0 : mx_V) (S h : mx_H) (n : Int), mx_ex d 117 27 [l0, l1, l2] [v0] S h n = mx_ex d 117 28 [l0, l1, l2] [(0, 0), v0] S h n) ∧
  (∀ (d : Nat) (x0 x1 : Int) (l0 l1 l2 : Option mx_V) (S h : mx_H) (n : Int), mx_ex (d + 1) 117 28 [l0, l1, l2] [(0, x0), (0, x1)] S h n = mx_rt (mx_M d 153 [(0, x1), (0, x0)] S h n) (d + 1) 117 31 [l0, l1, l2] []) ∧
  (∀ (d : Nat) (l0 l1 l2 : Option mx_V) (v0 : mx_V) (S h : mx_H) (n : Int), mx_ex d 117 31 [l0, l1, l2] [v0] S h n = mx_ex d 117 36 [l0, l1, l2] [v0] S h n) ∧
  (∀ (d : Nat) (l0 l1 l2 : Option mx_V) (S h : mx_H) (n : Int), mx_ex d 117 34 [l0, l1, l2] [] S h n = mx_ex d 117 36 [l0, l1, l2] [(0, (-3))] S h n) ∧
  (∀ (d : Nat) (x : Int) (l0 l1 l2 : Option mx_V) (S h : mx_H) (n : Int), mx_ex d 117 36 [l0, l1, l2] [(0, x)] S h n = some (some (0, x), S, h, n)) :=
  ⟨by intros; exact rfl,
   by intros; exact eq_ld rfl rfl,
   by intros; exact eq_cs rfl (Nat.le_of_ble_eq_true rfl) rfl rfl rfl (Nat.le_of_ble_eq_true rfl),
   by intros; exact eq_if1 rfl,
   by intros; exact eq_push rfl,
   by intros; exact eq_ret rfl,
   by intros; exact eq_ld rfl rfl,
   by intros; exact eq_gr rfl,
   by intros; exact eq_ld rfl rfl,
   by intros; exact eq_cv rfl (Nat.le_of_ble_eq_true rfl) rfl rfl rfl (Nat.le_of_ble_eq_true rfl),
   by intros; exact eq_st rfl (by decide) (Nat.le_of_ble_eq_true rfl) rfl,
   by intros; exact eq_ld rfl rfl,
   by intros; exact eq_cs rfl (Nat.le_of_ble_eq_true rfl) rfl rfl rfl (Nat.le_of_ble_eq_true rfl),
   by intros; exact eq_push rfl,
   by intros; exact eq_ic1 rfl,
   by intros; exact eq_ld rfl rfl,
   by intros; exact eq_push rfl,
   by intros; exact eq_cs rfl (Nat.le_of_ble_eq_true rfl) rfl rfl rfl (Nat.le_of_ble_eq_true rfl),
   by intros; exact eq_go rfl,
   by intros; exact eq_push rfl,
   by intros; exact eq_ret rfl⟩
theorem rw_X11_holds :
  (∀ (d : Nat) (a0 a1 a2 a3 a4 : Int) (S h : mx_H) (n : Int), mx_M d 118 [(2, a0), (0, a1), (0, a2), (0, a3), (0, a4)] S h n = mx_ex d 118 0 [some (2, a0), some (0, a1), some (0, a2), some (0, a3), some (0, a4)] [] S h n) ∧
  (∀ (d : Nat) (x : Int) (l0 l2 l3 l4 : Option mx_V) (S h : mx_H) (n : Int), mx_ex d 118 0 [l0, some (0, x), l2, l3, l4] [] S h n = mx_ex d 118 1 [l0, some (0, x), l2, l3, l4] [(0, x)] S h n) ∧
  (∀ (d : Nat) (l0 l1 l2 l3 l4 : Option mx_V) (v0 : mx_V) (S h : mx_H) (n : Int), mx_ex d 118 1 [l0, l1, l2, l3, l4] [v0] S h n = mx_ex d 118 2 [l0, l1, l2, l3, l4] [(0, 0), v0] S h n) ∧
  (∀ (d : Nat) (x : Int) (l1 l2 l3 l4 : Option mx_V) (v0 v1 : mx_V) (S h : mx_H) (n : Int), mx_ex d 118 2 [some (2, x), l1, l2, l3, l4] [v0, v1] S h n = mx_ex d 118 3 [some (2, x), l1, l2, l3, l4] [(2, x), v0, v1] S h n) ∧
  (∀ (d : Nat) (a : Int) (l0 l1 l2 l3 l4 : Option mx_V) (v1 v2 : mx_V) (S h : mx_H) (n : Int), mx_ex d 118 3 [l0, l1, l2, l3, l4] [(2, a), v1, v2] S h n = mx_gd (7 ≤ S a (-2) ∧ S a (-2) ≤ 7) d 118 6 [l0, l1, l2, l3, l4] [(2, S a 3), v1, v2] S h n) ∧
  (∀ (d : Nat) (a : Int) (l0 l1 l2 l3 l4 : Option mx_V) (v1 v2 : mx_V) (S h : mx_H) (n : Int), mx_ex d 118 6 [l0, l1, l2, l3, l4] [(2, a), v1, v2] S h n = mx_gd (8 ≤ S a (-2) ∧ S a (-2) ≤ 8) d 118 9 [l0, l1, l2, l3, l4] [(0, h a 4), v1, v2] S h n) ∧
  (∀ (d : Nat) (l0 l1 l2 l3 l4 : Option mx_V) (v0 v1 v2 : mx_V) (S h : mx_H) (n : Int), mx_ex d 118 9 [l0, l1, l2, l3, l4] [v0, v1, v2] S h n = mx_ex d 118 10 [l0, l1, l2, l3, l4] [(0, 1), v0, v1, v2] S h n) ∧
  (∀ (d : Nat) (b a : Int) (l0 l1 l2 l3 l4 : Option mx_V) (v2 v3 : mx_V) (S h : mx_H) (n : Int), mx_ex d 118 10 [l0, l1, l2, l3, l4] [(0, b), (0, a), v2, v3] S h n = mx_ex d 118 11 [l0, l1, l2, l3, l4] [(0, mx_w (a - b)), v2, v3] S h n) ∧
  (∀ (d : Nat) (x0 x1 x2 : Int) (l0 l1 l2 l3 l4 : Option mx_V) (S h : mx_H) (n : Int), mx_ex (d + 1) 118 11 [l0, l1, l2, l3, l4] [(0, x0), (0, x1), (0, x2)] S h n = mx_rt (mx_M d 147 [(0, x2), (0, x1), (0, x0)] S h n) (d + 1) 118 14 [l0, l1, l2, l3, l4] []) ∧
  (∀ (d : Nat) (a : Int) (l0 l1 l2 l3 l4 : Option mx_V) (S h : mx_H) (n : Int), mx_ex d 118 14 [l0, l1, l2, l3, l4] [(0, a)] S h n = mx_br (a = 0) d 118 39 17 [l0, l1, l2, l3, l4] [] S h n) ∧
  (∀ (d : Nat) (x : Int) (l0 l1 l3 l4 : Option mx_V) (S h : mx_H) (n : Int), mx_ex d 118 17 [l0, l1, some (0, x), l3, l4] [] S h n = mx_ex d 118 18 [l0, l1, some (0, x), l3, l4] [(0, x)] S h n) ∧
  (∀ (d : Nat) (x0 : Int) (l0 l1 l2 l3 l4 : Option mx_V) (S h : mx_H) (n : Int), mx_ex (d + 1) 118 18 [l0, l1, l2, l3, l4] [(0, x0)] S h n = mx_rt (mx_M d 149 [(0, x0)] S h n) (d + 1) 118 21 [l0, l1, l2, l3, l4] []) ∧
  (∀ (d : Nat) (a : Int) (l0 l1 l2 l3 l4 : Option mx_V) (S h : mx_H) (n : Int), mx_ex d 118 21 [l0, l1, l2, l3, l4] [(0, a)] S h n = mx_br (a = 0) d 118 39 24 [l0, l1, l2, l3, l4] [] S h n) ∧
  (∀ (d : Nat) (x : Int) (l0 l1 l2 l4 : Option mx_V) (S h : mx_H) (n : Int), mx_ex d 118 24 [l0, l1, l2, some (0, x), l4] [] S h n = mx_ex d 118 25 [l0, l1, l2, some (0, x), l4] [(0, x)] S h n) ∧
  (∀ (d : Nat) (x0 : Int) (l0 l1 l2 l3 l4 : Option mx_V) (S h : mx_H) (n : Int), mx_ex (d + 1) 118 25 [l0, l1, l2, l3, l4] [(0, x0)] S h n = mx_rt (mx_M d 149 [(0, x0)] S h n) (d + 1) 118 28 [l0, l1, l2, l3, l4] []) ∧
  (∀ (d : Nat) (a : Int) (l0 l1 l2 l3 l4 : Option mx_V) (S h : mx_H) (n : Int), mx_ex d 118 28 [l0, l1, l2, l3, l4] [(0, a)] S h n = mx_br (a = 0) d 118 39 31 [l0, l1, l2, l3, l4] [] S h n) ∧
  (∀ (d : Nat) (x : Int) (l0 l1 l2 l3 : Option mx_V) (S h : mx_H) (n : Int), mx_ex d 118 31 [l0, l1, l2, l3, some (0, x)] [] S h n = mx_ex d 118 33 [l0, l1, l2, l3, some (0, x)] [(0, x)] S h n) ∧
  (∀ (d : Nat) (x0 : Int) (l0 l1 l2 l3 l4 : Option mx_V) (S h : mx_H) (n : Int), mx_ex (d + 1) 118 33 [l0, l1, l2, l3, l4] [(0, x0)] S h n = mx_rt (mx_M d 149 [(0, x0)] S h n) (d + 1) 118 36 [l0, l1, l2, l3, l4] []) ∧
  (∀ (d : Nat) (a : Int) (l0 l1 l2 l3 l4 : Option mx_V) (S h : mx_H) (n : Int), mx_ex d 118 36 [l0, l1, l2, l3, l4] [(0, a)] S h n = mx_br (a = 0) d 118 39 41 [l0, l1, l2, l3, l4] [] S h n) ∧
  (∀ (d : Nat) (l0 l1 l2 l3 l4 : Option mx_V) (S h : mx_H) (n : Int), mx_ex d 118 39 [l0, l1, l2, l3, l4] [] S h n = mx_ex d 118 40 [l0, l1, l2, l3, l4] [(0, (-1))] S h n) ∧
  (∀ (d : Nat) (x : Int) (l0 l1 l2 l3 l4 : Option mx_V) (S h : mx_H) (n : Int), mx_ex d 118 40 [l0, l1, l2, l3, l4] [(0, x)] S h n = some (some (0, x), S, h, n)) ∧
  (∀ (d : Nat) (x : Int) (l1 l2 l3 l4 : Option mx_V) (S h : mx_H) (n : Int), mx_ex d 118 41 [some (2, x), l1, l2, l3, l4] [] S h n = mx_ex d 118 42 [some (2, x), l1, l2, l3, l4] [(2, x)] S h n) ∧
  (∀ (d : Nat) (a : Int) (l0 l1 l2 l3 l4 : Option mx_V) (S h : mx_H) (n : Int), mx_ex d 118 42 [l0, l1, l2, l3, l4] [(2, a)] S h n = mx_gd (7 ≤ S a (-2) ∧ S a (-2) ≤ 7) d 118 45 [l0, l1, l2, l3, l4] [(2, S a 11)] S h n) ∧
  (∀ (d : Nat) (l0 l1 l2 l3 l4 : Option mx_V) (v0 : mx_V) (S h : mx_H) (n : Int), mx_ex d 118 45 [l0, l1, l2, l3, l4] [v0] S h n = mx_ex d 118 46 [l0, l1, l2, l3, l4] [(0, 0), v0] S h n) ∧
  (∀ (d : Nat) (x : Int) (l0 l1 l3 l4 : Option mx_V) (v0 v1 : mx_V) (S h : mx_H) (n : Int), mx_ex d 118 46 [l0, l1, some (0, x), l3, l4] [v0, v1] S h n = mx_ex d 118 47 [l0, l1, some (0, x), l3, l4] [(0, x), v0, v1] S h n) ∧
  (∀ (d : Nat) (v i a : Int) (l0 l1 l2 l3 l4 : Option mx_V) (S h : mx_H) (n : Int), mx_ex d 118 47 [l0, l1, l2, l3, l4] [(0, v), (0, i), (2, a)] S h n = mx_gd (S a (-2) = 20 ∧ 0 ≤ i ∧ i < S a (-1)) d 118 48 [l0, l1, l2, l3, l4] [] S (mx_u h a i v) n) ∧
  (∀ (d : Nat) (x : Int) (l1 l2 l3 l4 : Option mx_V) (S h : mx_H) (n : Int), mx_ex d 118 48 [some (2, x), l1, l2, l3, l4] [] S h n = mx_ex d 118 49 [some (2, x), l1, l2, l3, l4] [(2, x)] S h n) ∧
  (∀ (d : Nat) (a : Int) (l0 l1 l2 l3 l4 : Option mx_V) (S h : mx_H) (n : Int), mx_ex d 118 49 [l0, l1, l2, l3, l4] [(2, a)] S h n = mx_gd (7 ≤ S a (-2) ∧ S a (-2) ≤ 7) d 118 52 [l0, l1, l2, l3, l4] [(2, S a 11)] S h n) ∧
  (∀ (d : Nat) (l0 l1 l2 l3 l4 : Option mx_V) (v0 : mx_V) (S h : mx_H) (n : Int), mx_ex d 118 52 [l0, l1, l2, l3, l4] [v0] S h n = mx_ex d 118 53 [l0, l1, l2, l3, l4] [(0, 1), v0] S h n) ∧
  (∀ (d : Nat) (x : Int) (l0 l1 l2 l4 : Option mx_V) (v0 v1 : mx_V) (S h : mx_H) (n : Int), mx_ex d 118 53 [l0, l1, l2, some (0, x), l4] [v0, v1] S h n = mx_ex d 118 54 [l0, l1, l2, some (0, x), l4] [(0, x), v0, v1] S h n) ∧
  (∀ (d : Nat) (v i a : Int) (l0 l1 l2 l3 l4 : Option mx_V) (S h : mx_H) (n : Int), mx_ex d 118 54 [l0, l1, l2, l3, l4] [(0, v), (0, i), (2, a)] S h n = mx_gd (S a (-2) = 20 ∧ 0 ≤ i ∧ i < S a (-1)) d 118 55 [l0, l1, l2, l3, l4] [] S (mx_u h a i v) n) ∧
  (∀ (d : Nat) (x : Int) (l1 l2 l3 l4 : Option mx_V) (S h : mx_H) (n : Int), mx_ex d 118 55 [some (2, x), l1, l2, l3, l4] [] S h n = mx_ex d 118 56 [some (2, x), l1, l2, l3, l4] [(2, x)] S h n) ∧
  (∀ (d : Nat) (a : Int) (l0 l1 l2 l3 l4 : Option mx_V) (S h : mx_H) (n : Int), mx_ex d 118 56 [l0, l1, l2, l3, l4] [(2, a)] S h n = mx_gd (7 ≤ S a (-2) ∧ S a (-2) ≤ 7) d 118 59 [l0, l1, l2, l3, l4] [(2, S a 11)] S h n) ∧
  (∀ (d : Nat) (l0 l1 l2 l3 l4 : Option mx_V) (v0 : mx_V) (S h : mx_H) (n : Int), mx_ex d 118 59 [l0, l1, l2, l3, l4] [v0] S h n = mx_ex d 118 60 [l0, l1, l2, l3, l4] [(0, 2), v0] S h n) ∧
  (∀ (d : Nat) (x : Int) (l0 l1 l2 l3 : Option mx_V) (v0 v1 : mx_V) (S h : mx_H) (n : Int), mx_ex d 118 60 [l0, l1, l2, l3, some (0, x)] [v0, v1] S h n = mx_ex d 118 62 [l0, l1, l2, l3, some (0, x)] [(0, x), v0, v1] S h n) ∧
  (∀ (d : Nat) (v i a : Int) (l0 l1 l2 l3 l4 : Option mx_V) (S h : mx_H) (n : Int), mx_ex d 118 62 [l0, l1, l2, l3, l4] [(0, v), (0, i), (2, a)] S h n = mx_gd (S a (-2) = 20 ∧ 0 ≤ i ∧ i < S a (-1)) d 118 63 [l0, l1, l2, l3, l4] [] S (mx_u h a i v) n) ∧
  (∀ (d : Nat) (x : Int) (l1 l2 l3 l4 : Option mx_V) (S h : mx_H) (n : Int), mx_ex d 118 63 [some (2, x), l1, l2, l3, l4] [] S h n = mx_ex d 118 64 [some (2, x), l1, l2, l3, l4] [(2, x)] S h n) ∧
  (∀ (d : Nat) (a : Int) (l0 l1 l2 l3 l4 : Option mx_V) (S h : mx_H) (n : Int), mx_ex d 118 64 [l0, l1, l2, l3, l4] [(2, a)] S h n = mx_gd (7 ≤ S a (-2) ∧ S a (-2) ≤ 7) d 118 67 [l0, l1, l2, l3, l4] [(2, S a 3)] S h n) ∧
  (∀ (d : Nat) (x : Int) (l0 l2 l3 l4 : Option mx_V) (v0 : mx_V) (S h : mx_H) (n : Int), mx_ex d 118 67 [l0, some (0, x), l2, l3, l4] [v0] S h n = mx_ex d 118 68 [l0, some (0, x), l2, l3, l4] [(0, x), v0] S h n) ∧
  (∀ (d : Nat) (x : Int) (l1 l2 l3 l4 : Option mx_V) (v0 v1 : mx_V) (S h : mx_H) (n : Int), mx_ex d 118 68 [some (2, x), l1, l2, l3, l4] [v0, v1] S h n = mx_ex d 118 69 [some (2, x), l1, l2, l3, l4] [(2, x), v0, v1] S h n) ∧
  (∀ (d : Nat) (a : Int) (l0 l1 l2 l3 l4 : Option mx_V) (v1 v2 : mx_V) (S h : mx_H) (n : Int), mx_ex d 118 69 [l0, l1, l2, l3, l4] [(2, a), v1, v2] S h n = mx_gd (7 ≤ S a (-2) ∧ S a (-2) ≤ 7) d 118 72 [l0, l1, l2, l3, l4] [(2, S a 11), v1, v2] S h n) ∧
  (∀ (d : Nat) (x0 x1 a : Int) (l0 l1 l2 l3 l4 : Option mx_V) (S h : mx_H) (n : Int), mx_ex (d + 1) 118 72 [l0, l1, l2, l3, l4] [(2, x0), (0, x1), (2, a)] S h n = mx_cl (S a (-2) = 8) d 96 [(2, a), (0, x1), (2, x0)] 118 75 [l0, l1, l2, l3, l4] [] S h n) ∧
  (∀ (d : Nat) (a : Int) (l0 l1 l2 l3 l4 : Option mx_V) (S h : mx_H) (n : Int), mx_ex d 118 75 [l0, l1, l2, l3, l4] [(0, a)] S h n = mx_br (a = 0) d 118 82 78 [l0, l1, l2, l3, l4] [] S h n) ∧
  (∀ (d : Nat) (l0 l1 l2 l3 l4 : Option mx_V) (S h : mx_H) (n : Int), mx_ex d 118 78 [l0, l1, l2, l3, l4] [] S h n = mx_ex d 118 79 [l0, l1, l2, l3, l4] [(0, 1)] S h n) ∧
  (∀ (d : Nat) (l0 l1 l2 l3 l4 : Option mx_V) (v0 : mx_V) (S h : mx_H) (n : Int), mx_ex d 118 79 [l0, l1, l2, l3, l4] [v0] S h n = mx_ex d 118 83 [l0, l1, l2, l3, l4] [v0] S h n) ∧
  (∀ (d : Nat) (l0 l1 l2 l3 l4 : Option mx_V) (S h : mx_H) (n : Int), mx_ex d 118 82 [l0, l1, l2, l3, l4] [] S h n = mx_ex d 118 83 [l0, l1, l2, l3, l4] [(0, 0)] S h n) ∧
  (∀ (d : Nat) (x : Int) (l0 l1 l2 l3 l4 : Option mx_V) (S h : mx_H) (n : Int), mx_ex d 118 83 [l0, l1, l2, l3, l4] [(0, x)] S h n = some (some (0, x), S, h, n)) :=
  ⟨by intros; exact rfl,
   by intros; exact eq_ld rfl rfl,
   by intros; exact eq_push rfl,
   by intros; exact eq_ld rfl rfl,
   by intros; exact eq_gr rfl,
   by intros; exact eq_gi rfl,
   by intros; exact eq_push rfl,
   by intros; exact eq_i2 (o := mx_sub) rfl,
   by intros; exact eq_cs rfl (Nat.le_of_ble_eq_true rfl) rfl rfl rfl (Nat.le_of_ble_eq_true rfl),
   by intros; exact eq_if0 rfl,
   by intros; exact eq_ld rfl rfl,
   by intros; exact eq_cs rfl (Nat.le_of_ble_eq_true rfl) rfl rfl rfl (Nat.le_of_ble_eq_true rfl),
   by intros; exact eq_if0 rfl,
   by intros; exact eq_ld rfl rfl,
   by intros; exact eq_cs rfl (Nat.le_of_ble_eq_true rfl) rfl rfl rfl (Nat.le_of_ble_eq_true rfl),
   by intros; exact eq_if0 rfl,
   by intros; exact eq_ld rfl rfl,
   by intros; exact eq_cs rfl (Nat.le_of_ble_eq_true rfl) rfl rfl rfl (Nat.le_of_ble_eq_true rfl),
   by intros; exact eq_if1 rfl,
   by intros; exact eq_push rfl,
   by intros; exact eq_ret rfl,
   by intros; exact eq_ld rfl rfl,
   by intros; exact eq_gr rfl,
   by intros; exact eq_push rfl,
   by intros; exact eq_ld rfl rfl,
   by intros; exact eq_iast rfl,
   by intros; exact eq_ld rfl rfl,
   by intros; exact eq_gr rfl,
   by intros; exact eq_push rfl,
   by intros; exact eq_ld rfl rfl,
   by intros; exact eq_iast rfl,
   by intros; exact eq_ld rfl rfl,
   by intros; exact eq_gr rfl,
   by intros; exact eq_push rfl,
   by intros; exact eq_ld rfl rfl,
   by intros; exact eq_iast rfl,
   by intros; exact eq_ld rfl rfl,
   by intros; exact eq_gr rfl,
   by intros; exact eq_ld rfl rfl,
   by intros; exact eq_ld rfl rfl,
   by intros; exact eq_gr rfl,
   by intros; exact eq_cv rfl (Nat.le_of_ble_eq_true rfl) rfl rfl rfl (Nat.le_of_ble_eq_true rfl),
   by intros; exact eq_if0 rfl,
   by intros; exact eq_push rfl,
   by intros; exact eq_go rfl,
   by intros; exact eq_push rfl,
   by intros; exact eq_ret rfl⟩
theorem rw_X11_proof :
  (∀ (d : Nat) (a0 : Int) (S h : mx_H) (n : Int), mx_M d 119 [(2, a0)] S h n = mx_ex d 119 0 [some (2, a0)] [] S h n) ∧
  (∀ (d : Nat) (x : Int) (S h : mx_H) (n : Int), mx_ex d 119 0 [some (2, x)] [] S h n = mx_ex d 119 1 [some (2, x)] [(2, x)] S h n) ∧
  (∀ (d : Nat) (a : Int) (l0 : Option mx_V) (S h : mx_H) (n : Int), mx_ex d 119 1 [l0] [(2, a)] S h n = mx_gd (7 ≤ S a (-2) ∧ S a (-2) ≤ 7) d 119 4 [l0] [(2, S a 2)] S h n) ∧
  (∀ (d : Nat) (a : Int) (l0 : Option mx_V) (S h : mx_H) (n : Int), mx_ex (d + 1) 119 4 [l0] [(2, a)] S h n = mx_cl (S a (-2) = 9) d 13 [(2, a)] 119 7 [l0] [] S h n) ∧
  (∀ (d : Nat) (a : Int) (l0 : Option mx_V) (S h : mx_H) (n : Int), mx_ex d 119 7 [l0] [(0, a)] S h n = mx_br (0 < a) d 119 10 15 [l0] [] S h n) ∧
  (∀ (d : Nat) (l0 : Option mx_V) (S h : mx_H) (n : Int), mx_ex d 119 10 [l0] [] S h n = mx_ex d 119 12 [l0] [(0, (-3))] S h n) ∧
  (∀ (d : Nat) (l0 : Option mx_V) (v0 : mx_V) (S h : mx_H) (n : Int), mx_ex d 119 12 [l0] [v0] S h n = mx_ex d 119 22 [l0] [v0] S h n) ∧
  (∀ (d : Nat) (x : Int) (S h : mx_H) (n : Int), mx_ex d 119 15 [some (2, x)] [] S h n = mx_ex d 119 16 [some (2, x)] [(2, x)] S h n) ∧
  (∀ (d : Nat) (a : Int) (l0 : Option mx_V) (S h : mx_H) (n : Int), mx_ex d 119 16 [l0] [(2, a)] S h n = mx_gd (7 ≤ S a (-2) ∧ S a (-2) ≤ 7) d 119 19 [l0] [(2, S a 2)] S h n) ∧
  (∀ (d : Nat) (a : Int) (l0 : Option mx_V) (S h : mx_H) (n : Int), mx_ex (d + 1) 119 19 [l0] [(2, a)] S h n = mx_cl (S a (-2) = 9) d 16 [(2, a)] 119 22 [l0] [] S h n) ∧
  (∀ (d : Nat) (x : Int) (l0 : Option mx_V) (S h : mx_H) (n : Int), mx_ex d 119 22 [l0] [(0, x)] S h n = some (some (0, x), S, h, n)) :=
  ⟨by intros; exact rfl,
   by intros; exact eq_ld rfl rfl,
   by intros; exact eq_gr rfl,
   by intros; exact eq_cv rfl (Nat.le_of_ble_eq_true rfl) rfl rfl rfl (Nat.le_of_ble_eq_true rfl),
   by intros; exact eq_if5 rfl,
   by intros; exact eq_push rfl,
   by intros; exact eq_go rfl,
   by intros; exact eq_ld rfl rfl,
   by intros; exact eq_gr rfl,
   by intros; exact eq_cv rfl (Nat.le_of_ble_eq_true rfl) rfl rfl rfl (Nat.le_of_ble_eq_true rfl),
   by intros; exact eq_ret rfl⟩
theorem rw_X11_mended :
  (∀ (d : Nat) (a0 a1 : Int) (S h : mx_H) (n : Int), mx_M d 120 [(2, a0), (0, a1)] S h n = mx_ex d 120 0 [some (2, a0), some (0, a1)] [] S h n) ∧
  (∀ (d : Nat) (x : Int) (l0 : Option mx_V) (S h : mx_H) (n : Int), mx_ex d 120 0 [l0, some (0, x)] [] S h n = mx_ex d 120 1 [l0, some (0, x)] [(0, x)] S h n) ∧
  (∀ (d : Nat) (l0 l1 : Option mx_V) (v0 : mx_V) (S h : mx_H) (n : Int), mx_ex d 120 1 [l0, l1] [v0] S h n = mx_ex d 120 2 [l0, l1] [(0, 0), v0] S h n) ∧
  (∀ (d : Nat) (l0 l1 : Option mx_V) (v0 v1 : mx_V) (S h : mx_H) (n : Int), mx_ex d 120 2 [l0, l1] [v0, v1] S h n = mx_ex d 120 3 [l0, l1] [(0, 2), v0, v1] S h n) ∧
  (∀ (d : Nat) (x0 x1 x2 : Int) (l0 l1 : Option mx_V) (S h : mx_H) (n : Int), mx_ex (d + 1) 120 3 [l0, l1] [(0, x0), (0, x1), (0, x2)] S h n = mx_rt (mx_M d 147 [(0, x2), (0, x1), (0, x0)] S h n) (d + 1) 120 6 [l0, l1] []) ∧
  (∀ (d : Nat) (a : Int) (l0 l1 : Option mx_V) (S h : mx_H) (n : Int), mx_ex d 120 6 [l0, l1] [(0, a)] S h n = mx_br (a = 0) d 120 9 11 [l0, l1] [] S h n) ∧
  (∀ (d : Nat) (l0 l1 : Option mx_V) (S h : mx_H) (n : Int), mx_ex d 120 9 [l0, l1] [] S h n = mx_ex d 120 10 [l0, l1] [(0, (-1))] S h n) ∧
  (∀ (d : Nat) (x : Int) (l0 l1 : Option mx_V) (S h : mx_H) (n : Int), mx_ex d 120 10 [l0, l1] [(0, x)] S h n = some (some (0, x), S, h, n)) ∧
  (∀ (d : Nat) (x : Int) (l1 : Option mx_V) (S h : mx_H) (n : Int), mx_ex d 120 11 [some (2, x), l1] [] S h n = mx_ex d 120 12 [some (2, x), l1] [(2, x)] S h n) ∧
  (∀ (d : Nat) (a : Int) (l0 l1 : Option mx_V) (S h : mx_H) (n : Int), mx_ex d 120 12 [l0, l1] [(2, a)] S h n = mx_gd (7 ≤ S a (-2) ∧ S a (-2) ≤ 7) d 120 15 [l0, l1] [(2, S a 2)] S h n) ∧
  (∀ (d : Nat) (a : Int) (l0 l1 : Option mx_V) (S h : mx_H) (n : Int), mx_ex (d + 1) 120 15 [l0, l1] [(2, a)] S h n = mx_cl (S a (-2) = 9) d 13 [(2, a)] 120 18 [l0, l1] [] S h n) ∧
  (∀ (d : Nat) (a : Int) (l0 l1 : Option mx_V) (S h : mx_H) (n : Int), mx_ex d 120 18 [l0, l1] [(0, a)] S h n = mx_br (0 < a) d 120 21 24 [l0, l1] [] S h n) ∧
  (∀ (d : Nat) (l0 l1 : Option mx_V) (S h : mx_H) (n : Int), mx_ex d 120 21 [l0, l1] [] S h n = mx_ex d 120 23 [l0, l1] [(0, (-4))] S h n) ∧
  (∀ (d : Nat) (x : Int) (l0 l1 : Option mx_V) (S h : mx_H) (n : Int), mx_ex d 120 23 [l0, l1] [(0, x)] S h n = some (some (0, x), S, h, n)) ∧
  (∀ (d : Nat) (x : Int) (l1 : Option mx_V) (S h : mx_H) (n : Int), mx_ex d 120 24 [some (2, x), l1] [] S h n = mx_ex d 120 25 [some (2, x), l1] [(2, x)] S h n) ∧
  (∀ (d : Nat) (a : Int) (l0 l1 : Option mx_V) (S h : mx_H) (n : Int), mx_ex d 120 25 [l0, l1] [(2, a)] S h n = mx_gd (7 ≤ S a (-2) ∧ S a (-2) ≤ 7) d 120 28 [l0, l1] [(2, S a 2)] S h n) ∧
  (∀ (d : Nat) (a : Int) (l0 l1 : Option mx_V) (S h : mx_H) (n : Int), mx_ex (d + 1) 120 28 [l0, l1] [(2, a)] S h n = mx_cl (S a (-2) = 9) d 18 [(2, a)] 120 31 [l0, l1] [] S h n) ∧
  (∀ (d : Nat) (a : Int) (l0 l1 : Option mx_V) (S h : mx_H) (n : Int), mx_ex d 120 31 [l0, l1] [(0, a)] S h n = mx_br (a = 0) d 120 34 37 [l0, l1] [] S h n) ∧
  (∀ (d : Nat) (l0 l1 : Option mx_V) (S h : mx_H) (n : Int), mx_ex d 120 34 [l0, l1] [] S h n = mx_ex d 120 36 [l0, l1] [(0, (-3))] S h n) ∧
  (∀ (d : Nat) (x : Int) (l0 l1 : Option mx_V) (S h : mx_H) (n : Int), mx_ex d 120 36 [l0, l1] [(0, x)] S h n = some (some (0, x), S, h, n)) ∧
  (∀ (d : Nat) (x : Int) (l0 : Option mx_V) (S h : mx_H) (n : Int), mx_ex d 120 37 [l0, some (0, x)] [] S h n = mx_ex d 120 38 [l0, some (0, x)] [(0, x)] S h n) ∧
  (∀ (d : Nat) (a : Int) (l0 l1 : Option mx_V) (S h : mx_H) (n : Int), mx_ex d 120 38 [l0, l1] [(0, a)] S h n = mx_sw a [(0, 64), (1, 72)] d 120 80 [l0, l1] [] S h n) ∧
  (∀ (d : Nat) (x : Int) (l1 : Option mx_V) (S h : mx_H) (n : Int), mx_ex d 120 64 [some (2, x), l1] [] S h n = mx_ex d 120 65 [some (2, x), l1] [(2, x)] S h n) ∧
  (∀ (d : Nat) (a : Int) (l0 l1 : Option mx_V) (S h : mx_H) (n : Int), mx_ex d 120 65 [l0, l1] [(2, a)] S h n = mx_gd (7 ≤ S a (-2) ∧ S a (-2) ≤ 7) d 120 68 [l0, l1] [(2, S a 2)] S h n) ∧
  (∀ (d : Nat) (a : Int) (l0 l1 : Option mx_V) (S h : mx_H) (n : Int), mx_ex d 120 68 [l0, l1] [(2, a)] S h n = mx_gd (9 ≤ S a (-2) ∧ S a (-2) ≤ 9) d 120 71 [l0, l1] [(0, h a 2)] S h n) ∧
  (∀ (d : Nat) (x : Int) (l0 l1 : Option mx_V) (S h : mx_H) (n : Int), mx_ex d 120 71 [l0, l1] [(0, x)] S h n = some (some (0, x), S, h, n)) ∧
  (∀ (d : Nat) (x : Int) (l1 : Option mx_V) (S h : mx_H) (n : Int), mx_ex d 120 72 [some (2, x), l1] [] S h n = mx_ex d 120 73 [some (2, x), l1] [(2, x)] S h n) ∧
  (∀ (d : Nat) (a : Int) (l0 l1 : Option mx_V) (S h : mx_H) (n : Int), mx_ex d 120 73 [l0, l1] [(2, a)] S h n = mx_gd (7 ≤ S a (-2) ∧ S a (-2) ≤ 7) d 120 76 [l0, l1] [(2, S a 2)] S h n) ∧
  (∀ (d : Nat) (a : Int) (l0 l1 : Option mx_V) (S h : mx_H) (n : Int), mx_ex d 120 76 [l0, l1] [(2, a)] S h n = mx_gd (9 ≤ S a (-2) ∧ S a (-2) ≤ 9) d 120 79 [l0, l1] [(0, h a 3)] S h n) ∧
  (∀ (d : Nat) (x : Int) (l0 l1 : Option mx_V) (S h : mx_H) (n : Int), mx_ex d 120 79 [l0, l1] [(0, x)] S h n = some (some (0, x), S, h, n)) ∧
  (∀ (d : Nat) (x : Int) (l1 : Option mx_V) (S h : mx_H) (n : Int), mx_ex d 120 80 [some (2, x), l1] [] S h n = mx_ex d 120 81 [some (2, x), l1] [(2, x)] S h n) ∧
  (∀ (d : Nat) (a : Int) (l0 l1 : Option mx_V) (S h : mx_H) (n : Int), mx_ex d 120 81 [l0, l1] [(2, a)] S h n = mx_gd (7 ≤ S a (-2) ∧ S a (-2) ≤ 7) d 120 84 [l0, l1] [(2, S a 2)] S h n) ∧
  (∀ (d : Nat) (a : Int) (l0 l1 : Option mx_V) (S h : mx_H) (n : Int), mx_ex d 120 84 [l0, l1] [(2, a)] S h n = mx_gd (9 ≤ S a (-2) ∧ S a (-2) ≤ 9) d 120 87 [l0, l1] [(0, h a 4)] S h n) ∧
  (∀ (d : Nat) (x : Int) (l0 l1 : Option mx_V) (S h : mx_H) (n : Int), mx_ex d 120 87 [l0, l1] [(0, x)] S h n = some (some (0, x), S, h, n)) :=
  ⟨by intros; exact rfl,
   by intros; exact eq_ld rfl rfl,
   by intros; exact eq_push rfl,
   by intros; exact eq_push rfl,
   by intros; exact eq_cs rfl (Nat.le_of_ble_eq_true rfl) rfl rfl rfl (Nat.le_of_ble_eq_true rfl),
   by intros; exact eq_if1 rfl,
   by intros; exact eq_push rfl,
   by intros; exact eq_ret rfl,
   by intros; exact eq_ld rfl rfl,
   by intros; exact eq_gr rfl,
   by intros; exact eq_cv rfl (Nat.le_of_ble_eq_true rfl) rfl rfl rfl (Nat.le_of_ble_eq_true rfl),
   by intros; exact eq_if5 rfl,
   by intros; exact eq_push rfl,
   by intros; exact eq_ret rfl,
   by intros; exact eq_ld rfl rfl,
   by intros; exact eq_gr rfl,
   by intros; exact eq_cv rfl (Nat.le_of_ble_eq_true rfl) rfl rfl rfl (Nat.le_of_ble_eq_true rfl),
   by intros; exact eq_if1 rfl,
   by intros; exact eq_push rfl,
   by intros; exact eq_ret rfl,
   by intros; exact eq_ld rfl rfl,
   by intros; exact eq_sw rfl,
   by intros; exact eq_ld rfl rfl,
   by intros; exact eq_gr rfl,
   by intros; exact eq_gi rfl,
   by intros; exact eq_ret rfl,
   by intros; exact eq_ld rfl rfl,
   by intros; exact eq_gr rfl,
   by intros; exact eq_gi rfl,
   by intros; exact eq_ret rfl,
   by intros; exact eq_ld rfl rfl,
   by intros; exact eq_gr rfl,
   by intros; exact eq_gi rfl,
   by intros; exact eq_ret rfl⟩
theorem rw_X11_which :
  (∀ (d : Nat) (a0 a1 : Int) (S h : mx_H) (n : Int), mx_M d 121 [(2, a0), (0, a1)] S h n = mx_ex d 121 0 [some (2, a0), some (0, a1)] [] S h n) ∧
  (∀ (d : Nat) (x : Int) (l1 : Option mx_V) (S h : mx_H) (n : Int), mx_ex d 121 0 [some (2, x), l1] [] S h n = mx_ex d 121 1 [some (2, x), l1] [(2, x)] S h n) ∧
  (∀ (d : Nat) (a : Int) (l0 l1 : Option mx_V) (S h : mx_H) (n : Int), mx_ex d 121 1 [l0, l1] [(2, a)] S h n = mx_gd (7 ≤ S a (-2) ∧ S a (-2) ≤ 7) d 121 4 [l0, l1] [(2, S a 3)] S h n) ∧
  (∀ (d : Nat) (x : Int) (l0 : Option mx_V) (v0 : mx_V) (S h : mx_H) (n : Int), mx_ex d 121 4 [l0, some (0, x)] [v0] S h n = mx_ex d 121 5 [l0, some (0, x)] [(0, x), v0] S h n) ∧
  (∀ (d : Nat) (x0 a : Int) (l0 l1 : Option mx_V) (S h : mx_H) (n : Int), mx_ex (d + 1) 121 5 [l0, l1] [(0, x0), (2, a)] S h n = mx_cl (S a (-2) = 8) d 91 [(2, a), (0, x0)] 121 8 [l0, l1] [] S h n) ∧
  (∀ (d : Nat) (a : Int) (l0 l1 : Option mx_V) (S h : mx_H) (n : Int), mx_ex d 121 8 [l0, l1] [(2, a)] S h n = mx_br (a = -1) d 121 11 15 [l0, l1] [] S h n) ∧
  (∀ (d : Nat) (l0 l1 : Option mx_V) (S h : mx_H) (n : Int), mx_ex d 121 11 [l0, l1] [] S h n = mx_ex d 121 12 [l0, l1] [(0, (-1))] S h n) ∧
  (∀ (d : Nat) (l0 l1 : Option mx_V) (v0 : mx_V) (S h : mx_H) (n : Int), mx_ex d 121 12 [l0, l1] [v0] S h n = mx_ex d 121 23 [l0, l1] [v0] S h n) ∧
  (∀ (d : Nat) (x : Int) (l1 : Option mx_V) (S h : mx_H) (n : Int), mx_ex d 121 15 [some (2, x), l1] [] S h n = mx_ex d 121 16 [some (2, x), l1] [(2, x)] S h n) ∧
  (∀ (d : Nat) (a : Int) (l0 l1 : Option mx_V) (S h : mx_H) (n : Int), mx_ex d 121 16 [l0, l1] [(2, a)] S h n = mx_gd (7 ≤ S a (-2) ∧ S a (-2) ≤ 7) d 121 19 [l0, l1] [(2, S a 2)] S h n) ∧
  (∀ (d : Nat) (x : Int) (l0 : Option mx_V) (v0 : mx_V) (S h : mx_H) (n : Int), mx_ex d 121 19 [l0, some (0, x)] [v0] S h n = mx_ex d 121 20 [l0, some (0, x)] [(0, x), v0] S h n) ∧
  (∀ (d : Nat) (x0 a : Int) (l0 l1 : Option mx_V) (S h : mx_H) (n : Int), mx_ex (d + 1) 121 20 [l0, l1] [(0, x0), (2, a)] S h n = mx_cl (S a (-2) = 9) d 17 [(2, a), (0, x0)] 121 23 [l0, l1] [] S h n) ∧
  (∀ (d : Nat) (x : Int) (l0 l1 : Option mx_V) (S h : mx_H) (n : Int), mx_ex d 121 23 [l0, l1] [(0, x)] S h n = some (some (0, x), S, h, n)) :=
  ⟨by intros; exact rfl,
   by intros; exact eq_ld rfl rfl,
   by intros; exact eq_gr rfl,
   by intros; exact eq_ld rfl rfl,
   by intros; exact eq_cv rfl (Nat.le_of_ble_eq_true rfl) rfl rfl rfl (Nat.le_of_ble_eq_true rfl),
   by intros; exact eq_nul rfl,
   by intros; exact eq_push rfl,
   by intros; exact eq_go rfl,
   by intros; exact eq_ld rfl rfl,
   by intros; exact eq_gr rfl,
   by intros; exact eq_ld rfl rfl,
   by intros; exact eq_cv rfl (Nat.le_of_ble_eq_true rfl) rfl rfl rfl (Nat.le_of_ble_eq_true rfl),
   by intros; exact eq_ret rfl⟩
theorem rw_X11_gain :
  (∀ (d : Nat) (a0 a1 a2 a3 : Int) (S h : mx_H) (n : Int), mx_M d 122 [(2, a0), (0, a1), (0, a2), (0, a3)] S h n = mx_ex d 122 0 [some (2, a0), some (0, a1), some (0, a2), some (0, a3), none] [] S h n) ∧
  (∀ (d : Nat) (x : Int) (l1 l2 l3 l4 : Option mx_V) (S h : mx_H) (n : Int), mx_ex d 122 0 [some (2, x), l1, l2, l3, l4] [] S h n = mx_ex d 122 1 [some (2, x), l1, l2, l3, l4] [(2, x)] S h n) ∧
  (∀ (d : Nat) (a : Int) (l0 l1 l2 l3 l4 : Option mx_V) (S h : mx_H) (n : Int), mx_ex d 122 1 [l0, l1, l2, l3, l4] [(2, a)] S h n = mx_gd (7 ≤ S a (-2) ∧ S a (-2) ≤ 7) d 122 4 [l0, l1, l2, l3, l4] [(2, S a 3)] S h n) ∧
  (∀ (d : Nat) (x : Int) (l0 l2 l3 l4 : Option mx_V) (v0 : mx_V) (S h : mx_H) (n : Int), mx_ex d 122 4 [l0, some (0, x), l2, l3, l4] [v0] S h n = mx_ex d 122 5 [l0, some (0, x), l2, l3, l4] [(0, x), v0] S h n) ∧
  (∀ (d : Nat) (x0 a : Int) (l0 l1 l2 l3 l4 : Option mx_V) (S h : mx_H) (n : Int), mx_ex (d + 1) 122 5 [l0, l1, l2, l3, l4] [(0, x0), (2, a)] S h n = mx_cl (S a (-2) = 8) d 91 [(2, a), (0, x0)] 122 8 [l0, l1, l2, l3, l4] [] S h n) ∧
  (∀ (d : Nat) (x : Int) (l0 l1 l2 l3 l4 : Option mx_V) (S h : mx_H) (n : Int), mx_ex d 122 8 [l0, l1, l2, l3, l4] [(2, x)] S h n = mx_ex d 122 10 [l0, l1, l2, mx_nl l3, some (2, x)] [] S h n) ∧
  (∀ (d : Nat) (x : Int) (l0 l1 l2 l3 : Option mx_V) (S h : mx_H) (n : Int), mx_ex d 122 10 [l0, l1, l2, l3, some (2, x)] [] S h n = mx_ex d 122 12 [l0, l1, l2, l3, some (2, x)] [(2, x)] S h n) ∧
  (∀ (d : Nat) (a : Int) (l0 l1 l2 l3 l4 : Option mx_V) (S h : mx_H) (n : Int), mx_ex d 122 12 [l0, l1, l2, l3, l4] [(2, a)] S h n = mx_br (a = -1) d 122 29 15 [l0, l1, l2, l3, l4] [] S h n) ∧
  (∀ (d : Nat) (x : Int) (l0 l1 l3 l4 : Option mx_V) (S h : mx_H) (n : Int), mx_ex d 122 15 [l0, l1, some (0, x), l3, l4] [] S h n = mx_ex d 122 16 [l0, l1, some (0, x), l3, l4] [(0, x)] S h n) ∧
  (∀ (d : Nat) (x0 : Int) (l0 l1 l2 l3 l4 : Option mx_V) (S h : mx_H) (n : Int), mx_ex (d + 1) 122 16 [l0, l1, l2, l3, l4] [(0, x0)] S h n = mx_rt (mx_M d 149 [(0, x0)] S h n) (d + 1) 122 19 [l0, l1, l2, l3, l4] []) ∧
  (∀ (d : Nat) (a : Int) (l0 l1 l2 l3 l4 : Option mx_V) (S h : mx_H) (n : Int), mx_ex d 122 19 [l0, l1, l2, l3, l4] [(0, a)] S h n = mx_br (a = 0) d 122 29 22 [l0, l1, l2, l3, l4] [] S h n) ∧
  (∀ (d : Nat) (x : Int) (l0 l1 l2 l4 : Option mx_V) (S h : mx_H) (n : Int), mx_ex d 122 22 [l0, l1, l2, some (0, x), l4] [] S h n = mx_ex d 122 23 [l0, l1, l2, some (0, x), l4] [(0, x)] S h n) ∧
  (∀ (d : Nat) (x0 : Int) (l0 l1 l2 l3 l4 : Option mx_V) (S h : mx_H) (n : Int), mx_ex (d + 1) 122 23 [l0, l1, l2, l3, l4] [(0, x0)] S h n = mx_rt (mx_M d 149 [(0, x0)] S h n) (d + 1) 122 26 [l0, l1, l2, l3, l4] []) ∧
  (∀ (d : Nat) (a : Int) (l0 l1 l2 l3 l4 : Option mx_V) (S h : mx_H) (n : Int), mx_ex d 122 26 [l0, l1, l2, l3, l4] [(0, a)] S h n = mx_br (a = 0) d 122 29 33 [l0, l1, l2, l3, l4] [] S h n) ∧
  (∀ (d : Nat) (l0 l1 l2 l3 l4 : Option mx_V) (S h : mx_H) (n : Int), mx_ex d 122 29 [l0, l1, l2, l3, l4] [] S h n = mx_ex d 122 32 [l0, l1, l2, l3, l4] [(1, (-1000000000000))] S h n) ∧
  (∀ (d : Nat) (x : Int) (l0 l1 l2 l3 l4 : Option mx_V) (S h : mx_H) (n : Int), mx_ex d 122 32 [l0, l1, l2, l3, l4] [(1, x)] S h n = some (some (1, x), S, h, n)) ∧
  (∀ (d : Nat) (x : Int) (l0 l1 l2 l3 : Option mx_V) (S h : mx_H) (n : Int), mx_ex d 122 33 [l0, l1, l2, l3, some (2, x)] [] S h n = mx_ex d 122 35 [l0, l1, l2, l3, some (2, x)] [(2, x)] S h n) ∧
  (∀ (d : Nat) (x : Int) (l0 l1 l2 l4 : Option mx_V) (v0 : mx_V) (S h : mx_H) (n : Int), mx_ex d 122 35 [l0, l1, l2, some (0, x), l4] [v0] S h n = mx_ex d 122 36 [l0, l1, l2, some (0, x), l4] [(0, x), v0] S h n) ∧
  (∀ (d : Nat) (x0 a : Int) (l0 l1 l2 l3 l4 : Option mx_V) (S h : mx_H) (n : Int), mx_ex (d + 1) 122 36 [l0, l1, l2, l3, l4] [(0, x0), (2, a)] S h n = mx_cu (mx_vt (S a (-2)) [(1, 43), (2, 56), (3, 3), (4, 3), (5, 82), (6, 9)]) d [(2, a), (0, x0)] 122 39 [l0, l1, l2, l3, l4] [] S h n) ∧
  (∀ (d : Nat) (x : Int) (l0 l1 l2 l3 : Option mx_V) (v0 : mx_V) (S h : mx_H) (n : Int), mx_ex d 122 39 [l0, l1, l2, l3, some (2, x)] [v0] S h n = mx_ex d 122 41 [l0, l1, l2, l3, some (2, x)] [(2, x), v0] S h n) ∧
  (∀ (d : Nat) (x : Int) (l0 l1 l3 l4 : Option mx_V) (v0 v1 : mx_V) (S h : mx_H) (n : Int), mx_ex d 122 41 [l0, l1, some (0, x), l3, l4] [v0, v1] S h n = mx_ex d 122 42 [l0, l1, some (0, x), l3, l4] [(0, x), v0, v1] S h n) ∧
  (∀ (d : Nat) (x0 a : Int) (l0 l1 l2 l3 l4 : Option mx_V) (v2 : mx_V) (S h : mx_H) (n : Int), mx_ex (d + 1) 122 42 [l0, l1, l2, l3, l4] [(0, x0), (2, a), v2] S h n = mx_cu (mx_vt (S a (-2)) [(1, 43), (2, 56), (3, 3), (4, 3), (5, 82), (6, 9)]) d [(2, a), (0, x0)] 122 45 [l0, l1, l2, l3, l4] [v2] S h n) ∧
  (∀ (d : Nat) (b a : Int) (l0 l1 l2 l3 l4 : Option mx_V) (S h : mx_H) (n : Int), mx_ex d 122 45 [l0, l1, l2, l3, l4] [(0, b), (0, a)] S h n = mx_ex d 122 46 [l0, l1, l2, l3, l4] [(0, mx_w (a - b))] S h n) ∧
  (∀ (d : Nat) (a : Int) (l0 l1 l2 l3 l4 : Option mx_V) (S h : mx_H) (n : Int), mx_ex d 122 46 [l0, l1, l2, l3, l4] [(0, a)] S h n = mx_ex d 122 47 [l0, l1, l2, l3, l4] [(1, a)] S h n) ∧
  (∀ (d : Nat) (x : Int) (l0 l1 l2 l3 l4 : Option mx_V) (S h : mx_H) (n : Int), mx_ex d 122 47 [l0, l1, l2, l3, l4] [(1, x)] S h n = some (some (1, x), S, h, n)) :=
  ⟨by intros; exact rfl,
   by intros; exact eq_ld rfl rfl,
   by intros; exact eq_gr rfl,
   by intros; exact eq_ld rfl rfl,
   by intros; exact eq_cv rfl (Nat.le_of_ble_eq_true rfl) rfl rfl rfl (Nat.le_of_ble_eq_true rfl),
   by intros; exact eq_st rfl (by decide) (Nat.le_of_ble_eq_true rfl) rfl,
   by intros; exact eq_ld rfl rfl,
   by intros; exact eq_nul rfl,
   by intros; exact eq_ld rfl rfl,
   by intros; exact eq_cs rfl (Nat.le_of_ble_eq_true rfl) rfl rfl rfl (Nat.le_of_ble_eq_true rfl),
   by intros; exact eq_if0 rfl,
   by intros; exact eq_ld rfl rfl,
   by intros; exact eq_cs rfl (Nat.le_of_ble_eq_true rfl) rfl rfl rfl (Nat.le_of_ble_eq_true rfl),
   by intros; exact eq_if1 rfl,
   by intros; exact eq_push rfl,
   by intros; exact eq_ret rfl,
   by intros; exact eq_ld rfl rfl,
   by intros; exact eq_ld rfl rfl,
   by intros; exact eq_cu rfl (Nat.le_of_ble_eq_true rfl) rfl rfl rfl (Nat.le_of_ble_eq_true rfl),
   by intros; exact eq_ld rfl rfl,
   by intros; exact eq_ld rfl rfl,
   by intros; exact eq_cu rfl (Nat.le_of_ble_eq_true rfl) rfl rfl rfl (Nat.le_of_ble_eq_true rfl),
   by intros; exact eq_i2 (o := mx_sub) rfl,
   by intros; exact eq_i2l rfl,
   by intros; exact eq_ret rfl⟩
theorem rh_X11_written_58 : ∀ (d : Nat) (x : Int) (l0 l1 l2 l3 l4 l5 : Option mx_V) (S h : mx_H) (n : Int), mx_ex d 123 58 [l0, l1, l2, l3, l4, l5, some (0, x)] [] S h n = mx_ex d 123 60 [l0, l1, l2, l3, l4, l5, some (0, x)] [(0, x)] S h n := by intros; exact eq_ld rfl rfl
theorem rw_X11_written :
  (∀ (d : Nat) (a0 a1 a2 a3 : Int) (S h : mx_H) (n : Int), mx_M d 123 [(2, a0), (0, a1), (0, a2), (0, a3)] S h n = mx_ex d 123 0 [some (2, a0), some (0, a1), some (0, a2), some (0, a3), none, none, none] [] S h n) ∧
  (∀ (d : Nat) (x : Int) (l0 l2 l3 l4 l5 l6 : Option mx_V) (S h : mx_H) (n : Int), mx_ex d 123 0 [l0, some (0, x), l2, l3, l4, l5, l6] [] S h n = mx_ex d 123 1 [l0, some (0, x), l2, l3, l4, l5, l6] [(0, x)] S h n) ∧
  (∀ (d : Nat) (l0 l1 l2 l3 l4 l5 l6 : Option mx_V) (v0 : mx_V) (S h : mx_H) (n : Int), mx_ex d 123 1 [l0, l1, l2, l3, l4, l5, l6] [v0] S h n = mx_ex d 123 2 [l0, l1, l2, l3, l4, l5, l6] [(0, 0), v0] S h n) ∧
  (∀ (d : Nat) (l0 l1 l2 l3 l4 l5 l6 : Option mx_V) (v0 v1 : mx_V) (S h : mx_H) (n : Int), mx_ex d 123 2 [l0, l1, l2, l3, l4, l5, l6] [v0, v1] S h n = mx_ex d 123 5 [l0, l1, l2, l3, l4, l5, l6] [(0, 9999), v0, v1] S h n) ∧
  (∀ (d : Nat) (x0 x1 x2 : Int) (l0 l1 l2 l3 l4 l5 l6 : Option mx_V) (S h : mx_H) (n : Int), mx_ex (d + 1) 123 5 [l0, l1, l2, l3, l4, l5, l6] [(0, x0), (0, x1), (0, x2)] S h n = mx_rt (mx_M d 147 [(0, x2), (0, x1), (0, x0)] S h n) (d + 1) 123 8 [l0, l1, l2, l3, l4, l5, l6] []) ∧
  (∀ (d : Nat) (a : Int) (l0 l1 l2 l3 l4 l5 l6 : Option mx_V) (S h : mx_H) (n : Int), mx_ex d 123 8 [l0, l1, l2, l3, l4, l5, l6] [(0, a)] S h n = mx_br (a = 0) d 123 23 11 [l0, l1, l2, l3, l4, l5, l6] [] S h n) ∧
  (∀ (d : Nat) (x : Int) (l0 l1 l3 l4 l5 l6 : Option mx_V) (S h : mx_H) (n : Int), mx_ex d 123 11 [l0, l1, some (0, x), l3, l4, l5, l6] [] S h n = mx_ex d 123 12 [l0, l1, some (0, x), l3, l4, l5, l6] [(0, x)] S h n) ∧
  (∀ (d : Nat) (x0 : Int) (l0 l1 l2 l3 l4 l5 l6 : Option mx_V) (S h : mx_H) (n : Int), mx_ex (d + 1) 123 12 [l0, l1, l2, l3, l4, l5, l6] [(0, x0)] S h n = mx_rt (mx_M d 149 [(0, x0)] S h n) (d + 1) 123 15 [l0, l1, l2, l3, l4, l5, l6] []) ∧
  (∀ (d : Nat) (a : Int) (l0 l1 l2 l3 l4 l5 l6 : Option mx_V) (S h : mx_H) (n : Int), mx_ex d 123 15 [l0, l1, l2, l3, l4, l5, l6] [(0, a)] S h n = mx_br (a = 0) d 123 23 18 [l0, l1, l2, l3, l4, l5, l6] [] S h n) ∧
  (∀ (d : Nat) (x : Int) (l0 l1 l2 l4 l5 l6 : Option mx_V) (S h : mx_H) (n : Int), mx_ex d 123 18 [l0, l1, l2, some (0, x), l4, l5, l6] [] S h n = mx_ex d 123 19 [l0, l1, l2, some (0, x), l4, l5, l6] [(0, x)] S h n) ∧
  (∀ (d : Nat) (l0 l1 l2 l3 l4 l5 l6 : Option mx_V) (v0 : mx_V) (S h : mx_H) (n : Int), mx_ex d 123 19 [l0, l1, l2, l3, l4, l5, l6] [v0] S h n = mx_ex d 123 20 [l0, l1, l2, l3, l4, l5, l6] [(0, (-1)), v0] S h n) ∧
  (∀ (d : Nat) (b a : Int) (l0 l1 l2 l3 l4 l5 l6 : Option mx_V) (S h : mx_H) (n : Int), mx_ex d 123 20 [l0, l1, l2, l3, l4, l5, l6] [(0, b), (0, a)] S h n = mx_br (a < b) d 123 23 25 [l0, l1, l2, l3, l4, l5, l6] [] S h n) ∧
  (∀ (d : Nat) (l0 l1 l2 l3 l4 l5 l6 : Option mx_V) (S h : mx_H) (n : Int), mx_ex d 123 23 [l0, l1, l2, l3, l4, l5, l6] [] S h n = mx_ex d 123 24 [l0, l1, l2, l3, l4, l5, l6] [(0, (-1))] S h n) ∧
  (∀ (d : Nat) (x : Int) (l0 l1 l2 l3 l4 l5 l6 : Option mx_V) (S h : mx_H) (n : Int), mx_ex d 123 24 [l0, l1, l2, l3, l4, l5, l6] [(0, x)] S h n = some (some (0, x), S, h, n)) ∧
  (∀ (d : Nat) (x : Int) (l0 l2 l3 l4 l5 l6 : Option mx_V) (S h : mx_H) (n : Int), mx_ex d 123 25 [l0, some (0, x), l2, l3, l4, l5, l6] [] S h n = mx_ex d 123 26 [l0, some (0, x), l2, l3, l4, l5, l6] [(0, x)] S h n) ∧
  (∀ (d : Nat) (x : Int) (l0 l1 l3 l4 l5 l6 : Option mx_V) (v0 : mx_V) (S h : mx_H) (n : Int), mx_ex d 123 26 [l0, l1, some (0, x), l3, l4, l5, l6] [v0] S h n = mx_ex d 123 27 [l0, l1, some (0, x), l3, l4, l5, l6] [(0, x), v0] S h n) ∧
  (∀ (d : Nat) (x0 x1 : Int) (l0 l1 l2 l3 l4 l5 l6 : Option mx_V) (S h : mx_H) (n : Int), mx_ex (d + 1) 123 27 [l0, l1, l2, l3, l4, l5, l6] [(0, x0), (0, x1)] S h n = mx_rt (mx_M d 154 [(0, x1), (0, x0)] S h n) (d + 1) 123 30 [l0, l1, l2, l3, l4, l5, l6] []) ∧
  (∀ (d : Nat) (x : Int) (l0 l1 l2 l3 l4 l5 l6 : Option mx_V) (S h : mx_H) (n : Int), mx_ex d 123 30 [l0, l1, l2, l3, l4, l5, l6] [(0, x)] S h n = mx_ex d 123 32 [l0, l1, l2, mx_nl l3, some (0, x), l5, l6] [] S h n) ∧
  (∀ (d : Nat) (x : Int) (l0 l1 l2 l4 l5 l6 : Option mx_V) (S h : mx_H) (n : Int), mx_ex d 123 32 [l0, l1, l2, some (0, x), l4, l5, l6] [] S h n = mx_ex d 123 33 [l0, l1, l2, some (0, x), l4, l5, l6] [(0, x)] S h n) ∧
  (∀ (d : Nat) (l0 l1 l2 l3 l4 l5 l6 : Option mx_V) (v0 : mx_V) (S h : mx_H) (n : Int), mx_ex d 123 33 [l0, l1, l2, l3, l4, l5, l6] [v0] S h n = mx_ex d 123 34 [l0, l1, l2, l3, l4, l5, l6] [(0, (-1)), v0] S h n) ∧
  (∀ (d : Nat) (b a : Int) (l0 l1 l2 l3 l4 l5 l6 : Option mx_V) (S h : mx_H) (n : Int), mx_ex d 123 34 [l0, l1, l2, l3, l4, l5, l6] [(0, b), (0, a)] S h n = mx_br (a = b) d 123 37 40 [l0, l1, l2, l3, l4, l5, l6] [] S h n) ∧
  (∀ (d : Nat) (x : Int) (l0 l1 l2 l3 l5 l6 : Option mx_V) (S h : mx_H) (n : Int), mx_ex d 123 37 [l0, l1, l2, l3, some (0, x), l5, l6] [] S h n = mx_ex d 123 39 [l0, l1, l2, l3, some (0, x), l5, l6] [(0, x)] S h n) ∧
  (∀ (d : Nat) (x : Int) (l0 l1 l2 l3 l4 l5 l6 : Option mx_V) (S h : mx_H) (n : Int), mx_ex d 123 39 [l0, l1, l2, l3, l4, l5, l6] [(0, x)] S h n = some (some (0, x), S, h, n)) ∧
  (∀ (d : Nat) (x : Int) (l0 l1 l2 l4 l5 l6 : Option mx_V) (S h : mx_H) (n : Int), mx_ex d 123 40 [l0, l1, l2, some (0, x), l4, l5, l6] [] S h n = mx_ex d 123 41 [l0, l1, l2, some (0, x), l4, l5, l6] [(0, x)] S h n) ∧
  (∀ (d : Nat) (x : Int) (l0 l1 l2 l3 l5 l6 : Option mx_V) (v0 : mx_V) (S h : mx_H) (n : Int), mx_ex d 123 41 [l0, l1, l2, l3, some (0, x), l5, l6] [v0] S h n = mx_ex d 123 43 [l0, l1, l2, l3, some (0, x), l5, l6] [(0, x), v0] S h n) ∧
  (∀ (d : Nat) (b a : Int) (l0 l1 l2 l3 l4 l5 l6 : Option mx_V) (S h : mx_H) (n : Int), mx_ex d 123 43 [l0, l1, l2, l3, l4, l5, l6] [(0, b), (0, a)] S h n = mx_br (a < b) d 123 49 46 [l0, l1, l2, l3, l4, l5, l6] [] S h n) ∧
  (∀ (d : Nat) (l0 l1 l2 l3 l4 l5 l6 : Option mx_V) (S h : mx_H) (n : Int), mx_ex d 123 46 [l0, l1, l2, l3, l4, l5, l6] [] S h n = mx_ex d 123 48 [l0, l1, l2, l3, l4, l5, l6] [(0, (-3))] S h n) ∧
  (∀ (d : Nat) (x : Int) (l0 l1 l2 l3 l4 l5 l6 : Option mx_V) (S h : mx_H) (n : Int), mx_ex d 123 48 [l0, l1, l2, l3, l4, l5, l6] [(0, x)] S h n = some (some (0, x), S, h, n)) ∧
  (∀ (d : Nat) (x : Int) (l0 l2 l3 l4 l5 l6 : Option mx_V) (S h : mx_H) (n : Int), mx_ex d 123 49 [l0, some (0, x), l2, l3, l4, l5, l6] [] S h n = mx_ex d 123 50 [l0, some (0, x), l2, l3, l4, l5, l6] [(0, x)] S h n) ∧
  (∀ (d : Nat) (x : Int) (l0 l1 l2 l3 l4 l5 l6 : Option mx_V) (S h : mx_H) (n : Int), mx_ex d 123 50 [l0, l1, l2, l3, l4, l5, l6] [(0, x)] S h n = mx_ex d 123 52 [l0, l1, l2, l3, mx_nl l4, some (0, x), l6] [] S h n) ∧
  (∀ (d : Nat) (x : Int) (l0 l1 l2 l3 l5 l6 : Option mx_V) (S h : mx_H) (n : Int), mx_ex d 123 52 [l0, l1, l2, l3, some (0, x), l5, l6] [] S h n = mx_ex d 123 54 [l0, l1, l2, l3, some (0, x), l5, l6] [(0, x)] S h n) ∧
  (∀ (d : Nat) (l0 l1 l2 l3 l4 l5 l6 : Option mx_V) (v0 : mx_V) (S h : mx_H) (n : Int), mx_ex d 123 54 [l0, l1, l2, l3, l4, l5, l6] [v0] S h n = mx_ex d 123 55 [l0, l1, l2, l3, l4, l5, l6] [(0, 1), v0] S h n) ∧
  (∀ (d : Nat) (b a : Int) (l0 l1 l2 l3 l4 l5 l6 : Option mx_V) (S h : mx_H) (n : Int), mx_ex d 123 55 [l0, l1, l2, l3, l4, l5, l6] [(0, b), (0, a)] S h n = mx_ex d 123 56 [l0, l1, l2, l3, l4, l5, l6] [(0, mx_w (a - b))] S h n) ∧
  (∀ (d : Nat) (x : Int) (l0 l1 l2 l3 l4 l5 l6 : Option mx_V) (S h : mx_H) (n : Int), mx_ex d 123 56 [l0, l1, l2, l3, l4, l5, l6] [(0, x)] S h n = mx_ex d 123 58 [l0, l1, l2, l3, l4, mx_nl l5, some (0, x)] [] S h n) ∧
  (∀ (d : Nat) (x : Int) (l0 l1 l2 l4 l5 l6 : Option mx_V) (v0 : mx_V) (S h : mx_H) (n : Int), mx_ex d 123 60 [l0, l1, l2, some (0, x), l4, l5, l6] [v0] S h n = mx_ex d 123 61 [l0, l1, l2, some (0, x), l4, l5, l6] [(0, x), v0] S h n) ∧
  (∀ (d : Nat) (b a : Int) (l0 l1 l2 l3 l4 l5 l6 : Option mx_V) (S h : mx_H) (n : Int), mx_ex d 123 61 [l0, l1, l2, l3, l4, l5, l6] [(0, b), (0, a)] S h n = mx_br (b < a) d 123 64 76 [l0, l1, l2, l3, l4, l5, l6] [] S h n) ∧
  (∀ (d : Nat) (x : Int) (l0 l1 l2 l3 l4 l6 : Option mx_V) (S h : mx_H) (n : Int), mx_ex d 123 64 [l0, l1, l2, l3, l4, some (0, x), l6] [] S h n = mx_ex d 123 66 [l0, l1, l2, l3, l4, some (0, x), l6] [(0, x)] S h n) ∧
  (∀ (d : Nat) (x : Int) (l0 l1 l3 l4 l5 l6 : Option mx_V) (v0 : mx_V) (S h : mx_H) (n : Int), mx_ex d 123 66 [l0, l1, some (0, x), l3, l4, l5, l6] [v0] S h n = mx_ex d 123 67 [l0, l1, some (0, x), l3, l4, l5, l6] [(0, x), v0] S h n) ∧
  (∀ (d : Nat) (b a : Int) (l0 l1 l2 l3 l4 l5 l6 : Option mx_V) (S h : mx_H) (n : Int), mx_ex d 123 67 [l0, l1, l2, l3, l4, l5, l6] [(0, b), (0, a)] S h n = mx_gd (¬ b = 0) d 123 68 [l0, l1, l2, l3, l4, l5, l6] [(0, mx_w (Int.tdiv a b))] S h n) ∧
  (∀ (d : Nat) (x : Int) (l0 l1 l2 l3 l4 l5 l6 : Option mx_V) (S h : mx_H) (n : Int), mx_ex d 123 68 [l0, l1, l2, l3, l4, l5, l6] [(0, x)] S h n = mx_ex d 123 70 [l0, l1, l2, l3, mx_nl l4, some (0, x), l6] [] S h n) ∧
  (∀ (d : Nat) (x : Int) (l0 l1 l2 l3 l4 l5 : Option mx_V) (S h : mx_H) (n : Int), mx_ex d 123 70 [l0, l1, l2, l3, l4, l5, some (0, x)] [] S h n = mx_ex d 123 73 [l0, l1, l2, l3, l4, mx_nl l5, some (0, mx_w (x + (-1)))] [] S h n) ∧
  (∀ (d : Nat) (l0 l1 l2 l3 l4 l5 l6 : Option mx_V) (S h : mx_H) (n : Int), mx_ex d 123 73 [l0, l1, l2, l3, l4, l5, l6] [] S h n = mx_ex d 123 58 [l0, l1, l2, l3, l4, l5, l6] [] S h n) ∧
  (∀ (d : Nat) (x : Int) (l0 l1 l2 l3 l4 l6 : Option mx_V) (S h : mx_H) (n : Int), mx_ex d 123 76 [l0, l1, l2, l3, l4, some (0, x), l6] [] S h n = mx_ex d 123 78 [l0, l1, l2, l3, l4, some (0, x), l6] [(0, x)] S h n) ∧
  (∀ (d : Nat) (x : Int) (l0 l1 l3 l4 l5 l6 : Option mx_V) (v0 : mx_V) (S h : mx_H) (n : Int), mx_ex d 123 78 [l0, l1, some (0, x), l3, l4, l5, l6] [v0] S h n = mx_ex d 123 79 [l0, l1, some (0, x), l3, l4, l5, l6] [(0, x), v0] S h n) ∧
  (∀ (d : Nat) (b a : Int) (l0 l1 l2 l3 l4 l5 l6 : Option mx_V) (S h : mx_H) (n : Int), mx_ex d 123 79 [l0, l1, l2, l3, l4, l5, l6] [(0, b), (0, a)] S h n = mx_gd (¬ b = 0) d 123 80 [l0, l1, l2, l3, l4, l5, l6] [(0, Int.tmod a b)] S h n) ∧
  (∀ (d : Nat) (x : Int) (l0 l1 l2 l3 l4 l5 l6 : Option mx_V) (S h : mx_H) (n : Int), mx_ex d 123 80 [l0, l1, l2, l3, l4, l5, l6] [(0, x)] S h n = some (some (0, x), S, h, n)) :=
  ⟨by intros; exact rfl,
   by intros; exact eq_ld rfl rfl,
   by intros; exact eq_push rfl,
   by intros; exact eq_push rfl,
   by intros; exact eq_cs rfl (Nat.le_of_ble_eq_true rfl) rfl rfl rfl (Nat.le_of_ble_eq_true rfl),
   by intros; exact eq_if0 rfl,
   by intros; exact eq_ld rfl rfl,
   by intros; exact eq_cs rfl (Nat.le_of_ble_eq_true rfl) rfl rfl rfl (Nat.le_of_ble_eq_true rfl),
   by intros; exact eq_if0 rfl,
   by intros; exact eq_ld rfl rfl,
   by intros; exact eq_push rfl,
   by intros; exact eq_ic3 rfl,
   by intros; exact eq_push rfl,
   by intros; exact eq_ret rfl,
   by intros; exact eq_ld rfl rfl,
   by intros; exact eq_ld rfl rfl,
   by intros; exact eq_cs rfl (Nat.le_of_ble_eq_true rfl) rfl rfl rfl (Nat.le_of_ble_eq_true rfl),
   by intros; exact eq_st rfl (by decide) (Nat.le_of_ble_eq_true rfl) rfl,
   by intros; exact eq_ld rfl rfl,
   by intros; exact eq_push rfl,
   by intros; exact eq_ic1 rfl,
   by intros; exact eq_ld rfl rfl,
   by intros; exact eq_ret rfl,
   by intros; exact eq_ld rfl rfl,
   by intros; exact eq_ld rfl rfl,
   by intros; exact eq_ic2 rfl,
   by intros; exact eq_push rfl,
   by intros; exact eq_ret rfl,
   by intros; exact eq_ld rfl rfl,
   by intros; exact eq_st rfl (by decide) (Nat.le_of_ble_eq_true rfl) rfl,
   by intros; exact eq_ld rfl rfl,
   by intros; exact eq_push rfl,
   by intros; exact eq_i2 (o := mx_sub) rfl,
   by intros; exact eq_st rfl (by decide) (Nat.le_of_ble_eq_true rfl) rfl,
   by intros; exact eq_ld rfl rfl,
   by intros; exact eq_ic5 rfl,
   by intros; exact eq_ld rfl rfl,
   by intros; exact eq_ld rfl rfl,
   by intros; exact eq_i2d (o := mx_div) rfl,
   by intros; exact eq_st rfl (by decide) (Nat.le_of_ble_eq_true rfl) rfl,
   by intros; exact eq_inc rfl rfl rfl,
   by intros; exact eq_go rfl,
   by intros; exact eq_ld rfl rfl,
   by intros; exact eq_ld rfl rfl,
   by intros; exact eq_i2d (o := mx_rem) rfl,
   by intros; exact eq_ret rfl⟩
theorem rw_X11_alike :
  (∀ (d : Nat) (a0 a1 a2 : Int) (S h : mx_H) (n : Int), mx_M d 124 [(2, a0), (0, a1), (0, a2)] S h n = mx_ex d 124 0 [some (2, a0), some (0, a1), some (0, a2), none] [] S h n) ∧
  (∀ (d : Nat) (x : Int) (l0 l2 l3 : Option mx_V) (S h : mx_H) (n : Int), mx_ex d 124 0 [l0, some (0, x), l2, l3] [] S h n = mx_ex d 124 1 [l0, some (0, x), l2, l3] [(0, x)] S h n) ∧
  (∀ (d : Nat) (x0 : Int) (l0 l1 l2 l3 : Option mx_V) (S h : mx_H) (n : Int), mx_ex (d + 1) 124 1 [l0, l1, l2, l3] [(0, x0)] S h n = mx_rt (mx_M d 152 [(0, x0)] S h n) (d + 1) 124 4 [l0, l1, l2, l3] []) ∧
  (∀ (d : Nat) (a : Int) (l0 l1 l2 l3 : Option mx_V) (S h : mx_H) (n : Int), mx_ex d 124 4 [l0, l1, l2, l3] [(0, a)] S h n = mx_br (a = 0) d 124 18 7 [l0, l1, l2, l3] [] S h n) ∧
  (∀ (d : Nat) (x : Int) (l0 l1 l3 : Option mx_V) (S h : mx_H) (n : Int), mx_ex d 124 7 [l0, l1, some (0, x), l3] [] S h n = mx_ex d 124 8 [l0, l1, some (0, x), l3] [(0, x)] S h n) ∧
  (∀ (d : Nat) (l0 l1 l2 l3 : Option mx_V) (v0 : mx_V) (S h : mx_H) (n : Int), mx_ex d 124 8 [l0, l1, l2, l3] [v0] S h n = mx_ex d 124 9 [l0, l1, l2, l3] [(0, 0), v0] S h n) ∧
  (∀ (d : Nat) (l0 l1 l2 l3 : Option mx_V) (v0 v1 : mx_V) (S h : mx_H) (n : Int), mx_ex d 124 9 [l0, l1, l2, l3] [v0, v1] S h n = mx_ex d 124 12 [l0, l1, l2, l3] [(0, 9999), v0, v1] S h n) ∧
  (∀ (d : Nat) (x0 x1 x2 : Int) (l0 l1 l2 l3 : Option mx_V) (S h : mx_H) (n : Int), mx_ex (d + 1) 124 12 [l0, l1, l2, l3] [(0, x0), (0, x1), (0, x2)] S h n = mx_rt (mx_M d 147 [(0, x2), (0, x1), (0, x0)] S h n) (d + 1) 124 15 [l0, l1, l2, l3] []) ∧
  (∀ (d : Nat) (a : Int) (l0 l1 l2 l3 : Option mx_V) (S h : mx_H) (n : Int), mx_ex d 124 15 [l0, l1, l2, l3] [(0, a)] S h n = mx_br (a = 0) d 124 18 20 [l0, l1, l2, l3] [] S h n) ∧
  (∀ (d : Nat) (l0 l1 l2 l3 : Option mx_V) (S h : mx_H) (n : Int), mx_ex d 124 18 [l0, l1, l2, l3] [] S h n = mx_ex d 124 19 [l0, l1, l2, l3] [(0, (-1))] S h n) ∧
  (∀ (d : Nat) (x : Int) (l0 l1 l2 l3 : Option mx_V) (S h : mx_H) (n : Int), mx_ex d 124 19 [l0, l1, l2, l3] [(0, x)] S h n = some (some (0, x), S, h, n)) ∧
  (∀ (d : Nat) (x : Int) (l0 l2 l3 : Option mx_V) (S h : mx_H) (n : Int), mx_ex d 124 20 [l0, some (0, x), l2, l3] [] S h n = mx_ex d 124 21 [l0, some (0, x), l2, l3] [(0, x)] S h n) ∧
  (∀ (d : Nat) (x0 : Int) (l0 l1 l2 l3 : Option mx_V) (S h : mx_H) (n : Int), mx_ex (d + 1) 124 21 [l0, l1, l2, l3] [(0, x0)] S h n = mx_rt (mx_M d 250 [(0, x0)] S h n) (d + 1) 124 24 [l0, l1, l2, l3] []) ∧
  (∀ (d : Nat) (l0 l1 l2 l3 : Option mx_V) (v0 : mx_V) (S h : mx_H) (n : Int), mx_ex d 124 24 [l0, l1, l2, l3] [v0] S h n = mx_ex d 124 25 [l0, l1, l2, l3] [(0, 1), v0] S h n) ∧
  (∀ (d : Nat) (b a : Int) (l0 l1 l2 l3 : Option mx_V) (S h : mx_H) (n : Int), mx_ex d 124 25 [l0, l1, l2, l3] [(0, b), (0, a)] S h n = mx_br (a = b) d 124 28 32 [l0, l1, l2, l3] [] S h n) ∧
  (∀ (d : Nat) (l0 l1 l2 l3 : Option mx_V) (S h : mx_H) (n : Int), mx_ex d 124 28 [l0, l1, l2, l3] [] S h n = mx_ex d 124 29 [l0, l1, l2, l3] [(0, 1)] S h n) ∧
  (∀ (d : Nat) (l0 l1 l2 l3 : Option mx_V) (v0 : mx_V) (S h : mx_H) (n : Int), mx_ex d 124 29 [l0, l1, l2, l3] [v0] S h n = mx_ex d 124 33 [l0, l1, l2, l3] [v0] S h n) ∧
  (∀ (d : Nat) (l0 l1 l2 l3 : Option mx_V) (S h : mx_H) (n : Int), mx_ex d 124 32 [l0, l1, l2, l3] [] S h n = mx_ex d 124 33 [l0, l1, l2, l3] [(0, 0)] S h n) ∧
  (∀ (d : Nat) (x : Int) (l0 l1 l2 l3 : Option mx_V) (S h : mx_H) (n : Int), mx_ex d 124 33 [l0, l1, l2, l3] [(0, x)] S h n = mx_ex d 124 34 [l0, l1, mx_nl l2, some (0, x)] [] S h n) ∧
  (∀ (d : Nat) (x : Int) (l0 l1 l2 : Option mx_V) (S h : mx_H) (n : Int), mx_ex d 124 34 [l0, l1, l2, some (0, x)] [] S h n = mx_ex d 124 35 [l0, l1, l2, some (0, x)] [(0, x)] S h n) ∧
  (∀ (d : Nat) (a : Int) (l0 l1 l2 l3 : Option mx_V) (S h : mx_H) (n : Int), mx_ex d 124 35 [l0, l1, l2, l3] [(0, a)] S h n = mx_br (a = 0) d 124 38 47 [l0, l1, l2, l3] [] S h n) ∧
  (∀ (d : Nat) (x : Int) (l0 l1 l3 : Option mx_V) (S h : mx_H) (n : Int), mx_ex d 124 38 [l0, l1, some (0, x), l3] [] S h n = mx_ex d 124 39 [l0, l1, some (0, x), l3] [(0, x)] S h n) ∧
  (∀ (d : Nat) (x : Int) (l0 l2 l3 : Option mx_V) (v0 : mx_V) (S h : mx_H) (n : Int), mx_ex d 124 39 [l0, some (0, x), l2, l3] [v0] S h n = mx_ex d 124 40 [l0, some (0, x), l2, l3] [(0, x), v0] S h n) ∧
  (∀ (d : Nat) (l0 l1 l2 l3 : Option mx_V) (v0 v1 : mx_V) (S h : mx_H) (n : Int), mx_ex d 124 40 [l0, l1, l2, l3] [v0, v1] S h n = mx_ex d 124 41 [l0, l1, l2, l3] [(0, 0), v0, v1] S h n) ∧
  (∀ (d : Nat) (x0 x1 : Int) (l0 l1 l2 l3 : Option mx_V) (v2 : mx_V) (S h : mx_H) (n : Int), mx_ex (d + 1) 124 41 [l0, l1, l2, l3] [(0, x0), (0, x1), v2] S h n = mx_rt (mx_M d 153 [(0, x1), (0, x0)] S h n) (d + 1) 124 44 [l0, l1, l2, l3] [v2]) ∧
  (∀ (d : Nat) (b a : Int) (l0 l1 l2 l3 : Option mx_V) (S h : mx_H) (n : Int), mx_ex d 124 44 [l0, l1, l2, l3] [(0, b), (0, a)] S h n = mx_br (a < b) d 124 47 51 [l0, l1, l2, l3] [] S h n) ∧
  (∀ (d : Nat) (x : Int) (l0 l1 l3 : Option mx_V) (S h : mx_H) (n : Int), mx_ex d 124 47 [l0, l1, some (0, x), l3] [] S h n = mx_ex d 124 48 [l0, l1, some (0, x), l3] [(0, x)] S h n) ∧
  (∀ (d : Nat) (l0 l1 l2 l3 : Option mx_V) (v0 : mx_V) (S h : mx_H) (n : Int), mx_ex d 124 48 [l0, l1, l2, l3] [v0] S h n = mx_ex d 124 53 [l0, l1, l2, l3] [v0] S h n) ∧
  (∀ (d : Nat) (l0 l1 l2 l3 : Option mx_V) (S h : mx_H) (n : Int), mx_ex d 124 51 [l0, l1, l2, l3] [] S h n = mx_ex d 124 53 [l0, l1, l2, l3] [(0, (-3))] S h n) ∧
  (∀ (d : Nat) (x : Int) (l0 l1 l2 l3 : Option mx_V) (S h : mx_H) (n : Int), mx_ex d 124 53 [l0, l1, l2, l3] [(0, x)] S h n = some (some (0, x), S, h, n)) :=
  ⟨by intros; exact rfl,
   by intros; exact eq_ld rfl rfl,
   by intros; exact eq_cs rfl (Nat.le_of_ble_eq_true rfl) rfl rfl rfl (Nat.le_of_ble_eq_true rfl),
   by intros; exact eq_if0 rfl,
   by intros; exact eq_ld rfl rfl,
   by intros; exact eq_push rfl,
   by intros; exact eq_push rfl,
   by intros; exact eq_cs rfl (Nat.le_of_ble_eq_true rfl) rfl rfl rfl (Nat.le_of_ble_eq_true rfl),
   by intros; exact eq_if1 rfl,
   by intros; exact eq_push rfl,
   by intros; exact eq_ret rfl,
   by intros; exact eq_ld rfl rfl,
   by intros; exact eq_cs rfl (Nat.le_of_ble_eq_true rfl) rfl rfl rfl (Nat.le_of_ble_eq_true rfl),
   by intros; exact eq_push rfl,
   by intros; exact eq_ic1 rfl,
   by intros; exact eq_push rfl,
   by intros; exact eq_go rfl,
   by intros; exact eq_push rfl,
   by intros; exact eq_st rfl (by decide) (Nat.le_of_ble_eq_true rfl) rfl,
   by intros; exact eq_ld rfl rfl,
   by intros; exact eq_if1 rfl,
   by intros; exact eq_ld rfl rfl,
   by intros; exact eq_ld rfl rfl,
   by intros; exact eq_push rfl,
   by intros; exact eq_cs rfl (Nat.le_of_ble_eq_true rfl) rfl rfl rfl (Nat.le_of_ble_eq_true rfl),
   by intros; exact eq_ic3 rfl,
   by intros; exact eq_ld rfl rfl,
   by intros; exact eq_go rfl,
   by intros; exact eq_push rfl,
   by intros; exact eq_ret rfl⟩
theorem rh_X11_shortest_29 : ∀ (d : Nat) (x : Int) (l0 l1 l2 l3 : Option mx_V) (S h : mx_H) (n : Int), mx_ex d 125 29 [l0, l1, l2, l3, some (0, x)] [] S h n = mx_ex d 125 31 [l0, l1, l2, l3, some (0, x)] [(0, x)] S h n := by intros; exact eq_ld rfl rfl
theorem rw_X11_shortest :
  (∀ (d : Nat) (a0 a1 a2 : Int) (S h : mx_H) (n : Int), mx_M d 125 [(2, a0), (0, a1), (0, a2)] S h n = mx_ex d 125 0 [some (2, a0), some (0, a1), some (0, a2), none, none] [] S h n) ∧
  (∀ (d : Nat) (x : Int) (l0 l2 l3 l4 : Option mx_V) (S h : mx_H) (n : Int), mx_ex d 125 0 [l0, some (0, x), l2, l3, l4] [] S h n = mx_ex d 125 1 [l0, some (0, x), l2, l3, l4] [(0, x)] S h n) ∧
  (∀ (d : Nat) (l0 l1 l2 l3 l4 : Option mx_V) (v0 : mx_V) (S h : mx_H) (n : Int), mx_ex d 125 1 [l0, l1, l2, l3, l4] [v0] S h n = mx_ex d 125 2 [l0, l1, l2, l3, l4] [(0, 0), v0] S h n) ∧
  (∀ (d : Nat) (l0 l1 l2 l3 l4 : Option mx_V) (v0 v1 : mx_V) (S h : mx_H) (n : Int), mx_ex d 125 2 [l0, l1, l2, l3, l4] [v0, v1] S h n = mx_ex d 125 5 [l0, l1, l2, l3, l4] [(0, 9999), v0, v1] S h n) ∧
  (∀ (d : Nat) (x0 x1 x2 : Int) (l0 l1 l2 l3 l4 : Option mx_V) (S h : mx_H) (n : Int), mx_ex (d + 1) 125 5 [l0, l1, l2, l3, l4] [(0, x0), (0, x1), (0, x2)] S h n = mx_rt (mx_M d 147 [(0, x2), (0, x1), (0, x0)] S h n) (d + 1) 125 8 [l0, l1, l2, l3, l4] []) ∧
  (∀ (d : Nat) (a : Int) (l0 l1 l2 l3 l4 : Option mx_V) (S h : mx_H) (n : Int), mx_ex d 125 8 [l0, l1, l2, l3, l4] [(0, a)] S h n = mx_br (a = 0) d 125 18 11 [l0, l1, l2, l3, l4] [] S h n) ∧
  (∀ (d : Nat) (x : Int) (l0 l1 l3 l4 : Option mx_V) (S h : mx_H) (n : Int), mx_ex d 125 11 [l0, l1, some (0, x), l3, l4] [] S h n = mx_ex d 125 12 [l0, l1, some (0, x), l3, l4] [(0, x)] S h n) ∧
  (∀ (d : Nat) (x0 : Int) (l0 l1 l2 l3 l4 : Option mx_V) (S h : mx_H) (n : Int), mx_ex (d + 1) 125 12 [l0, l1, l2, l3, l4] [(0, x0)] S h n = mx_rt (mx_M d 152 [(0, x0)] S h n) (d + 1) 125 15 [l0, l1, l2, l3, l4] []) ∧
  (∀ (d : Nat) (a : Int) (l0 l1 l2 l3 l4 : Option mx_V) (S h : mx_H) (n : Int), mx_ex d 125 15 [l0, l1, l2, l3, l4] [(0, a)] S h n = mx_br (a = 0) d 125 18 20 [l0, l1, l2, l3, l4] [] S h n) ∧
  (∀ (d : Nat) (l0 l1 l2 l3 l4 : Option mx_V) (S h : mx_H) (n : Int), mx_ex d 125 18 [l0, l1, l2, l3, l4] [] S h n = mx_ex d 125 19 [l0, l1, l2, l3, l4] [(0, (-1))] S h n) ∧
  (∀ (d : Nat) (x : Int) (l0 l1 l2 l3 l4 : Option mx_V) (S h : mx_H) (n : Int), mx_ex d 125 19 [l0, l1, l2, l3, l4] [(0, x)] S h n = some (some (0, x), S, h, n)) ∧
  (∀ (d : Nat) (x : Int) (l0 l1 l3 l4 : Option mx_V) (S h : mx_H) (n : Int), mx_ex d 125 20 [l0, l1, some (0, x), l3, l4] [] S h n = mx_ex d 125 21 [l0, l1, some (0, x), l3, l4] [(0, x)] S h n) ∧
  (∀ (d : Nat) (l0 l1 l2 l3 l4 : Option mx_V) (v0 : mx_V) (S h : mx_H) (n : Int), mx_ex d 125 21 [l0, l1, l2, l3, l4] [v0] S h n = mx_ex d 125 22 [l0, l1, l2, l3, l4] [(0, 0), v0] S h n) ∧
  (∀ (d : Nat) (x0 x1 : Int) (l0 l1 l2 l3 l4 : Option mx_V) (S h : mx_H) (n : Int), mx_ex (d + 1) 125 22 [l0, l1, l2, l3, l4] [(0, x0), (0, x1)] S h n = mx_rt (mx_M d 153 [(0, x1), (0, x0)] S h n) (d + 1) 125 25 [l0, l1, l2, l3, l4] []) ∧
  (∀ (d : Nat) (x : Int) (l0 l1 l2 l3 l4 : Option mx_V) (S h : mx_H) (n : Int), mx_ex d 125 25 [l0, l1, l2, l3, l4] [(0, x)] S h n = mx_ex d 125 26 [l0, l1, mx_nl l2, some (0, x), l4] [] S h n) ∧
  (∀ (d : Nat) (x : Int) (l0 l1 l2 l4 : Option mx_V) (S h : mx_H) (n : Int), mx_ex d 125 26 [l0, l1, l2, some (0, x), l4] [] S h n = mx_ex d 125 27 [l0, l1, l2, some (0, x), l4] [(0, x)] S h n) ∧
  (∀ (d : Nat) (x : Int) (l0 l1 l2 l3 l4 : Option mx_V) (S h : mx_H) (n : Int), mx_ex d 125 27 [l0, l1, l2, l3, l4] [(0, x)] S h n = mx_ex d 125 29 [l0, l1, l2, mx_nl l3, some (0, x)] [] S h n) ∧
  (∀ (d : Nat) (l0 l1 l2 l3 l4 : Option mx_V) (v0 : mx_V) (S h : mx_H) (n : Int), mx_ex d 125 31 [l0, l1, l2, l3, l4] [v0] S h n = mx_ex d 125 33 [l0, l1, l2, l3, l4] [(0, 16), v0] S h n) ∧
  (∀ (d : Nat) (b a : Int) (l0 l1 l2 l3 l4 : Option mx_V) (S h : mx_H) (n : Int), mx_ex d 125 33 [l0, l1, l2, l3, l4] [(0, b), (0, a)] S h n = mx_br (b < a) d 125 68 36 [l0, l1, l2, l3, l4] [] S h n) ∧
  (∀ (d : Nat) (x : Int) (l0 l1 l3 l4 : Option mx_V) (S h : mx_H) (n : Int), mx_ex d 125 36 [l0, l1, some (0, x), l3, l4] [] S h n = mx_ex d 125 37 [l0, l1, some (0, x), l3, l4] [(0, x)] S h n) ∧
  (∀ (d : Nat) (x : Int) (l0 l1 l2 l3 : Option mx_V) (v0 : mx_V) (S h : mx_H) (n : Int), mx_ex d 125 37 [l0, l1, l2, l3, some (0, x)] [v0] S h n = mx_ex d 125 39 [l0, l1, l2, l3, some (0, x)] [(0, x), v0] S h n) ∧
  (∀ (d : Nat) (b a : Int) (l0 l1 l2 l3 l4 : Option mx_V) (S h : mx_H) (n : Int), mx_ex d 125 39 [l0, l1, l2, l3, l4] [(0, b), (0, a)] S h n = mx_ex d 125 40 [l0, l1, l2, l3, l4] [(0, mx_shr a b)] S h n) ∧
  (∀ (d : Nat) (l0 l1 l2 l3 l4 : Option mx_V) (v0 : mx_V) (S h : mx_H) (n : Int), mx_ex d 125 40 [l0, l1, l2, l3, l4] [v0] S h n = mx_ex d 125 41 [l0, l1, l2, l3, l4] [(0, 1), v0] S h n) ∧
  (∀ (d : Nat) (b a : Int) (l0 l1 l2 l3 l4 : Option mx_V) (S h : mx_H) (n : Int), mx_ex d 125 41 [l0, l1, l2, l3, l4] [(0, b), (0, a)] S h n = mx_ex d 125 42 [l0, l1, l2, l3, l4] [(0, mx_and a b)] S h n) ∧
  (∀ (d : Nat) (a : Int) (l0 l1 l2 l3 l4 : Option mx_V) (S h : mx_H) (n : Int), mx_ex d 125 42 [l0, l1, l2, l3, l4] [(0, a)] S h n = mx_br (a = 0) d 125 62 45 [l0, l1, l2, l3, l4] [] S h n) ∧
  (∀ (d : Nat) (x : Int) (l0 l2 l3 l4 : Option mx_V) (S h : mx_H) (n : Int), mx_ex d 125 45 [l0, some (0, x), l2, l3, l4] [] S h n = mx_ex d 125 46 [l0, some (0, x), l2, l3, l4] [(0, x)] S h n) ∧
  (∀ (d : Nat) (x : Int) (l0 l1 l2 l3 : Option mx_V) (v0 : mx_V) (S h : mx_H) (n : Int), mx_ex d 125 46 [l0, l1, l2, l3, some (0, x)] [v0] S h n = mx_ex d 125 48 [l0, l1, l2, l3, some (0, x)] [(0, x), v0] S h n) ∧
  (∀ (d : Nat) (x0 x1 : Int) (l0 l1 l2 l3 l4 : Option mx_V) (S h : mx_H) (n : Int), mx_ex (d + 1) 125 48 [l0, l1, l2, l3, l4] [(0, x0), (0, x1)] S h n = mx_rt (mx_M d 154 [(0, x1), (0, x0)] S h n) (d + 1) 125 51 [l0, l1, l2, l3, l4] []) ∧
  (∀ (d : Nat) (x : Int) (l0 l2 l3 l4 : Option mx_V) (v0 : mx_V) (S h : mx_H) (n : Int), mx_ex d 125 51 [l0, some (0, x), l2, l3, l4] [v0] S h n = mx_ex d 125 52 [l0, some (0, x), l2, l3, l4] [(0, x), v0] S h n) ∧
  (∀ (d : Nat) (x : Int) (l0 l1 l2 l4 : Option mx_V) (v0 v1 : mx_V) (S h : mx_H) (n : Int), mx_ex d 125 52 [l0, l1, l2, some (0, x), l4] [v0, v1] S h n = mx_ex d 125 53 [l0, l1, l2, some (0, x), l4] [(0, x), v0, v1] S h n) ∧
  (∀ (d : Nat) (x0 x1 : Int) (l0 l1 l2 l3 l4 : Option mx_V) (v2 : mx_V) (S h : mx_H) (n : Int), mx_ex (d + 1) 125 53 [l0, l1, l2, l3, l4] [(0, x0), (0, x1), v2] S h n = mx_rt (mx_M d 154 [(0, x1), (0, x0)] S h n) (d + 1) 125 56 [l0, l1, l2, l3, l4] [v2]) ∧
  (∀ (d : Nat) (b a : Int) (l0 l1 l2 l3 l4 : Option mx_V) (S h : mx_H) (n : Int), mx_ex d 125 56 [l0, l1, l2, l3, l4] [(0, b), (0, a)] S h n = mx_br (a < b) d 125 59 62 [l0, l1, l2, l3, l4] [] S h n) ∧
  (∀ (d : Nat) (x : Int) (l0 l1 l2 l3 : Option mx_V) (S h : mx_H) (n : Int), mx_ex d 125 59 [l0, l1, l2, l3, some (0, x)] [] S h n = mx_ex d 125 61 [l0, l1, l2, l3, some (0, x)] [(0, x)] S h n) ∧
  (∀ (d : Nat) (x : Int) (l0 l1 l2 l3 l4 : Option mx_V) (S h : mx_H) (n : Int), mx_ex d 125 61 [l0, l1, l2, l3, l4] [(0, x)] S h n = mx_ex d 125 62 [l0, l1, mx_nl l2, some (0, x), l4] [] S h n) ∧
  (∀ (d : Nat) (x : Int) (l0 l1 l2 l3 : Option mx_V) (S h : mx_H) (n : Int), mx_ex d 125 62 [l0, l1, l2, l3, some (0, x)] [] S h n = mx_ex d 125 65 [l0, l1, l2, mx_nl l3, some (0, mx_w (x + 1))] [] S h n) ∧
  (∀ (d : Nat) (l0 l1 l2 l3 l4 : Option mx_V) (S h : mx_H) (n : Int), mx_ex d 125 65 [l0, l1, l2, l3, l4] [] S h n = mx_ex d 125 29 [l0, l1, l2, l3, l4] [] S h n) ∧
  (∀ (d : Nat) (x : Int) (l0 l1 l2 l4 : Option mx_V) (S h : mx_H) (n : Int), mx_ex d 125 68 [l0, l1, l2, some (0, x), l4] [] S h n = mx_ex d 125 69 [l0, l1, l2, some (0, x), l4] [(0, x)] S h n) ∧
  (∀ (d : Nat) (x : Int) (l0 l1 l2 l3 l4 : Option mx_V) (S h : mx_H) (n : Int), mx_ex d 125 69 [l0, l1, l2, l3, l4] [(0, x)] S h n = some (some (0, x), S, h, n)) :=
  ⟨by intros; exact rfl,
   by intros; exact eq_ld rfl rfl,
   by intros; exact eq_push rfl,
   by intros; exact eq_push rfl,
   by intros; exact eq_cs rfl (Nat.le_of_ble_eq_true rfl) rfl rfl rfl (Nat.le_of_ble_eq_true rfl),
   by intros; exact eq_if0 rfl,
   by intros; exact eq_ld rfl rfl,
   by intros; exact eq_cs rfl (Nat.le_of_ble_eq_true rfl) rfl rfl rfl (Nat.le_of_ble_eq_true rfl),
   by intros; exact eq_if1 rfl,
   by intros; exact eq_push rfl,
   by intros; exact eq_ret rfl,
   by intros; exact eq_ld rfl rfl,
   by intros; exact eq_push rfl,
   by intros; exact eq_cs rfl (Nat.le_of_ble_eq_true rfl) rfl rfl rfl (Nat.le_of_ble_eq_true rfl),
   by intros; exact eq_st rfl (by decide) (Nat.le_of_ble_eq_true rfl) rfl,
   by intros; exact eq_ld rfl rfl,
   by intros; exact eq_st rfl (by decide) (Nat.le_of_ble_eq_true rfl) rfl,
   by intros; exact eq_push rfl,
   by intros; exact eq_ic4 rfl,
   by intros; exact eq_ld rfl rfl,
   by intros; exact eq_ld rfl rfl,
   by intros; exact eq_i2 (o := mx_shr) rfl,
   by intros; exact eq_push rfl,
   by intros; exact eq_i2 (o := mx_and) rfl,
   by intros; exact eq_if0 rfl,
   by intros; exact eq_ld rfl rfl,
   by intros; exact eq_ld rfl rfl,
   by intros; exact eq_cs rfl (Nat.le_of_ble_eq_true rfl) rfl rfl rfl (Nat.le_of_ble_eq_true rfl),
   by intros; exact eq_ld rfl rfl,
   by intros; exact eq_ld rfl rfl,
   by intros; exact eq_cs rfl (Nat.le_of_ble_eq_true rfl) rfl rfl rfl (Nat.le_of_ble_eq_true rfl),
   by intros; exact eq_ic3 rfl,
   by intros; exact eq_ld rfl rfl,
   by intros; exact eq_st rfl (by decide) (Nat.le_of_ble_eq_true rfl) rfl,
   by intros; exact eq_inc rfl rfl rfl,
   by intros; exact eq_go rfl,
   by intros; exact eq_ld rfl rfl,
   by intros; exact eq_ret rfl⟩
theorem rh_X11_add_73 : ∀ (d : Nat) (x : Int) (l0 l1 l2 l3 l4 l5 l6 l8 : Option mx_V) (S h : mx_H) (n : Int), mx_ex d 126 73 [l0, l1, l2, l3, l4, l5, l6, some (0, x), l8] [] S h n = mx_ex d 126 75 [l0, l1, l2, l3, l4, l5, l6, some (0, x), l8] [(0, x)] S h n := by intros; exact eq_ld rfl rfl
theorem rw_X11_add :
  (∀ (d : Nat) (a0 a1 a2 : Int) (S h : mx_H) (n : Int), mx_M d 126 [(2, a0), (0, a1), (0, a2)] S h n = mx_ex d 126 0 [some (2, a0), some (0, a1), some (0, a2), none, none, none, none, none, none] [] S h n) ∧
  (∀ (d : Nat) (x : Int) (l1 l2 l3 l4 l5 l6 l7 l8 : Option mx_V) (S h : mx_H) (n : Int), mx_ex d 126 0 [some (2, x), l1, l2, l3, l4, l5, l6, l7, l8] [] S h n = mx_ex d 126 1 [some (2, x), l1, l2, l3, l4, l5, l6, l7, l8] [(2, x)] S h n) ∧
  (∀ (d : Nat) (a : Int) (l0 l1 l2 l3 l4 l5 l6 l7 l8 : Option mx_V) (S h : mx_H) (n : Int), mx_ex d 126 1 [l0, l1, l2, l3, l4, l5, l6, l7, l8] [(2, a)] S h n = mx_gd (7 ≤ S a (-2) ∧ S a (-2) ≤ 7) d 126 4 [l0, l1, l2, l3, l4, l5, l6, l7, l8] [(2, S a 3)] S h n) ∧
  (∀ (d : Nat) (x : Int) (l0 l2 l3 l4 l5 l6 l7 l8 : Option mx_V) (v0 : mx_V) (S h : mx_H) (n : Int), mx_ex d 126 4 [l0, some (0, x), l2, l3, l4, l5, l6, l7, l8] [v0] S h n = mx_ex d 126 5 [l0, some (0, x), l2, l3, l4, l5, l6, l7, l8] [(0, x), v0] S h n) ∧
  (∀ (d : Nat) (x0 a : Int) (l0 l1 l2 l3 l4 l5 l6 l7 l8 : Option mx_V) (S h : mx_H) (n : Int), mx_ex (d + 1) 126 5 [l0, l1, l2, l3, l4, l5, l6, l7, l8] [(0, x0), (2, a)] S h n = mx_cl (S a (-2) = 8) d 91 [(2, a), (0, x0)] 126 8 [l0, l1, l2, l3, l4, l5, l6, l7, l8] [] S h n) ∧
  (∀ (d : Nat) (x : Int) (l0 l1 l2 l3 l4 l5 l6 l7 l8 : Option mx_V) (S h : mx_H) (n : Int), mx_ex d 126 8 [l0, l1, l2, l3, l4, l5, l6, l7, l8] [(2, x)] S h n = mx_ex d 126 9 [l0, l1, mx_nl l2, some (2, x), l4, l5, l6, l7, l8] [] S h n) ∧
  (∀ (d : Nat) (x : Int) (l1 l2 l3 l4 l5 l6 l7 l8 : Option mx_V) (S h : mx_H) (n : Int), mx_ex d 126 9 [some (2, x), l1, l2, l3, l4, l5, l6, l7, l8] [] S h n = mx_ex d 126 10 [some (2, x), l1, l2, l3, l4, l5, l6, l7, l8] [(2, x)] S h n) ∧
  (∀ (d : Nat) (a : Int) (l0 l1 l2 l3 l4 l5 l6 l7 l8 : Option mx_V) (S h : mx_H) (n : Int), mx_ex d 126 10 [l0, l1, l2, l3, l4, l5, l6, l7, l8] [(2, a)] S h n = mx_gd (7 ≤ S a (-2) ∧ S a (-2) ≤ 7) d 126 13 [l0, l1, l2, l3, l4, l5, l6, l7, l8] [(2, S a 3)] S h n) ∧
  (∀ (d : Nat) (x : Int) (l0 l1 l3 l4 l5 l6 l7 l8 : Option mx_V) (v0 : mx_V) (S h : mx_H) (n : Int), mx_ex d 126 13 [l0, l1, some (0, x), l3, l4, l5, l6, l7, l8] [v0] S h n = mx_ex d 126 14 [l0, l1, some (0, x), l3, l4, l5, l6, l7, l8] [(0, x), v0] S h n) ∧
  (∀ (d : Nat) (x0 a : Int) (l0 l1 l2 l3 l4 l5 l6 l7 l8 : Option mx_V) (S h : mx_H) (n : Int), mx_ex (d + 1) 126 14 [l0, l1, l2, l3, l4, l5, l6, l7, l8] [(0, x0), (2, a)] S h n = mx_cl (S a (-2) = 8) d 91 [(2, a), (0, x0)] 126 17 [l0, l1, l2, l3, l4, l5, l6, l7, l8] [] S h n) ∧
  (∀ (d : Nat) (x : Int) (l0 l1 l2 l3 l4 l5 l6 l7 l8 : Option mx_V) (S h : mx_H) (n : Int), mx_ex d 126 17 [l0, l1, l2, l3, l4, l5, l6, l7, l8] [(2, x)] S h n = mx_ex d 126 19 [l0, l1, l2, mx_nl l3, some (2, x), l5, l6, l7, l8] [] S h n) ∧
  (∀ (d : Nat) (x : Int) (l0 l1 l2 l4 l5 l6 l7 l8 : Option mx_V) (S h : mx_H) (n : Int), mx_ex d 126 19 [l0, l1, l2, some (2, x), l4, l5, l6, l7, l8] [] S h n = mx_ex d 126 20 [l0, l1, l2, some (2, x), l4, l5, l6, l7, l8] [(2, x)] S h n) ∧
  (∀ (d : Nat) (a : Int) (l0 l1 l2 l3 l4 l5 l6 l7 l8 : Option mx_V) (S h : mx_H) (n : Int), mx_ex d 126 20 [l0, l1, l2, l3, l4, l5, l6, l7, l8] [(2, a)] S h n = mx_br (a = -1) d 126 28 23 [l0, l1, l2, l3, l4, l5, l6, l7, l8] [] S h n) ∧
  (∀ (d : Nat) (x : Int) (l0 l1 l2 l3 l5 l6 l7 l8 : Option mx_V) (S h : mx_H) (n : Int), mx_ex d 126 23 [l0, l1, l2, l3, some (2, x), l5, l6, l7, l8] [] S h n = mx_ex d 126 25 [l0, l1, l2, l3, some (2, x), l5, l6, l7, l8] [(2, x)] S h n) ∧
  (∀ (d : Nat) (a : Int) (l0 l1 l2 l3 l4 l5 l6 l7 l8 : Option mx_V) (S h : mx_H) (n : Int), mx_ex d 126 25 [l0, l1, l2, l3, l4, l5, l6, l7, l8] [(2, a)] S h n = mx_br (a = -1) d 126 28 30 [l0, l1, l2, l3, l4, l5, l6, l7, l8] [] S h n) ∧
  (∀ (d : Nat) (l0 l1 l2 l3 l4 l5 l6 l7 l8 : Option mx_V) (S h : mx_H) (n : Int), mx_ex d 126 28 [l0, l1, l2, l3, l4, l5, l6, l7, l8] [] S h n = mx_ex d 126 29 [l0, l1, l2, l3, l4, l5, l6, l7, l8] [(0, (-1))] S h n) ∧
  (∀ (d : Nat) (x : Int) (l0 l1 l2 l3 l4 l5 l6 l7 l8 : Option mx_V) (S h : mx_H) (n : Int), mx_ex d 126 29 [l0, l1, l2, l3, l4, l5, l6, l7, l8] [(0, x)] S h n = some (some (0, x), S, h, n)) ∧
  (∀ (d : Nat) (x : Int) (l0 l1 l2 l4 l5 l6 l7 l8 : Option mx_V) (S h : mx_H) (n : Int), mx_ex d 126 30 [l0, l1, l2, some (2, x), l4, l5, l6, l7, l8] [] S h n = mx_ex d 126 31 [l0, l1, l2, some (2, x), l4, l5, l6, l7, l8] [(2, x)] S h n) ∧
  (∀ (d : Nat) (a : Int) (l0 l1 l2 l3 l4 l5 l6 l7 l8 : Option mx_V) (S h : mx_H) (n : Int), mx_ex (d + 1) 126 31 [l0, l1, l2, l3, l4, l5, l6, l7, l8] [(2, a)] S h n = mx_cu (mx_vt (S a (-2)) [(1, 39), (2, 55), (3, 1), (4, 34), (5, 81), (6, 8)]) d [(2, a)] 126 34 [l0, l1, l2, l3, l4, l5, l6, l7, l8] [] S h n) ∧
  (∀ (d : Nat) (a : Int) (l0 l1 l2 l3 l4 l5 l6 l7 l8 : Option mx_V) (S h : mx_H) (n : Int), mx_ex d 126 34 [l0, l1, l2, l3, l4, l5, l6, l7, l8] [(0, a)] S h n = mx_br (a = 0) d 126 37 45 [l0, l1, l2, l3, l4, l5, l6, l7, l8] [] S h n) ∧
  (∀ (d : Nat) (x : Int) (l0 l1 l2 l3 l5 l6 l7 l8 : Option mx_V) (S h : mx_H) (n : Int), mx_ex d 126 37 [l0, l1, l2, l3, some (2, x), l5, l6, l7, l8] [] S h n = mx_ex d 126 39 [l0, l1, l2, l3, some (2, x), l5, l6, l7, l8] [(2, x)] S h n) ∧
  (∀ (d : Nat) (a : Int) (l0 l1 l2 l3 l4 l5 l6 l7 l8 : Option mx_V) (S h : mx_H) (n : Int), mx_ex (d + 1) 126 39 [l0, l1, l2, l3, l4, l5, l6, l7, l8] [(2, a)] S h n = mx_cu (mx_vt (S a (-2)) [(1, 39), (2, 55), (3, 1), (4, 34), (5, 81), (6, 8)]) d [(2, a)] 126 42 [l0, l1, l2, l3, l4, l5, l6, l7, l8] [] S h n) ∧
  (∀ (d : Nat) (a : Int) (l0 l1 l2 l3 l4 l5 l6 l7 l8 : Option mx_V) (S h : mx_H) (n : Int), mx_ex d 126 42 [l0, l1, l2, l3, l4, l5, l6, l7, l8] [(0, a)] S h n = mx_br (a = 0) d 126 48 45 [l0, l1, l2, l3, l4, l5, l6, l7, l8] [] S h n) ∧
  (∀ (d : Nat) (l0 l1 l2 l3 l4 l5 l6 l7 l8 : Option mx_V) (S h : mx_H) (n : Int), mx_ex d 126 45 [l0, l1, l2, l3, l4, l5, l6, l7, l8] [] S h n = mx_ex d 126 47 [l0, l1, l2, l3, l4, l5, l6, l7, l8] [(0, (-4))] S h n) ∧
  (∀ (d : Nat) (x : Int) (l0 l1 l2 l3 l4 l5 l6 l7 l8 : Option mx_V) (S h : mx_H) (n : Int), mx_ex d 126 47 [l0, l1, l2, l3, l4, l5, l6, l7, l8] [(0, x)] S h n = some (some (0, x), S, h, n)) ∧
  (∀ (d : Nat) (x : Int) (l0 l1 l2 l4 l5 l6 l7 l8 : Option mx_V) (S h : mx_H) (n : Int), mx_ex d 126 48 [l0, l1, l2, some (2, x), l4, l5, l6, l7, l8] [] S h n = mx_ex d 126 49 [l0, l1, l2, some (2, x), l4, l5, l6, l7, l8] [(2, x)] S h n) ∧
  (∀ (d : Nat) (a : Int) (l0 l1 l2 l3 l4 l5 l6 l7 l8 : Option mx_V) (S h : mx_H) (n : Int), mx_ex d 126 49 [l0, l1, l2, l3, l4, l5, l6, l7, l8] [(2, a)] S h n = mx_gd (1 ≤ S a (-2) ∧ S a (-2) ≤ 6) d 126 52 [l0, l1, l2, l3, l4, l5, l6, l7, l8] [(2, S a 2)] S h n) ∧
  (∀ (d : Nat) (a : Int) (l0 l1 l2 l3 l4 l5 l6 l7 l8 : Option mx_V) (S h : mx_H) (n : Int), mx_ex d 126 52 [l0, l1, l2, l3, l4, l5, l6, l7, l8] [(2, a)] S h n = mx_gd (20 ≤ S a (-2) ∧ S a (-2) ≤ 25) d 126 53 [l0, l1, l2, l3, l4, l5, l6, l7, l8] [(0, S a (-1))] S h n) ∧
  (∀ (d : Nat) (x : Int) (l0 l1 l2 l3 l5 l6 l7 l8 : Option mx_V) (v0 : mx_V) (S h : mx_H) (n : Int), mx_ex d 126 53 [l0, l1, l2, l3, some (2, x), l5, l6, l7, l8] [v0] S h n = mx_ex d 126 55 [l0, l1, l2, l3, some (2, x), l5, l6, l7, l8] [(2, x), v0] S h n) ∧
  (∀ (d : Nat) (a : Int) (l0 l1 l2 l3 l4 l5 l6 l7 l8 : Option mx_V) (v1 : mx_V) (S h : mx_H) (n : Int), mx_ex d 126 55 [l0, l1, l2, l3, l4, l5, l6, l7, l8] [(2, a), v1] S h n = mx_gd (1 ≤ S a (-2) ∧ S a (-2) ≤ 6) d 126 58 [l0, l1, l2, l3, l4, l5, l6, l7, l8] [(2, S a 2), v1] S h n) ∧
  (∀ (d : Nat) (a : Int) (l0 l1 l2 l3 l4 l5 l6 l7 l8 : Option mx_V) (v1 : mx_V) (S h : mx_H) (n : Int), mx_ex d 126 58 [l0, l1, l2, l3, l4, l5, l6, l7, l8] [(2, a), v1] S h n = mx_gd (20 ≤ S a (-2) ∧ S a (-2) ≤ 25) d 126 59 [l0, l1, l2, l3, l4, l5, l6, l7, l8] [(0, S a (-1)), v1] S h n) ∧
  (∀ (d : Nat) (b a : Int) (l0 l1 l2 l3 l4 l5 l6 l7 l8 : Option mx_V) (S h : mx_H) (n : Int), mx_ex d 126 59 [l0, l1, l2, l3, l4, l5, l6, l7, l8] [(0, b), (0, a)] S h n = mx_ex d 126 62 [l0, l1, l2, l3, l4, l5, l6, l7, l8] [(0, if a < b then b else a)] S h n) ∧
  (∀ (d : Nat) (x : Int) (l0 l1 l2 l3 l4 l5 l6 l7 l8 : Option mx_V) (S h : mx_H) (n : Int), mx_ex d 126 62 [l0, l1, l2, l3, l4, l5, l6, l7, l8] [(0, x)] S h n = mx_ex d 126 64 [l0, l1, l2, l3, mx_nl l4, some (0, x), l6, l7, l8] [] S h n) ∧
  (∀ (d : Nat) (x : Int) (l0 l1 l2 l3 l4 l6 l7 l8 : Option mx_V) (S h : mx_H) (n : Int), mx_ex d 126 64 [l0, l1, l2, l3, l4, some (0, x), l6, l7, l8] [] S h n = mx_ex d 126 66 [l0, l1, l2, l3, l4, some (0, x), l6, l7, l8] [(0, x)] S h n) ∧
  (∀ (d : Nat) (x : Int) (l0 l1 l2 l3 l4 l5 l6 l7 l8 : Option mx_V) (S h : mx_H) (n : Int), mx_ex d 126 66 [l0, l1, l2, l3, l4, l5, l6, l7, l8] [(0, x)] S h n = mx_gd (0 ≤ x ∧ x ≤ 300) d 126 68 [l0, l1, l2, l3, l4, l5, l6, l7, l8] [(2, n)] (mx_t S n 20 x) (mx_z h n) (n + 1)) ∧
  (∀ (d : Nat) (x : Int) (l0 l1 l2 l3 l4 l5 l6 l7 l8 : Option mx_V) (S h : mx_H) (n : Int), mx_ex d 126 68 [l0, l1, l2, l3, l4, l5, l6, l7, l8] [(2, x)] S h n = mx_ex d 126 70 [l0, l1, l2, l3, l4, mx_nl l5, some (2, x), l7, l8] [] S h n) ∧
  (∀ (d : Nat) (l0 l1 l2 l3 l4 l5 l6 l7 l8 : Option mx_V) (S h : mx_H) (n : Int), mx_ex d 126 70 [l0, l1, l2, l3, l4, l5, l6, l7, l8] [] S h n = mx_ex d 126 71 [l0, l1, l2, l3, l4, l5, l6, l7, l8] [(0, 0)] S h n) ∧
  (∀ (d : Nat) (x : Int) (l0 l1 l2 l3 l4 l5 l6 l7 l8 : Option mx_V) (S h : mx_H) (n : Int), mx_ex d 126 71 [l0, l1, l2, l3, l4, l5, l6, l7, l8] [(0, x)] S h n = mx_ex d 126 73 [l0, l1, l2, l3, l4, l5, mx_nl l6, some (0, x), l8] [] S h n) ∧
  (∀ (d : Nat) (x : Int) (l0 l1 l2 l3 l4 l6 l7 l8 : Option mx_V) (v0 : mx_V) (S h : mx_H) (n : Int), mx_ex d 126 75 [l0, l1, l2, l3, l4, some (0, x), l6, l7, l8] [v0] S h n = mx_ex d 126 77 [l0, l1, l2, l3, l4, some (0, x), l6, l7, l8] [(0, x), v0] S h n) ∧
  (∀ (d : Nat) (b a : Int) (l0 l1 l2 l3 l4 l5 l6 l7 l8 : Option mx_V) (S h : mx_H) (n : Int), mx_ex d 126 77 [l0, l1, l2, l3, l4, l5, l6, l7, l8] [(0, b), (0, a)] S h n = mx_br (a < b) d 126 80 129 [l0, l1, l2, l3, l4, l5, l6, l7, l8] [] S h n) ∧
  (∀ (d : Nat) (x : Int) (l0 l1 l2 l4 l5 l6 l7 l8 : Option mx_V) (S h : mx_H) (n : Int), mx_ex d 126 80 [l0, l1, l2, some (2, x), l4, l5, l6, l7, l8] [] S h n = mx_ex d 126 81 [l0, l1, l2, some (2, x), l4, l5, l6, l7, l8] [(2, x)] S h n) ∧
  (∀ (d : Nat) (x : Int) (l0 l1 l2 l3 l4 l6 l7 l8 : Option mx_V) (v0 : mx_V) (S h : mx_H) (n : Int), mx_ex d 126 81 [l0, l1, l2, l3, l4, some (0, x), l6, l7, l8] [v0] S h n = mx_ex d 126 83 [l0, l1, l2, l3, l4, some (0, x), l6, l7, l8] [(0, x), v0] S h n) ∧
  (∀ (d : Nat) (l0 l1 l2 l3 l4 l5 l6 l7 l8 : Option mx_V) (v0 v1 : mx_V) (S h : mx_H) (n : Int), mx_ex d 126 83 [l0, l1, l2, l3, l4, l5, l6, l7, l8] [v0, v1] S h n = mx_ex d 126 84 [l0, l1, l2, l3, l4, l5, l6, l7, l8] [(0, 1), v0, v1] S h n) ∧
  (∀ (d : Nat) (b a : Int) (l0 l1 l2 l3 l4 l5 l6 l7 l8 : Option mx_V) (v2 : mx_V) (S h : mx_H) (n : Int), mx_ex d 126 84 [l0, l1, l2, l3, l4, l5, l6, l7, l8] [(0, b), (0, a), v2] S h n = mx_ex d 126 85 [l0, l1, l2, l3, l4, l5, l6, l7, l8] [(0, mx_w (a - b)), v2] S h n) ∧
  (∀ (d : Nat) (x : Int) (l0 l1 l2 l3 l4 l5 l6 l8 : Option mx_V) (v0 v1 : mx_V) (S h : mx_H) (n : Int), mx_ex d 126 85 [l0, l1, l2, l3, l4, l5, l6, some (0, x), l8] [v0, v1] S h n = mx_ex d 126 87 [l0, l1, l2, l3, l4, l5, l6, some (0, x), l8] [(0, x), v0, v1] S h n) ∧
  (∀ (d : Nat) (b a : Int) (l0 l1 l2 l3 l4 l5 l6 l7 l8 : Option mx_V) (v2 : mx_V) (S h : mx_H) (n : Int), mx_ex d 126 87 [l0, l1, l2, l3, l4, l5, l6, l7, l8] [(0, b), (0, a), v2] S h n = mx_ex d 126 88 [l0, l1, l2, l3, l4, l5, l6, l7, l8] [(0, mx_w (a - b)), v2] S h n) ∧
  (∀ (d : Nat) (x0 a : Int) (l0 l1 l2 l3 l4 l5 l6 l7 l8 : Option mx_V) (S h : mx_H) (n : Int), mx_ex (d + 1) 126 88 [l0, l1, l2, l3, l4, l5, l6, l7, l8] [(0, x0), (2, a)] S h n = mx_cl (1 ≤ S a (-2) ∧ S a (-2) ≤ 6) d 41 [(2, a), (0, x0)] 126 91 [l0, l1, l2, l3, l4, l5, l6, l7, l8] [] S h n) ∧
  (∀ (d : Nat) (x : Int) (l0 l1 l2 l3 l5 l6 l7 l8 : Option mx_V) (v0 : mx_V) (S h : mx_H) (n : Int), mx_ex d 126 91 [l0, l1, l2, l3, some (2, x), l5, l6, l7, l8] [v0] S h n = mx_ex d 126 93 [l0, l1, l2, l3, some (2, x), l5, l6, l7, l8] [(2, x), v0] S h n) ∧
  (∀ (d : Nat) (x : Int) (l0 l1 l2 l3 l4 l6 l7 l8 : Option mx_V) (v0 v1 : mx_V) (S h : mx_H) (n : Int), mx_ex d 126 93 [l0, l1, l2, l3, l4, some (0, x), l6, l7, l8] [v0, v1] S h n = mx_ex d 126 95 [l0, l1, l2, l3, l4, some (0, x), l6, l7, l8] [(0, x), v0, v1] S h n) ∧
  (∀ (d : Nat) (l0 l1 l2 l3 l4 l5 l6 l7 l8 : Option mx_V) (v0 v1 v2 : mx_V) (S h : mx_H) (n : Int), mx_ex d 126 95 [l0, l1, l2, l3, l4, l5, l6, l7, l8] [v0, v1, v2] S h n = mx_ex d 126 96 [l0, l1, l2, l3, l4, l5, l6, l7, l8] [(0, 1), v0, v1, v2] S h n) ∧
  (∀ (d : Nat) (b a : Int) (l0 l1 l2 l3 l4 l5 l6 l7 l8 : Option mx_V) (v2 v3 : mx_V) (S h : mx_H) (n : Int), mx_ex d 126 96 [l0, l1, l2, l3, l4, l5, l6, l7, l8] [(0, b), (0, a), v2, v3] S h n = mx_ex d 126 97 [l0, l1, l2, l3, l4, l5, l6, l7, l8] [(0, mx_w (a - b)), v2, v3] S h n) ∧
  (∀ (d : Nat) (x : Int) (l0 l1 l2 l3 l4 l5 l6 l8 : Option mx_V) (v0 v1 v2 : mx_V) (S h : mx_H) (n : Int), mx_ex d 126 97 [l0, l1, l2, l3, l4, l5, l6, some (0, x), l8] [v0, v1, v2] S h n = mx_ex d 126 99 [l0, l1, l2, l3, l4, l5, l6, some (0, x), l8] [(0, x), v0, v1, v2] S h n) ∧
  (∀ (d : Nat) (b a : Int) (l0 l1 l2 l3 l4 l5 l6 l7 l8 : Option mx_V) (v2 v3 : mx_V) (S h : mx_H) (n : Int), mx_ex d 126 99 [l0, l1, l2, l3, l4, l5, l6, l7, l8] [(0, b), (0, a), v2, v3] S h n = mx_ex d 126 100 [l0, l1, l2, l3, l4, l5, l6, l7, l8] [(0, mx_w (a - b)), v2, v3] S h n) ∧
  (∀ (d : Nat) (x0 a : Int) (l0 l1 l2 l3 l4 l5 l6 l7 l8 : Option mx_V) (v2 : mx_V) (S h : mx_H) (n : Int), mx_ex (d + 1) 126 100 [l0, l1, l2, l3, l4, l5, l6, l7, l8] [(0, x0), (2, a), v2] S h n = mx_cl (1 ≤ S a (-2) ∧ S a (-2) ≤ 6) d 41 [(2, a), (0, x0)] 126 103 [l0, l1, l2, l3, l4, l5, l6, l7, l8] [v2] S h n) ∧
  (∀ (d : Nat) (b a : Int) (l0 l1 l2 l3 l4 l5 l6 l7 l8 : Option mx_V) (S h : mx_H) (n : Int), mx_ex d 126 103 [l0, l1, l2, l3, l4, l5, l6, l7, l8] [(0, b), (0, a)] S h n = mx_ex d 126 104 [l0, l1, l2, l3, l4, l5, l6, l7, l8] [(0, mx_w (a + b))] S h n) ∧
  (∀ (d : Nat) (x : Int) (l0 l1 l2 l3 l4 l5 l6 l7 l8 : Option mx_V) (S h : mx_H) (n : Int), mx_ex d 126 104 [l0, l1, l2, l3, l4, l5, l6, l7, l8] [(0, x)] S h n = mx_ex d 126 106 [l0, l1, l2, l3, l4, l5, l6, mx_nl l7, some (0, x)] [] S h n) ∧
  (∀ (d : Nat) (x : Int) (l0 l1 l2 l3 l4 l5 l6 l7 : Option mx_V) (S h : mx_H) (n : Int), mx_ex d 126 106 [l0, l1, l2, l3, l4, l5, l6, l7, some (0, x)] [] S h n = mx_ex d 126 108 [l0, l1, l2, l3, l4, l5, l6, l7, some (0, x)] [(0, x)] S h n) ∧
  (∀ (d : Nat) (l0 l1 l2 l3 l4 l5 l6 l7 l8 : Option mx_V) (v0 : mx_V) (S h : mx_H) (n : Int), mx_ex d 126 108 [l0, l1, l2, l3, l4, l5, l6, l7, l8] [v0] S h n = mx_ex d 126 110 [l0, l1, l2, l3, l4, l5, l6, l7, l8] [(0, 15), v0] S h n) ∧
  (∀ (d : Nat) (b a : Int) (l0 l1 l2 l3 l4 l5 l6 l7 l8 : Option mx_V) (S h : mx_H) (n : Int), mx_ex d 126 110 [l0, l1, l2, l3, l4, l5, l6, l7, l8] [(0, b), (0, a)] S h n = mx_br (b < a) d 126 113 116 [l0, l1, l2, l3, l4, l5, l6, l7, l8] [] S h n) ∧
  (∀ (d : Nat) (l0 l1 l2 l3 l4 l5 l6 l7 l8 : Option mx_V) (S h : mx_H) (n : Int), mx_ex d 126 113 [l0, l1, l2, l3, l4, l5, l6, l7, l8] [] S h n = mx_ex d 126 115 [l0, l1, l2, l3, l4, l5, l6, l7, l8] [(0, (-4))] S h n) ∧
  (∀ (d : Nat) (x : Int) (l0 l1 l2 l3 l4 l5 l6 l7 l8 : Option mx_V) (S h : mx_H) (n : Int), mx_ex d 126 115 [l0, l1, l2, l3, l4, l5, l6, l7, l8] [(0, x)] S h n = some (some (0, x), S, h, n)) ∧
  (∀ (d : Nat) (x : Int) (l0 l1 l2 l3 l4 l5 l7 l8 : Option mx_V) (S h : mx_H) (n : Int), mx_ex d 126 116 [l0, l1, l2, l3, l4, l5, some (2, x), l7, l8] [] S h n = mx_ex d 126 118 [l0, l1, l2, l3, l4, l5, some (2, x), l7, l8] [(2, x)] S h n) ∧
  (∀ (d : Nat) (x : Int) (l0 l1 l2 l3 l4 l5 l6 l8 : Option mx_V) (v0 : mx_V) (S h : mx_H) (n : Int), mx_ex d 126 118 [l0, l1, l2, l3, l4, l5, l6, some (0, x), l8] [v0] S h n = mx_ex d 126 120 [l0, l1, l2, l3, l4, l5, l6, some (0, x), l8] [(0, x), v0] S h n) ∧
  (∀ (d : Nat) (x : Int) (l0 l1 l2 l3 l4 l5 l6 l7 : Option mx_V) (v0 v1 : mx_V) (S h : mx_H) (n : Int), mx_ex d 126 120 [l0, l1, l2, l3, l4, l5, l6, l7, some (0, x)] [v0, v1] S h n = mx_ex d 126 122 [l0, l1, l2, l3, l4, l5, l6, l7, some (0, x)] [(0, x), v0, v1] S h n) ∧
  (∀ (d : Nat) (v i a : Int) (l0 l1 l2 l3 l4 l5 l6 l7 l8 : Option mx_V) (S h : mx_H) (n : Int), mx_ex d 126 122 [l0, l1, l2, l3, l4, l5, l6, l7, l8] [(0, v), (0, i), (2, a)] S h n = mx_gd (S a (-2) = 20 ∧ 0 ≤ i ∧ i < S a (-1)) d 126 123 [l0, l1, l2, l3, l4, l5, l6, l7, l8] [] S (mx_u h a i v) n) ∧
  (∀ (d : Nat) (x : Int) (l0 l1 l2 l3 l4 l5 l6 l8 : Option mx_V) (S h : mx_H) (n : Int), mx_ex d 126 123 [l0, l1, l2, l3, l4, l5, l6, some (0, x), l8] [] S h n = mx_ex d 126 126 [l0, l1, l2, l3, l4, l5, mx_nl l6, some (0, mx_w (x + 1)), l8] [] S h n) ∧
  (∀ (d : Nat) (l0 l1 l2 l3 l4 l5 l6 l7 l8 : Option mx_V) (S h : mx_H) (n : Int), mx_ex d 126 126 [l0, l1, l2, l3, l4, l5, l6, l7, l8] [] S h n = mx_ex d 126 73 [l0, l1, l2, l3, l4, l5, l6, l7, l8] [] S h n) ∧
  (∀ (d : Nat) (x : Int) (l1 l2 l3 l4 l5 l6 l7 l8 : Option mx_V) (S h : mx_H) (n : Int), mx_ex d 126 129 [some (2, x), l1, l2, l3, l4, l5, l6, l7, l8] [] S h n = mx_ex d 126 130 [some (2, x), l1, l2, l3, l4, l5, l6, l7, l8] [(2, x)] S h n) ∧
  (∀ (d : Nat) (a : Int) (l0 l1 l2 l3 l4 l5 l6 l7 l8 : Option mx_V) (S h : mx_H) (n : Int), mx_ex d 126 130 [l0, l1, l2, l3, l4, l5, l6, l7, l8] [(2, a)] S h n = mx_gd (7 ≤ S a (-2) ∧ S a (-2) ≤ 7) d 126 133 [l0, l1, l2, l3, l4, l5, l6, l7, l8] [(2, S a 3)] S h n) ∧
  (∀ (d : Nat) (a : Int) (l0 l1 l2 l3 l4 l5 l6 l7 l8 : Option mx_V) (S h : mx_H) (n : Int), mx_ex d 126 133 [l0, l1, l2, l3, l4, l5, l6, l7, l8] [(2, a)] S h n = mx_gd (8 ≤ S a (-2) ∧ S a (-2) ≤ 8) d 126 136 [l0, l1, l2, l3, l4, l5, l6, l7, l8] [(0, h a 3)] S h n) :=
  ⟨by intros; exact rfl,
   by intros; exact eq_ld rfl rfl,
   by intros; exact eq_gr rfl,
   by intros; exact eq_ld rfl rfl,
   by intros; exact eq_cv rfl (Nat.le_of_ble_eq_true rfl) rfl rfl rfl (Nat.le_of_ble_eq_true rfl),
   by intros; exact eq_st rfl (by decide) (Nat.le_of_ble_eq_true rfl) rfl,
   by intros; exact eq_ld rfl rfl,
   by intros; exact eq_gr rfl,
   by intros; exact eq_ld rfl rfl,
   by intros; exact eq_cv rfl (Nat.le_of_ble_eq_true rfl) rfl rfl rfl (Nat.le_of_ble_eq_true rfl),
   by intros; exact eq_st rfl (by decide) (Nat.le_of_ble_eq_true rfl) rfl,
   by intros; exact eq_ld rfl rfl,
   by intros; exact eq_nul rfl,
   by intros; exact eq_ld rfl rfl,
   by intros; exact eq_nul rfl,
   by intros; exact eq_push rfl,
   by intros; exact eq_ret rfl,
   by intros; exact eq_ld rfl rfl,
   by intros; exact eq_cu rfl (Nat.le_of_ble_eq_true rfl) rfl rfl rfl (Nat.le_of_ble_eq_true rfl),
   by intros; exact eq_if1 rfl,
   by intros; exact eq_ld rfl rfl,
   by intros; exact eq_cu rfl (Nat.le_of_ble_eq_true rfl) rfl rfl rfl (Nat.le_of_ble_eq_true rfl),
   by intros; exact eq_if0 rfl,
   by intros; exact eq_push rfl,
   by intros; exact eq_ret rfl,
   by intros; exact eq_ld rfl rfl,
   by intros; exact eq_gr rfl,
   by intros; exact eq_alen rfl,
   by intros; exact eq_ld rfl rfl,
   by intros; exact eq_gr rfl,
   by intros; exact eq_alen rfl,
   by intros; exact eq_m2 (o := mx_max) rfl (Nat.le_of_ble_eq_true rfl),
   by intros; exact eq_st rfl (by decide) (Nat.le_of_ble_eq_true rfl) rfl,
   by intros; exact eq_ld rfl rfl,
   by intros; exact eq_newa rfl,
   by intros; exact eq_st rfl (by decide) (Nat.le_of_ble_eq_true rfl) rfl,
   by intros; exact eq_push rfl,
   by intros; exact eq_st rfl (by decide) (Nat.le_of_ble_eq_true rfl) rfl,
   by intros; exact eq_ld rfl rfl,
   by intros; exact eq_ic3 rfl,
   by intros; exact eq_ld rfl rfl,
   by intros; exact eq_ld rfl rfl,
   by intros; exact eq_push rfl,
   by intros; exact eq_i2 (o := mx_sub) rfl,
   by intros; exact eq_ld rfl rfl,
   by intros; exact eq_i2 (o := mx_sub) rfl,
   by intros; exact eq_ci rfl (Nat.le_of_ble_eq_true rfl) rfl rfl rfl (Nat.le_of_ble_eq_true rfl),
   by intros; exact eq_ld rfl rfl,
   by intros; exact eq_ld rfl rfl,
   by intros; exact eq_push rfl,
   by intros; exact eq_i2 (o := mx_sub) rfl,
   by intros; exact eq_ld rfl rfl,
   by intros; exact eq_i2 (o := mx_sub) rfl,
   by intros; exact eq_ci rfl (Nat.le_of_ble_eq_true rfl) rfl rfl rfl (Nat.le_of_ble_eq_true rfl),
   by intros; exact eq_i2 (o := mx_add) rfl,
   by intros; exact eq_st rfl (by decide) (Nat.le_of_ble_eq_true rfl) rfl,
   by intros; exact eq_ld rfl rfl,
   by intros; exact eq_push rfl,
   by intros; exact eq_ic5 rfl,
   by intros; exact eq_push rfl,
   by intros; exact eq_ret rfl,
   by intros; exact eq_ld rfl rfl,
   by intros; exact eq_ld rfl rfl,
   by intros; exact eq_ld rfl rfl,
   by intros; exact eq_iast rfl,
   by intros; exact eq_inc rfl rfl rfl,
   by intros; exact eq_go rfl,
   by intros; exact eq_ld rfl rfl,
   by intros; exact eq_gr rfl,
   by intros; exact eq_gi rfl⟩
theorem rw_X11_add_1 :
  (∀ (d : Nat) (l0 l1 l2 l3 l4 l5 l6 l7 l8 : Option mx_V) (v0 : mx_V) (S h : mx_H) (n : Int), mx_ex d 126 136 [l0, l1, l2, l3, l4, l5, l6, l7, l8] [v0] S h n = mx_ex d 126 138 [l0, l1, l2, l3, l4, l5, l6, l7, l8] [(0, 6), v0] S h n) ∧
  (∀ (d : Nat) (b a : Int) (l0 l1 l2 l3 l4 l5 l6 l7 l8 : Option mx_V) (S h : mx_H) (n : Int), mx_ex d 126 138 [l0, l1, l2, l3, l4, l5, l6, l7, l8] [(0, b), (0, a)] S h n = mx_br (a < b) d 126 144 141 [l0, l1, l2, l3, l4, l5, l6, l7, l8] [] S h n) ∧
  (∀ (d : Nat) (l0 l1 l2 l3 l4 l5 l6 l7 l8 : Option mx_V) (S h : mx_H) (n : Int), mx_ex d 126 141 [l0, l1, l2, l3, l4, l5, l6, l7, l8] [] S h n = mx_ex d 126 143 [l0, l1, l2, l3, l4, l5, l6, l7, l8] [(0, (-2))] S h n) ∧
  (∀ (d : Nat) (x : Int) (l0 l1 l2 l3 l4 l5 l6 l7 l8 : Option mx_V) (S h : mx_H) (n : Int), mx_ex d 126 143 [l0, l1, l2, l3, l4, l5, l6, l7, l8] [(0, x)] S h n = some (some (0, x), S, h, n)) ∧
  (∀ (d : Nat) (x : Int) (l1 l2 l3 l4 l5 l6 l7 l8 : Option mx_V) (S h : mx_H) (n : Int), mx_ex d 126 144 [some (2, x), l1, l2, l3, l4, l5, l6, l7, l8] [] S h n = mx_ex d 126 145 [some (2, x), l1, l2, l3, l4, l5, l6, l7, l8] [(2, x)] S h n) ∧
  (∀ (d : Nat) (a : Int) (l0 l1 l2 l3 l4 l5 l6 l7 l8 : Option mx_V) (S h : mx_H) (n : Int), mx_ex d 126 145 [l0, l1, l2, l3, l4, l5, l6, l7, l8] [(2, a)] S h n = mx_gd (7 ≤ S a (-2) ∧ S a (-2) ≤ 7) d 126 148 [l0, l1, l2, l3, l4, l5, l6, l7, l8] [(2, S a 3)] S h n) ∧
  (∀ (d : Nat) (l0 l1 l2 l3 l4 l5 l6 l7 l8 : Option mx_V) (v0 : mx_V) (S h : mx_H) (n : Int), mx_ex d 126 148 [l0, l1, l2, l3, l4, l5, l6, l7, l8] [v0] S h n = mx_ex d 126 149 [l0, l1, l2, l3, l4, l5, l6, l7, l8] [(0, 0), v0] S h n) ∧
  (∀ (d : Nat) (x : Int) (l0 l1 l2 l4 l5 l6 l7 l8 : Option mx_V) (v0 v1 : mx_V) (S h : mx_H) (n : Int), mx_ex d 126 149 [l0, l1, l2, some (2, x), l4, l5, l6, l7, l8] [v0, v1] S h n = mx_ex d 126 150 [l0, l1, l2, some (2, x), l4, l5, l6, l7, l8] [(2, x), v0, v1] S h n) ∧
  (∀ (d : Nat) (a : Int) (l0 l1 l2 l3 l4 l5 l6 l7 l8 : Option mx_V) (v1 v2 : mx_V) (S h : mx_H) (n : Int), mx_ex d 126 150 [l0, l1, l2, l3, l4, l5, l6, l7, l8] [(2, a), v1, v2] S h n = mx_gd (1 ≤ S a (-2) ∧ S a (-2) ≤ 6) d 126 153 [l0, l1, l2, l3, l4, l5, l6, l7, l8] [(0, h a 3), v1, v2] S h n) ∧
  (∀ (d : Nat) (l0 l1 l2 l3 l4 l5 l6 l7 l8 : Option mx_V) (v0 v1 v2 : mx_V) (S h : mx_H) (n : Int), mx_ex d 126 153 [l0, l1, l2, l3, l4, l5, l6, l7, l8] [v0, v1, v2] S h n = mx_ex d 126 154 [l0, l1, l2, l3, l4, l5, l6, l7, l8] [(0, 0), v0, v1, v2] S h n) ∧
  (∀ (d : Nat) (x : Int) (l0 l1 l2 l3 l4 l5 l7 l8 : Option mx_V) (v0 v1 v2 v3 : mx_V) (S h : mx_H) (n : Int), mx_ex d 126 154 [l0, l1, l2, l3, l4, l5, some (2, x), l7, l8] [v0, v1, v2, v3] S h n = mx_ex d 126 156 [l0, l1, l2, l3, l4, l5, some (2, x), l7, l8] [(2, x), v0, v1, v2, v3] S h n) ∧
  (∀ (d : Nat) (x0 x1 x2 x3 a : Int) (l0 l1 l2 l3 l4 l5 l6 l7 l8 : Option mx_V) (S h : mx_H) (n : Int), mx_ex (d + 1) 126 156 [l0, l1, l2, l3, l4, l5, l6, l7, l8] [(2, x0), (0, x1), (0, x2), (0, x3), (2, a)] S h n = mx_cl (S a (-2) = 8) d 92 [(2, a), (0, x3), (0, x2), (0, x1), (2, x0)] 126 159 [l0, l1, l2, l3, l4, l5, l6, l7, l8] [] S h n) ∧
  (∀ (d : Nat) (x : Int) (l0 l1 l2 l3 l4 l5 l6 l7 l8 : Option mx_V) (S h : mx_H) (n : Int), mx_ex d 126 159 [l0, l1, l2, l3, l4, l5, l6, l7, l8] [(0, x)] S h n = some (some (0, x), S, h, n)) :=
  ⟨by intros; exact eq_push rfl,
   by intros; exact eq_ic2 rfl,
   by intros; exact eq_push rfl,
   by intros; exact eq_ret rfl,
   by intros; exact eq_ld rfl rfl,
   by intros; exact eq_gr rfl,
   by intros; exact eq_push rfl,
   by intros; exact eq_ld rfl rfl,
   by intros; exact eq_gi rfl,
   by intros; exact eq_push rfl,
   by intros; exact eq_ld rfl rfl,
   by intros; exact eq_cv rfl (Nat.le_of_ble_eq_true rfl) rfl rfl rfl (Nat.le_of_ble_eq_true rfl),
   by intros; exact eq_ret rfl⟩
theorem rw_X11_seed :
  (∀ (d : Nat) (a0 a1 : Int) (S h : mx_H) (n : Int), mx_M d 127 [(2, a0), (0, a1)] S h n = mx_ex d 127 0 [some (2, a0), some (0, a1), none] [] S h n) ∧
  (∀ (d : Nat) (x : Int) (l1 l2 : Option mx_V) (S h : mx_H) (n : Int), mx_ex d 127 0 [some (2, x), l1, l2] [] S h n = mx_ex d 127 1 [some (2, x), l1, l2] [(2, x)] S h n) ∧
  (∀ (d : Nat) (a : Int) (l0 l1 l2 : Option mx_V) (S h : mx_H) (n : Int), mx_ex d 127 1 [l0, l1, l2] [(2, a)] S h n = mx_gd (7 ≤ S a (-2) ∧ S a (-2) ≤ 7) d 127 4 [l0, l1, l2] [(0, h a 6)] S h n) ∧
  (∀ (d : Nat) (x : Int) (l0 l1 l2 : Option mx_V) (S h : mx_H) (n : Int), mx_ex d 127 4 [l0, l1, l2] [(0, x)] S h n = mx_ex d 127 5 [l0, mx_nl l1, some (0, x)] [] S h n) ∧
  (∀ (d : Nat) (x : Int) (l1 l2 : Option mx_V) (S h : mx_H) (n : Int), mx_ex d 127 5 [some (2, x), l1, l2] [] S h n = mx_ex d 127 6 [some (2, x), l1, l2] [(2, x)] S h n) ∧
  (∀ (d : Nat) (x : Int) (l0 l2 : Option mx_V) (v0 : mx_V) (S h : mx_H) (n : Int), mx_ex d 127 6 [l0, some (0, x), l2] [v0] S h n = mx_ex d 127 7 [l0, some (0, x), l2] [(0, x), v0] S h n) ∧
  (∀ (d : Nat) (v a : Int) (l0 l1 l2 : Option mx_V) (S h : mx_H) (n : Int), mx_ex d 127 7 [l0, l1, l2] [(0, v), (2, a)] S h n = mx_gd (7 ≤ S a (-2) ∧ S a (-2) ≤ 7) d 127 10 [l0, l1, l2] [] S (mx_u h a 6 v) n) ∧
  (∀ (d : Nat) (x : Int) (l0 l1 : Option mx_V) (S h : mx_H) (n : Int), mx_ex d 127 10 [l0, l1, some (0, x)] [] S h n = mx_ex d 127 11 [l0, l1, some (0, x)] [(0, x)] S h n) ∧
  (∀ (d : Nat) (x : Int) (l0 l1 l2 : Option mx_V) (S h : mx_H) (n : Int), mx_ex d 127 11 [l0, l1, l2] [(0, x)] S h n = some (some (0, x), S, h, n)) :=
  ⟨by intros; exact rfl,
   by intros; exact eq_ld rfl rfl,
   by intros; exact eq_gi rfl,
   by intros; exact eq_st rfl (by decide) (Nat.le_of_ble_eq_true rfl) rfl,
   by intros; exact eq_ld rfl rfl,
   by intros; exact eq_ld rfl rfl,
   by intros; exact eq_pi rfl,
   by intros; exact eq_ld rfl rfl,
   by intros; exact eq_ret rfl⟩
theorem rw_X11_guess :
  (∀ (d : Nat) (a0 : Int) (S h : mx_H) (n : Int), mx_M d 128 [(2, a0)] S h n = mx_ex d 128 0 [some (2, a0), none] [] S h n) ∧
  (∀ (d : Nat) (x : Int) (l1 : Option mx_V) (S h : mx_H) (n : Int), mx_ex d 128 0 [some (2, x), l1] [] S h n = mx_ex d 128 1 [some (2, x), l1] [(2, x)] S h n) ∧
  (∀ (d : Nat) (a : Int) (l0 l1 : Option mx_V) (S h : mx_H) (n : Int), mx_ex d 128 1 [l0, l1] [(2, a)] S h n = mx_gd (7 ≤ S a (-2) ∧ S a (-2) ≤ 7) d 128 4 [l0, l1] [(2, S a 2)] S h n) ∧
  (∀ (d : Nat) (a : Int) (l0 l1 : Option mx_V) (S h : mx_H) (n : Int), mx_ex (d + 1) 128 4 [l0, l1] [(2, a)] S h n = mx_cl (S a (-2) = 9) d 13 [(2, a)] 128 7 [l0, l1] [] S h n) ∧
  (∀ (d : Nat) (x : Int) (l0 l1 : Option mx_V) (S h : mx_H) (n : Int), mx_ex d 128 7 [l0, l1] [(0, x)] S h n = mx_ex d 128 8 [mx_nl l0, some (0, x)] [] S h n) ∧
  (∀ (d : Nat) (x : Int) (l0 : Option mx_V) (S h : mx_H) (n : Int), mx_ex d 128 8 [l0, some (0, x)] [] S h n = mx_ex d 128 9 [l0, some (0, x)] [(0, x)] S h n) ∧
  (∀ (d : Nat) (a : Int) (l0 l1 : Option mx_V) (S h : mx_H) (n : Int), mx_ex d 128 9 [l0, l1] [(0, a)] S h n = mx_br (0 < a) d 128 15 12 [l0, l1] [] S h n) ∧
  (∀ (d : Nat) (l0 l1 : Option mx_V) (S h : mx_H) (n : Int), mx_ex d 128 12 [l0, l1] [] S h n = mx_ex d 128 14 [l0, l1] [(0, (-3))] S h n) ∧
  (∀ (d : Nat) (x : Int) (l0 l1 : Option mx_V) (S h : mx_H) (n : Int), mx_ex d 128 14 [l0, l1] [(0, x)] S h n = some (some (0, x), S, h, n)) ∧
  (∀ (d : Nat) (x : Int) (l1 : Option mx_V) (S h : mx_H) (n : Int), mx_ex d 128 15 [some (2, x), l1] [] S h n = mx_ex d 128 16 [some (2, x), l1] [(2, x)] S h n) ∧
  (∀ (d : Nat) (x : Int) (l1 : Option mx_V) (v0 : mx_V) (S h : mx_H) (n : Int), mx_ex d 128 16 [some (2, x), l1] [v0] S h n = mx_ex d 128 17 [some (2, x), l1] [(2, x), v0] S h n) ∧
  (∀ (d : Nat) (a : Int) (l0 l1 : Option mx_V) (v1 : mx_V) (S h : mx_H) (n : Int), mx_ex d 128 17 [l0, l1] [(2, a), v1] S h n = mx_gd (7 ≤ S a (-2) ∧ S a (-2) ≤ 7) d 128 20 [l0, l1] [(0, h a 6), v1] S h n) ∧
  (∀ (d : Nat) (l0 l1 : Option mx_V) (v0 v1 : mx_V) (S h : mx_H) (n : Int), mx_ex d 128 20 [l0, l1] [v0, v1] S h n = mx_ex d 128 22 [l0, l1] [(0, 1103515245), v0, v1] S h n) ∧
  (∀ (d : Nat) (b a : Int) (l0 l1 : Option mx_V) (v2 : mx_V) (S h : mx_H) (n : Int), mx_ex d 128 22 [l0, l1] [(0, b), (0, a), v2] S h n = mx_ex d 128 23 [l0, l1] [(0, mx_w (a * b)), v2] S h n) ∧
  (∀ (d : Nat) (l0 l1 : Option mx_V) (v0 v1 : mx_V) (S h : mx_H) (n : Int), mx_ex d 128 23 [l0, l1] [v0, v1] S h n = mx_ex d 128 26 [l0, l1] [(0, 12345), v0, v1] S h n) ∧
  (∀ (d : Nat) (b a : Int) (l0 l1 : Option mx_V) (v2 : mx_V) (S h : mx_H) (n : Int), mx_ex d 128 26 [l0, l1] [(0, b), (0, a), v2] S h n = mx_ex d 128 27 [l0, l1] [(0, mx_w (a + b)), v2] S h n) ∧
  (∀ (d : Nat) (v a : Int) (l0 l1 : Option mx_V) (S h : mx_H) (n : Int), mx_ex d 128 27 [l0, l1] [(0, v), (2, a)] S h n = mx_gd (7 ≤ S a (-2) ∧ S a (-2) ≤ 7) d 128 30 [l0, l1] [] S (mx_u h a 6 v) n) ∧
  (∀ (d : Nat) (x : Int) (l1 : Option mx_V) (S h : mx_H) (n : Int), mx_ex d 128 30 [some (2, x), l1] [] S h n = mx_ex d 128 31 [some (2, x), l1] [(2, x)] S h n) ∧
  (∀ (d : Nat) (a : Int) (l0 l1 : Option mx_V) (S h : mx_H) (n : Int), mx_ex d 128 31 [l0, l1] [(2, a)] S h n = mx_gd (7 ≤ S a (-2) ∧ S a (-2) ≤ 7) d 128 34 [l0, l1] [(0, h a 6)] S h n) ∧
  (∀ (d : Nat) (l0 l1 : Option mx_V) (v0 : mx_V) (S h : mx_H) (n : Int), mx_ex d 128 34 [l0, l1] [v0] S h n = mx_ex d 128 36 [l0, l1] [(0, 16), v0] S h n) ∧
  (∀ (d : Nat) (b a : Int) (l0 l1 : Option mx_V) (S h : mx_H) (n : Int), mx_ex d 128 36 [l0, l1] [(0, b), (0, a)] S h n = mx_ex d 128 37 [l0, l1] [(0, mx_ush a b)] S h n) ∧
  (∀ (d : Nat) (x : Int) (l0 : Option mx_V) (v0 : mx_V) (S h : mx_H) (n : Int), mx_ex d 128 37 [l0, some (0, x)] [v0] S h n = mx_ex d 128 38 [l0, some (0, x)] [(0, x), v0] S h n) ∧
  (∀ (d : Nat) (b a : Int) (l0 l1 : Option mx_V) (S h : mx_H) (n : Int), mx_ex d 128 38 [l0, l1] [(0, b), (0, a)] S h n = mx_gd (¬ b = 0) d 128 39 [l0, l1] [(0, Int.tmod a b)] S h n) ∧
  (∀ (d : Nat) (x : Int) (l0 l1 : Option mx_V) (S h : mx_H) (n : Int), mx_ex d 128 39 [l0, l1] [(0, x)] S h n = some (some (0, x), S, h, n)) :=
  ⟨by intros; exact rfl,
   by intros; exact eq_ld rfl rfl,
   by intros; exact eq_gr rfl,
   by intros; exact eq_cv rfl (Nat.le_of_ble_eq_true rfl) rfl rfl rfl (Nat.le_of_ble_eq_true rfl),
   by intros; exact eq_st rfl (by decide) (Nat.le_of_ble_eq_true rfl) rfl,
   by intros; exact eq_ld rfl rfl,
   by intros; exact eq_if4 rfl,
   by intros; exact eq_push rfl,
   by intros; exact eq_ret rfl,
   by intros; exact eq_ld rfl rfl,
   by intros; exact eq_ld rfl rfl,
   by intros; exact eq_gi rfl,
   by intros; exact eq_push rfl,
   by intros; exact eq_i2 (o := mx_mul) rfl,
   by intros; exact eq_push rfl,
   by intros; exact eq_i2 (o := mx_add) rfl,
   by intros; exact eq_pi rfl,
   by intros; exact eq_ld rfl rfl,
   by intros; exact eq_gi rfl,
   by intros; exact eq_push rfl,
   by intros; exact eq_i2 (o := mx_ush) rfl,
   by intros; exact eq_ld rfl rfl,
   by intros; exact eq_i2d (o := mx_rem) rfl,
   by intros; exact eq_ret rfl⟩
theorem rh_X11_prove_27 : ∀ (d : Nat) (x : Int) (l0 l1 l3 l4 : Option mx_V) (S h : mx_H) (n : Int), mx_ex d 129 27 [l0, l1, some (0, x), l3, l4] [] S h n = mx_ex d 129 28 [l0, l1, some (0, x), l3, l4] [(0, x)] S h n := by intros; exact eq_ld rfl rfl
theorem rw_X11_prove :
  (∀ (d : Nat) (a0 a1 : Int) (S h : mx_H) (n : Int), mx_M d 129 [(2, a0), (0, a1)] S h n = mx_ex d 129 0 [some (2, a0), some (0, a1), none, none, none] [] S h n) ∧
  (∀ (d : Nat) (x : Int) (l1 l2 l3 l4 : Option mx_V) (S h : mx_H) (n : Int), mx_ex d 129 0 [some (2, x), l1, l2, l3, l4] [] S h n = mx_ex d 129 1 [some (2, x), l1, l2, l3, l4] [(2, x)] S h n) ∧
  (∀ (d : Nat) (a : Int) (l0 l1 l2 l3 l4 : Option mx_V) (S h : mx_H) (n : Int), mx_ex d 129 1 [l0, l1, l2, l3, l4] [(2, a)] S h n = mx_gd (7 ≤ S a (-2) ∧ S a (-2) ≤ 7) d 129 4 [l0, l1, l2, l3, l4] [(2, S a 2)] S h n) ∧
  (∀ (d : Nat) (x : Int) (l0 l2 l3 l4 : Option mx_V) (v0 : mx_V) (S h : mx_H) (n : Int), mx_ex d 129 4 [l0, some (0, x), l2, l3, l4] [v0] S h n = mx_ex d 129 5 [l0, some (0, x), l2, l3, l4] [(0, x), v0] S h n) ∧
  (∀ (d : Nat) (x0 a : Int) (l0 l1 l2 l3 l4 : Option mx_V) (S h : mx_H) (n : Int), mx_ex (d + 1) 129 5 [l0, l1, l2, l3, l4] [(0, x0), (2, a)] S h n = mx_cl (S a (-2) = 9) d 15 [(2, a), (0, x0)] 129 8 [l0, l1, l2, l3, l4] [] S h n) ∧
  (∀ (d : Nat) (a : Int) (l0 l1 l2 l3 l4 : Option mx_V) (S h : mx_H) (n : Int), mx_ex d 129 8 [l0, l1, l2, l3, l4] [(0, a)] S h n = mx_br (a = 0) d 129 11 14 [l0, l1, l2, l3, l4] [] S h n) ∧
  (∀ (d : Nat) (l0 l1 l2 l3 l4 : Option mx_V) (S h : mx_H) (n : Int), mx_ex d 129 11 [l0, l1, l2, l3, l4] [] S h n = mx_ex d 129 13 [l0, l1, l2, l3, l4] [(0, (-3))] S h n) ∧
  (∀ (d : Nat) (x : Int) (l0 l1 l2 l3 l4 : Option mx_V) (S h : mx_H) (n : Int), mx_ex d 129 13 [l0, l1, l2, l3, l4] [(0, x)] S h n = some (some (0, x), S, h, n)) ∧
  (∀ (d : Nat) (x : Int) (l1 l2 l3 l4 : Option mx_V) (S h : mx_H) (n : Int), mx_ex d 129 14 [some (2, x), l1, l2, l3, l4] [] S h n = mx_ex d 129 15 [some (2, x), l1, l2, l3, l4] [(2, x)] S h n) ∧
  (∀ (d : Nat) (x : Int) (l1 l2 l3 l4 : Option mx_V) (v0 : mx_V) (S h : mx_H) (n : Int), mx_ex d 129 15 [some (2, x), l1, l2, l3, l4] [v0] S h n = mx_ex d 129 16 [some (2, x), l1, l2, l3, l4] [(2, x), v0] S h n) ∧
  (∀ (d : Nat) (a : Int) (l0 l1 l2 l3 l4 : Option mx_V) (v1 : mx_V) (S h : mx_H) (n : Int), mx_ex d 129 16 [l0, l1, l2, l3, l4] [(2, a), v1] S h n = mx_gd (7 ≤ S a (-2) ∧ S a (-2) ≤ 7) d 129 19 [l0, l1, l2, l3, l4] [(2, S a 3), v1] S h n) ∧
  (∀ (d : Nat) (a : Int) (l0 l1 l2 l3 l4 : Option mx_V) (v1 : mx_V) (S h : mx_H) (n : Int), mx_ex d 129 19 [l0, l1, l2, l3, l4] [(2, a), v1] S h n = mx_gd (8 ≤ S a (-2) ∧ S a (-2) ≤ 8) d 129 22 [l0, l1, l2, l3, l4] [(0, h a 3), v1] S h n) ∧
  (∀ (d : Nat) (v a : Int) (l0 l1 l2 l3 l4 : Option mx_V) (S h : mx_H) (n : Int), mx_ex d 129 22 [l0, l1, l2, l3, l4] [(0, v), (2, a)] S h n = mx_gd (7 ≤ S a (-2) ∧ S a (-2) ≤ 7) d 129 25 [l0, l1, l2, l3, l4] [] S (mx_u h a 10 v) n) ∧
  (∀ (d : Nat) (l0 l1 l2 l3 l4 : Option mx_V) (S h : mx_H) (n : Int), mx_ex d 129 25 [l0, l1, l2, l3, l4] [] S h n = mx_ex d 129 26 [l0, l1, l2, l3, l4] [(0, 0)] S h n) ∧
  (∀ (d : Nat) (x : Int) (l0 l1 l2 l3 l4 : Option mx_V) (S h : mx_H) (n : Int), mx_ex d 129 26 [l0, l1, l2, l3, l4] [(0, x)] S h n = mx_ex d 129 27 [l0, mx_nl l1, some (0, x), l3, l4] [] S h n) ∧
  (∀ (d : Nat) (x : Int) (l1 l2 l3 l4 : Option mx_V) (v0 : mx_V) (S h : mx_H) (n : Int), mx_ex d 129 28 [some (2, x), l1, l2, l3, l4] [v0] S h n = mx_ex d 129 29 [some (2, x), l1, l2, l3, l4] [(2, x), v0] S h n) ∧
  (∀ (d : Nat) (a : Int) (l0 l1 l2 l3 l4 : Option mx_V) (v1 : mx_V) (S h : mx_H) (n : Int), mx_ex d 129 29 [l0, l1, l2, l3, l4] [(2, a), v1] S h n = mx_gd (7 ≤ S a (-2) ∧ S a (-2) ≤ 7) d 129 32 [l0, l1, l2, l3, l4] [(0, h a 10), v1] S h n) ∧
  (∀ (d : Nat) (b a : Int) (l0 l1 l2 l3 l4 : Option mx_V) (S h : mx_H) (n : Int), mx_ex d 129 32 [l0, l1, l2, l3, l4] [(0, b), (0, a)] S h n = mx_br (a < b) d 129 35 111 [l0, l1, l2, l3, l4] [] S h n) ∧
  (∀ (d : Nat) (x : Int) (l1 l2 l3 l4 : Option mx_V) (S h : mx_H) (n : Int), mx_ex d 129 35 [some (2, x), l1, l2, l3, l4] [] S h n = mx_ex d 129 36 [some (2, x), l1, l2, l3, l4] [(2, x)] S h n) ∧
  (∀ (d : Nat) (a : Int) (l0 l1 l2 l3 l4 : Option mx_V) (S h : mx_H) (n : Int), mx_ex d 129 36 [l0, l1, l2, l3, l4] [(2, a)] S h n = mx_gd (7 ≤ S a (-2) ∧ S a (-2) ≤ 7) d 129 39 [l0, l1, l2, l3, l4] [(2, S a 3)] S h n) ∧
  (∀ (d : Nat) (x : Int) (l0 l1 l3 l4 : Option mx_V) (v0 : mx_V) (S h : mx_H) (n : Int), mx_ex d 129 39 [l0, l1, some (0, x), l3, l4] [v0] S h n = mx_ex d 129 40 [l0, l1, some (0, x), l3, l4] [(0, x), v0] S h n) ∧
  (∀ (d : Nat) (x0 a : Int) (l0 l1 l2 l3 l4 : Option mx_V) (S h : mx_H) (n : Int), mx_ex (d + 1) 129 40 [l0, l1, l2, l3, l4] [(0, x0), (2, a)] S h n = mx_cl (S a (-2) = 8) d 91 [(2, a), (0, x0)] 129 43 [l0, l1, l2, l3, l4] [] S h n) ∧
  (∀ (d : Nat) (x : Int) (l0 l1 l2 l3 l4 : Option mx_V) (S h : mx_H) (n : Int), mx_ex d 129 43 [l0, l1, l2, l3, l4] [(2, x)] S h n = mx_ex d 129 44 [l0, l1, mx_nl l2, some (2, x), l4] [] S h n) ∧
  (∀ (d : Nat) (x : Int) (l0 l1 l2 l4 : Option mx_V) (S h : mx_H) (n : Int), mx_ex d 129 44 [l0, l1, l2, some (2, x), l4] [] S h n = mx_ex d 129 45 [l0, l1, l2, some (2, x), l4] [(2, x)] S h n) ∧
  (∀ (d : Nat) (a : Int) (l0 l1 l2 l3 l4 : Option mx_V) (S h : mx_H) (n : Int), mx_ex d 129 45 [l0, l1, l2, l3, l4] [(2, a)] S h n = mx_br (a = -1) d 129 48 51 [l0, l1, l2, l3, l4] [] S h n) ∧
  (∀ (d : Nat) (l0 l1 l2 l3 l4 : Option mx_V) (S h : mx_H) (n : Int), mx_ex d 129 48 [l0, l1, l2, l3, l4] [] S h n = mx_ex d 129 105 [l0, l1, l2, l3, l4] [] S h n) ∧
  (∀ (d : Nat) (x : Int) (l1 l2 l3 l4 : Option mx_V) (S h : mx_H) (n : Int), mx_ex d 129 51 [some (2, x), l1, l2, l3, l4] [] S h n = mx_ex d 129 52 [some (2, x), l1, l2, l3, l4] [(2, x)] S h n) ∧
  (∀ (d : Nat) (a : Int) (l0 l1 l2 l3 l4 : Option mx_V) (S h : mx_H) (n : Int), mx_ex d 129 52 [l0, l1, l2, l3, l4] [(2, a)] S h n = mx_gd (7 ≤ S a (-2) ∧ S a (-2) ≤ 7) d 129 55 [l0, l1, l2, l3, l4] [(2, S a 2)] S h n) ∧
  (∀ (d : Nat) (a : Int) (l0 l1 l2 l3 l4 : Option mx_V) (S h : mx_H) (n : Int), mx_ex d 129 55 [l0, l1, l2, l3, l4] [(2, a)] S h n = mx_gd (9 ≤ S a (-2) ∧ S a (-2) ≤ 9) d 129 58 [l0, l1, l2, l3, l4] [(2, S a 1)] S h n) ∧
  (∀ (d : Nat) (x : Int) (l0 l1 l2 l4 : Option mx_V) (v0 : mx_V) (S h : mx_H) (n : Int), mx_ex d 129 58 [l0, l1, l2, some (2, x), l4] [v0] S h n = mx_ex d 129 59 [l0, l1, l2, some (2, x), l4] [(2, x), v0] S h n) ∧
  (∀ (d : Nat) (a : Int) (l0 l1 l2 l3 l4 : Option mx_V) (v1 : mx_V) (S h : mx_H) (n : Int), mx_ex d 129 59 [l0, l1, l2, l3, l4] [(2, a), v1] S h n = mx_gd (1 ≤ S a (-2) ∧ S a (-2) ≤ 6) d 129 62 [l0, l1, l2, l3, l4] [(0, h a 3), v1] S h n) ∧
  (∀ (d : Nat) (i a : Int) (l0 l1 l2 l3 l4 : Option mx_V) (S h : mx_H) (n : Int), mx_ex d 129 62 [l0, l1, l2, l3, l4] [(0, i), (2, a)] S h n = mx_gd ((S a (-2) = 20 ∨ S a (-2) = 24) ∧ 0 ≤ i ∧ i < S a (-1)) d 129 63 [l0, l1, l2, l3, l4] [(0, h a i)] S h n) ∧
  (∀ (d : Nat) (x : Int) (l0 l1 l2 l3 l4 : Option mx_V) (S h : mx_H) (n : Int), mx_ex d 129 63 [l0, l1, l2, l3, l4] [(0, x)] S h n = mx_ex d 129 65 [l0, l1, l2, mx_nl l3, some (0, x)] [] S h n) ∧
  (∀ (d : Nat) (x : Int) (l1 l2 l3 l4 : Option mx_V) (S h : mx_H) (n : Int), mx_ex d 129 65 [some (2, x), l1, l2, l3, l4] [] S h n = mx_ex d 129 66 [some (2, x), l1, l2, l3, l4] [(2, x)] S h n) ∧
  (∀ (d : Nat) (a : Int) (l0 l1 l2 l3 l4 : Option mx_V) (S h : mx_H) (n : Int), mx_ex d 129 66 [l0, l1, l2, l3, l4] [(2, a)] S h n = mx_gd (7 ≤ S a (-2) ∧ S a (-2) ≤ 7) d 129 69 [l0, l1, l2, l3, l4] [(2, S a 9)] S h n) ∧
  (∀ (d : Nat) (x : Int) (l0 l1 l3 l4 : Option mx_V) (v0 : mx_V) (S h : mx_H) (n : Int), mx_ex d 129 69 [l0, l1, some (0, x), l3, l4] [v0] S h n = mx_ex d 129 70 [l0, l1, some (0, x), l3, l4] [(0, x), v0] S h n) ∧
  (∀ (d : Nat) (l0 l1 l2 l3 l4 : Option mx_V) (v0 v1 : mx_V) (S h : mx_H) (n : Int), mx_ex d 129 70 [l0, l1, l2, l3, l4] [v0, v1] S h n = mx_ex d 129 71 [l0, l1, l2, l3, l4] [(0, 3), v0, v1] S h n) ∧
  (∀ (d : Nat) (b a : Int) (l0 l1 l2 l3 l4 : Option mx_V) (v2 : mx_V) (S h : mx_H) (n : Int), mx_ex d 129 71 [l0, l1, l2, l3, l4] [(0, b), (0, a), v2] S h n = mx_ex d 129 72 [l0, l1, l2, l3, l4] [(0, mx_w (a * b)), v2] S h n) ∧
  (∀ (d : Nat) (x : Int) (l0 l1 l3 l4 : Option mx_V) (v0 v1 : mx_V) (S h : mx_H) (n : Int), mx_ex d 129 72 [l0, l1, some (0, x), l3, l4] [v0, v1] S h n = mx_ex d 129 73 [l0, l1, some (0, x), l3, l4] [(0, x), v0, v1] S h n) ∧
  (∀ (d : Nat) (a : Int) (l0 l1 l2 l3 l4 : Option mx_V) (v1 v2 : mx_V) (S h : mx_H) (n : Int), mx_ex d 129 73 [l0, l1, l2, l3, l4] [(0, a), v1, v2] S h n = mx_ex d 129 74 [l0, l1, l2, l3, l4] [(1, a), v1, v2] S h n) ∧
  (∀ (d : Nat) (v i a : Int) (l0 l1 l2 l3 l4 : Option mx_V) (S h : mx_H) (n : Int), mx_ex d 129 74 [l0, l1, l2, l3, l4] [(1, v), (0, i), (2, a)] S h n = mx_gd (S a (-2) = 21 ∧ 0 ≤ i ∧ i < S a (-1)) d 129 75 [l0, l1, l2, l3, l4] [] S (mx_u h a i v) n) ∧
  (∀ (d : Nat) (x : Int) (l1 l2 l3 l4 : Option mx_V) (S h : mx_H) (n : Int), mx_ex d 129 75 [some (2, x), l1, l2, l3, l4] [] S h n = mx_ex d 129 76 [some (2, x), l1, l2, l3, l4] [(2, x)] S h n) ∧
  (∀ (d : Nat) (a : Int) (l0 l1 l2 l3 l4 : Option mx_V) (S h : mx_H) (n : Int), mx_ex d 129 76 [l0, l1, l2, l3, l4] [(2, a)] S h n = mx_gd (7 ≤ S a (-2) ∧ S a (-2) ≤ 7) d 129 79 [l0, l1, l2, l3, l4] [(2, S a 9)] S h n) ∧
  (∀ (d : Nat) (x : Int) (l0 l1 l3 l4 : Option mx_V) (v0 : mx_V) (S h : mx_H) (n : Int), mx_ex d 129 79 [l0, l1, some (0, x), l3, l4] [v0] S h n = mx_ex d 129 80 [l0, l1, some (0, x), l3, l4] [(0, x), v0] S h n) ∧
  (∀ (d : Nat) (l0 l1 l2 l3 l4 : Option mx_V) (v0 v1 : mx_V) (S h : mx_H) (n : Int), mx_ex d 129 80 [l0, l1, l2, l3, l4] [v0, v1] S h n = mx_ex d 129 81 [l0, l1, l2, l3, l4] [(0, 3), v0, v1] S h n) ∧
  (∀ (d : Nat) (b a : Int) (l0 l1 l2 l3 l4 : Option mx_V) (v2 : mx_V) (S h : mx_H) (n : Int), mx_ex d 129 81 [l0, l1, l2, l3, l4] [(0, b), (0, a), v2] S h n = mx_ex d 129 82 [l0, l1, l2, l3, l4] [(0, mx_w (a * b)), v2] S h n) ∧
  (∀ (d : Nat) (l0 l1 l2 l3 l4 : Option mx_V) (v0 v1 : mx_V) (S h : mx_H) (n : Int), mx_ex d 129 82 [l0, l1, l2, l3, l4] [v0, v1] S h n = mx_ex d 129 83 [l0, l1, l2, l3, l4] [(0, 1), v0, v1] S h n) ∧
  (∀ (d : Nat) (b a : Int) (l0 l1 l2 l3 l4 : Option mx_V) (v2 : mx_V) (S h : mx_H) (n : Int), mx_ex d 129 83 [l0, l1, l2, l3, l4] [(0, b), (0, a), v2] S h n = mx_ex d 129 84 [l0, l1, l2, l3, l4] [(0, mx_w (a + b)), v2] S h n) ∧
  (∀ (d : Nat) (x : Int) (l0 l1 l2 l3 : Option mx_V) (v0 v1 : mx_V) (S h : mx_H) (n : Int), mx_ex d 129 84 [l0, l1, l2, l3, some (0, x)] [v0, v1] S h n = mx_ex d 129 86 [l0, l1, l2, l3, some (0, x)] [(0, x), v0, v1] S h n) ∧
  (∀ (d : Nat) (a : Int) (l0 l1 l2 l3 l4 : Option mx_V) (v1 v2 : mx_V) (S h : mx_H) (n : Int), mx_ex d 129 86 [l0, l1, l2, l3, l4] [(0, a), v1, v2] S h n = mx_ex d 129 87 [l0, l1, l2, l3, l4] [(1, a), v1, v2] S h n) ∧
  (∀ (d : Nat) (v i a : Int) (l0 l1 l2 l3 l4 : Option mx_V) (S h : mx_H) (n : Int), mx_ex d 129 87 [l0, l1, l2, l3, l4] [(1, v), (0, i), (2, a)] S h n = mx_gd (S a (-2) = 21 ∧ 0 ≤ i ∧ i < S a (-1)) d 129 88 [l0, l1, l2, l3, l4] [] S (mx_u h a i v) n) ∧
  (∀ (d : Nat) (x : Int) (l1 l2 l3 l4 : Option mx_V) (S h : mx_H) (n : Int), mx_ex d 129 88 [some (2, x), l1, l2, l3, l4] [] S h n = mx_ex d 129 89 [some (2, x), l1, l2, l3, l4] [(2, x)] S h n) ∧
  (∀ (d : Nat) (a : Int) (l0 l1 l2 l3 l4 : Option mx_V) (S h : mx_H) (n : Int), mx_ex d 129 89 [l0, l1, l2, l3, l4] [(2, a)] S h n = mx_gd (7 ≤ S a (-2) ∧ S a (-2) ≤ 7) d 129 92 [l0, l1, l2, l3, l4] [(2, S a 9)] S h n) ∧
  (∀ (d : Nat) (x : Int) (l0 l1 l3 l4 : Option mx_V) (v0 : mx_V) (S h : mx_H) (n : Int), mx_ex d 129 92 [l0, l1, some (0, x), l3, l4] [v0] S h n = mx_ex d 129 93 [l0, l1, some (0, x), l3, l4] [(0, x), v0] S h n) ∧
  (∀ (d : Nat) (l0 l1 l2 l3 l4 : Option mx_V) (v0 v1 : mx_V) (S h : mx_H) (n : Int), mx_ex d 129 93 [l0, l1, l2, l3, l4] [v0, v1] S h n = mx_ex d 129 94 [l0, l1, l2, l3, l4] [(0, 3), v0, v1] S h n) ∧
  (∀ (d : Nat) (b a : Int) (l0 l1 l2 l3 l4 : Option mx_V) (v2 : mx_V) (S h : mx_H) (n : Int), mx_ex d 129 94 [l0, l1, l2, l3, l4] [(0, b), (0, a), v2] S h n = mx_ex d 129 95 [l0, l1, l2, l3, l4] [(0, mx_w (a * b)), v2] S h n) ∧
  (∀ (d : Nat) (l0 l1 l2 l3 l4 : Option mx_V) (v0 v1 : mx_V) (S h : mx_H) (n : Int), mx_ex d 129 95 [l0, l1, l2, l3, l4] [v0, v1] S h n = mx_ex d 129 96 [l0, l1, l2, l3, l4] [(0, 2), v0, v1] S h n) ∧
  (∀ (d : Nat) (b a : Int) (l0 l1 l2 l3 l4 : Option mx_V) (v2 : mx_V) (S h : mx_H) (n : Int), mx_ex d 129 96 [l0, l1, l2, l3, l4] [(0, b), (0, a), v2] S h n = mx_ex d 129 97 [l0, l1, l2, l3, l4] [(0, mx_w (a + b)), v2] S h n) ∧
  (∀ (d : Nat) (x : Int) (l0 l1 l2 l4 : Option mx_V) (v0 v1 : mx_V) (S h : mx_H) (n : Int), mx_ex d 129 97 [l0, l1, l2, some (2, x), l4] [v0, v1] S h n = mx_ex d 129 98 [l0, l1, l2, some (2, x), l4] [(2, x), v0, v1] S h n) ∧
  (∀ (d : Nat) (x : Int) (l0 l1 l2 l3 : Option mx_V) (v0 v1 v2 : mx_V) (S h : mx_H) (n : Int), mx_ex d 129 98 [l0, l1, l2, l3, some (0, x)] [v0, v1, v2] S h n = mx_ex d 129 100 [l0, l1, l2, l3, some (0, x)] [(0, x), v0, v1, v2] S h n) ∧
  (∀ (d : Nat) (x0 a : Int) (l0 l1 l2 l3 l4 : Option mx_V) (v2 v3 : mx_V) (S h : mx_H) (n : Int), mx_ex (d + 1) 129 100 [l0, l1, l2, l3, l4] [(0, x0), (2, a), v2, v3] S h n = mx_cu (mx_vt (S a (-2)) [(1, 43), (2, 56), (3, 3), (4, 3), (5, 82), (6, 9)]) d [(2, a), (0, x0)] 129 103 [l0, l1, l2, l3, l4] [v2, v3] S h n) ∧
  (∀ (d : Nat) (a : Int) (l0 l1 l2 l3 l4 : Option mx_V) (v1 v2 : mx_V) (S h : mx_H) (n : Int), mx_ex d 129 103 [l0, l1, l2, l3, l4] [(0, a), v1, v2] S h n = mx_ex d 129 104 [l0, l1, l2, l3, l4] [(1, a), v1, v2] S h n) ∧
  (∀ (d : Nat) (v i a : Int) (l0 l1 l2 l3 l4 : Option mx_V) (S h : mx_H) (n : Int), mx_ex d 129 104 [l0, l1, l2, l3, l4] [(1, v), (0, i), (2, a)] S h n = mx_gd (S a (-2) = 21 ∧ 0 ≤ i ∧ i < S a (-1)) d 129 105 [l0, l1, l2, l3, l4] [] S (mx_u h a i v) n) ∧
  (∀ (d : Nat) (x : Int) (l0 l1 l3 l4 : Option mx_V) (S h : mx_H) (n : Int), mx_ex d 129 105 [l0, l1, some (0, x), l3, l4] [] S h n = mx_ex d 129 108 [l0, mx_nl l1, some (0, mx_w (x + 1)), l3, l4] [] S h n) ∧
  (∀ (d : Nat) (l0 l1 l2 l3 l4 : Option mx_V) (S h : mx_H) (n : Int), mx_ex d 129 108 [l0, l1, l2, l3, l4] [] S h n = mx_ex d 129 27 [l0, l1, l2, l3, l4] [] S h n) ∧
  (∀ (d : Nat) (x : Int) (l1 l2 l3 l4 : Option mx_V) (S h : mx_H) (n : Int), mx_ex d 129 111 [some (2, x), l1, l2, l3, l4] [] S h n = mx_ex d 129 112 [some (2, x), l1, l2, l3, l4] [(2, x)] S h n) ∧
  (∀ (d : Nat) (a : Int) (l0 l1 l2 l3 l4 : Option mx_V) (S h : mx_H) (n : Int), mx_ex d 129 112 [l0, l1, l2, l3, l4] [(2, a)] S h n = mx_gd (7 ≤ S a (-2) ∧ S a (-2) ≤ 7) d 129 115 [l0, l1, l2, l3, l4] [(0, h a 10)] S h n) ∧
  (∀ (d : Nat) (x : Int) (l0 l1 l2 l3 l4 : Option mx_V) (S h : mx_H) (n : Int), mx_ex d 129 115 [l0, l1, l2, l3, l4] [(0, x)] S h n = some (some (0, x), S, h, n)) :=
  ⟨by intros; exact rfl,
   by intros; exact eq_ld rfl rfl,
   by intros; exact eq_gr rfl,
   by intros; exact eq_ld rfl rfl,
   by intros; exact eq_cv rfl (Nat.le_of_ble_eq_true rfl) rfl rfl rfl (Nat.le_of_ble_eq_true rfl),
   by intros; exact eq_if1 rfl,
   by intros; exact eq_push rfl,
   by intros; exact eq_ret rfl,
   by intros; exact eq_ld rfl rfl,
   by intros; exact eq_ld rfl rfl,
   by intros; exact eq_gr rfl,
   by intros; exact eq_gi rfl,
   by intros; exact eq_pi rfl,
   by intros; exact eq_push rfl,
   by intros; exact eq_st rfl (by decide) (Nat.le_of_ble_eq_true rfl) rfl,
   by intros; exact eq_ld rfl rfl,
   by intros; exact eq_gi rfl,
   by intros; exact eq_ic3 rfl,
   by intros; exact eq_ld rfl rfl,
   by intros; exact eq_gr rfl,
   by intros; exact eq_ld rfl rfl,
   by intros; exact eq_cv rfl (Nat.le_of_ble_eq_true rfl) rfl rfl rfl (Nat.le_of_ble_eq_true rfl),
   by intros; exact eq_st rfl (by decide) (Nat.le_of_ble_eq_true rfl) rfl,
   by intros; exact eq_ld rfl rfl,
   by intros; exact eq_nul rfl,
   by intros; exact eq_go rfl,
   by intros; exact eq_ld rfl rfl,
   by intros; exact eq_gr rfl,
   by intros; exact eq_gr rfl,
   by intros; exact eq_ld rfl rfl,
   by intros; exact eq_gi rfl,
   by intros; exact eq_iald rfl,
   by intros; exact eq_st rfl (by decide) (Nat.le_of_ble_eq_true rfl) rfl,
   by intros; exact eq_ld rfl rfl,
   by intros; exact eq_gr rfl,
   by intros; exact eq_ld rfl rfl,
   by intros; exact eq_push rfl,
   by intros; exact eq_i2 (o := mx_mul) rfl,
   by intros; exact eq_ld rfl rfl,
   by intros; exact eq_i2l rfl,
   by intros; exact eq_last rfl,
   by intros; exact eq_ld rfl rfl,
   by intros; exact eq_gr rfl,
   by intros; exact eq_ld rfl rfl,
   by intros; exact eq_push rfl,
   by intros; exact eq_i2 (o := mx_mul) rfl,
   by intros; exact eq_push rfl,
   by intros; exact eq_i2 (o := mx_add) rfl,
   by intros; exact eq_ld rfl rfl,
   by intros; exact eq_i2l rfl,
   by intros; exact eq_last rfl,
   by intros; exact eq_ld rfl rfl,
   by intros; exact eq_gr rfl,
   by intros; exact eq_ld rfl rfl,
   by intros; exact eq_push rfl,
   by intros; exact eq_i2 (o := mx_mul) rfl,
   by intros; exact eq_push rfl,
   by intros; exact eq_i2 (o := mx_add) rfl,
   by intros; exact eq_ld rfl rfl,
   by intros; exact eq_ld rfl rfl,
   by intros; exact eq_cu rfl (Nat.le_of_ble_eq_true rfl) rfl rfl rfl (Nat.le_of_ble_eq_true rfl),
   by intros; exact eq_i2l rfl,
   by intros; exact eq_last rfl,
   by intros; exact eq_inc rfl rfl rfl,
   by intros; exact eq_go rfl,
   by intros; exact eq_ld rfl rfl,
   by intros; exact eq_gi rfl,
   by intros; exact eq_ret rfl⟩
theorem rw_X11_row :
  (∀ (d : Nat) (a0 a1 a2 : Int) (S h : mx_H) (n : Int), mx_M d 130 [(2, a0), (0, a1), (0, a2)] S h n = mx_ex d 130 0 [some (2, a0), some (0, a1), some (0, a2)] [] S h n) ∧
  (∀ (d : Nat) (x : Int) (l1 l2 : Option mx_V) (S h : mx_H) (n : Int), mx_ex d 130 0 [some (2, x), l1, l2] [] S h n = mx_ex d 130 1 [some (2, x), l1, l2] [(2, x)] S h n) ∧
  (∀ (d : Nat) (x : Int) (l0 l2 : Option mx_V) (v0 : mx_V) (S h : mx_H) (n : Int), mx_ex d 130 1 [l0, some (0, x), l2] [v0] S h n = mx_ex d 130 2 [l0, some (0, x), l2] [(0, x), v0] S h n) ∧
  (∀ (d : Nat) (x : Int) (l0 l1 : Option mx_V) (v0 v1 : mx_V) (S h : mx_H) (n : Int), mx_ex d 130 2 [l0, l1, some (0, x)] [v0, v1] S h n = mx_ex d 130 3 [l0, l1, some (0, x)] [(0, x), v0, v1] S h n) ∧
  (∀ (d : Nat) (x0 x1 a : Int) (l0 l1 l2 : Option mx_V) (S h : mx_H) (n : Int), mx_ex (d + 1) 130 3 [l0, l1, l2] [(0, x0), (0, x1), (2, a)] S h n = mx_cl (S a (-2) = 7) d 144 [(2, a), (0, x1), (0, x0)] 130 6 [l0, l1, l2] [] S h n) ∧
  (∀ (d : Nat) (a : Int) (l0 l1 l2 : Option mx_V) (S h : mx_H) (n : Int), mx_ex d 130 6 [l0, l1, l2] [(0, a)] S h n = mx_br (a = 0) d 130 22 9 [l0, l1, l2] [] S h n) ∧
  (∀ (d : Nat) (x : Int) (l1 l2 : Option mx_V) (S h : mx_H) (n : Int), mx_ex d 130 9 [some (2, x), l1, l2] [] S h n = mx_ex d 130 10 [some (2, x), l1, l2] [(2, x)] S h n) ∧
  (∀ (d : Nat) (a : Int) (l0 l1 l2 : Option mx_V) (S h : mx_H) (n : Int), mx_ex d 130 10 [l0, l1, l2] [(2, a)] S h n = mx_gd (7 ≤ S a (-2) ∧ S a (-2) ≤ 7) d 130 13 [l0, l1, l2] [(2, S a 9)] S h n) ∧
  (∀ (d : Nat) (x : Int) (l0 l2 : Option mx_V) (v0 : mx_V) (S h : mx_H) (n : Int), mx_ex d 130 13 [l0, some (0, x), l2] [v0] S h n = mx_ex d 130 14 [l0, some (0, x), l2] [(0, x), v0] S h n) ∧
  (∀ (d : Nat) (l0 l1 l2 : Option mx_V) (v0 v1 : mx_V) (S h : mx_H) (n : Int), mx_ex d 130 14 [l0, l1, l2] [v0, v1] S h n = mx_ex d 130 15 [l0, l1, l2] [(0, 3), v0, v1] S h n) ∧
  (∀ (d : Nat) (b a : Int) (l0 l1 l2 : Option mx_V) (v2 : mx_V) (S h : mx_H) (n : Int), mx_ex d 130 15 [l0, l1, l2] [(0, b), (0, a), v2] S h n = mx_ex d 130 16 [l0, l1, l2] [(0, mx_w (a * b)), v2] S h n) ∧
  (∀ (d : Nat) (x : Int) (l0 l1 : Option mx_V) (v0 v1 : mx_V) (S h : mx_H) (n : Int), mx_ex d 130 16 [l0, l1, some (0, x)] [v0, v1] S h n = mx_ex d 130 17 [l0, l1, some (0, x)] [(0, x), v0, v1] S h n) ∧
  (∀ (d : Nat) (b a : Int) (l0 l1 l2 : Option mx_V) (v2 : mx_V) (S h : mx_H) (n : Int), mx_ex d 130 17 [l0, l1, l2] [(0, b), (0, a), v2] S h n = mx_ex d 130 18 [l0, l1, l2] [(0, mx_w (a + b)), v2] S h n) ∧
  (∀ (d : Nat) (i a : Int) (l0 l1 l2 : Option mx_V) (S h : mx_H) (n : Int), mx_ex d 130 18 [l0, l1, l2] [(0, i), (2, a)] S h n = mx_gd (S a (-2) = 21 ∧ 0 ≤ i ∧ i < S a (-1)) d 130 19 [l0, l1, l2] [(1, h a i)] S h n) ∧
  (∀ (d : Nat) (l0 l1 l2 : Option mx_V) (v0 : mx_V) (S h : mx_H) (n : Int), mx_ex d 130 19 [l0, l1, l2] [v0] S h n = mx_ex d 130 25 [l0, l1, l2] [v0] S h n) ∧
  (∀ (d : Nat) (l0 l1 l2 : Option mx_V) (S h : mx_H) (n : Int), mx_ex d 130 22 [l0, l1, l2] [] S h n = mx_ex d 130 25 [l0, l1, l2] [(1, (-1000000000000))] S h n) ∧
  (∀ (d : Nat) (x : Int) (l0 l1 l2 : Option mx_V) (S h : mx_H) (n : Int), mx_ex d 130 25 [l0, l1, l2] [(1, x)] S h n = some (some (1, x), S, h, n)) :=
  ⟨by intros; exact rfl,
   by intros; exact eq_ld rfl rfl,
   by intros; exact eq_ld rfl rfl,
   by intros; exact eq_ld rfl rfl,
   by intros; exact eq_cv rfl (Nat.le_of_ble_eq_true rfl) rfl rfl rfl (Nat.le_of_ble_eq_true rfl),
   by intros; exact eq_if0 rfl,
   by intros; exact eq_ld rfl rfl,
   by intros; exact eq_gr rfl,
   by intros; exact eq_ld rfl rfl,
   by intros; exact eq_push rfl,
   by intros; exact eq_i2 (o := mx_mul) rfl,
   by intros; exact eq_ld rfl rfl,
   by intros; exact eq_i2 (o := mx_add) rfl,
   by intros; exact eq_lald rfl,
   by intros; exact eq_go rfl,
   by intros; exact eq_push rfl,
   by intros; exact eq_ret rfl⟩
theorem rw_X11_alterRow :
  (∀ (d : Nat) (a0 a1 a2 a3 : Int) (S h : mx_H) (n : Int), mx_M d 131 [(2, a0), (0, a1), (0, a2), (1, a3)] S h n = mx_ex d 131 0 [some (2, a0), some (0, a1), some (0, a2), some (1, a3), none, none, none] [] S h n) ∧
  (∀ (d : Nat) (x : Int) (l1 l2 l3 l4 l5 l6 : Option mx_V) (S h : mx_H) (n : Int), mx_ex d 131 0 [some (2, x), l1, l2, l3, l4, l5, l6] [] S h n = mx_ex d 131 1 [some (2, x), l1, l2, l3, l4, l5, l6] [(2, x)] S h n) ∧
  (∀ (d : Nat) (x : Int) (l0 l2 l3 l4 l5 l6 : Option mx_V) (v0 : mx_V) (S h : mx_H) (n : Int), mx_ex d 131 1 [l0, some (0, x), l2, l3, l4, l5, l6] [v0] S h n = mx_ex d 131 2 [l0, some (0, x), l2, l3, l4, l5, l6] [(0, x), v0] S h n) ∧
  (∀ (d : Nat) (x : Int) (l0 l1 l3 l4 l5 l6 : Option mx_V) (v0 v1 : mx_V) (S h : mx_H) (n : Int), mx_ex d 131 2 [l0, l1, some (0, x), l3, l4, l5, l6] [v0, v1] S h n = mx_ex d 131 3 [l0, l1, some (0, x), l3, l4, l5, l6] [(0, x), v0, v1] S h n) ∧
  (∀ (d : Nat) (x0 x1 a : Int) (l0 l1 l2 l3 l4 l5 l6 : Option mx_V) (S h : mx_H) (n : Int), mx_ex (d + 1) 131 3 [l0, l1, l2, l3, l4, l5, l6] [(0, x0), (0, x1), (2, a)] S h n = mx_cl (S a (-2) = 7) d 144 [(2, a), (0, x1), (0, x0)] 131 6 [l0, l1, l2, l3, l4, l5, l6] [] S h n) ∧
  (∀ (d : Nat) (a : Int) (l0 l1 l2 l3 l4 l5 l6 : Option mx_V) (S h : mx_H) (n : Int), mx_ex d 131 6 [l0, l1, l2, l3, l4, l5, l6] [(0, a)] S h n = mx_br (a = 0) d 131 9 13 [l0, l1, l2, l3, l4, l5, l6] [] S h n) ∧
  (∀ (d : Nat) (l0 l1 l2 l3 l4 l5 l6 : Option mx_V) (S h : mx_H) (n : Int), mx_ex d 131 9 [l0, l1, l2, l3, l4, l5, l6] [] S h n = mx_ex d 131 12 [l0, l1, l2, l3, l4, l5, l6] [(1, (-1000000000000))] S h n) ∧
  (∀ (d : Nat) (x : Int) (l0 l1 l2 l3 l4 l5 l6 : Option mx_V) (S h : mx_H) (n : Int), mx_ex d 131 12 [l0, l1, l2, l3, l4, l5, l6] [(1, x)] S h n = some (some (1, x), S, h, n)) ∧
  (∀ (d : Nat) (x : Int) (l1 l2 l3 l4 l5 l6 : Option mx_V) (S h : mx_H) (n : Int), mx_ex d 131 13 [some (2, x), l1, l2, l3, l4, l5, l6] [] S h n = mx_ex d 131 14 [some (2, x), l1, l2, l3, l4, l5, l6] [(2, x)] S h n) ∧
  (∀ (d : Nat) (a : Int) (l0 l1 l2 l3 l4 l5 l6 : Option mx_V) (S h : mx_H) (n : Int), mx_ex d 131 14 [l0, l1, l2, l3, l4, l5, l6] [(2, a)] S h n = mx_gd (7 ≤ S a (-2) ∧ S a (-2) ≤ 7) d 131 17 [l0, l1, l2, l3, l4, l5, l6] [(2, S a 9)] S h n) ∧
  (∀ (d : Nat) (x : Int) (l0 l2 l3 l4 l5 l6 : Option mx_V) (v0 : mx_V) (S h : mx_H) (n : Int), mx_ex d 131 17 [l0, some (0, x), l2, l3, l4, l5, l6] [v0] S h n = mx_ex d 131 18 [l0, some (0, x), l2, l3, l4, l5, l6] [(0, x), v0] S h n) ∧
  (∀ (d : Nat) (l0 l1 l2 l3 l4 l5 l6 : Option mx_V) (v0 v1 : mx_V) (S h : mx_H) (n : Int), mx_ex d 131 18 [l0, l1, l2, l3, l4, l5, l6] [v0, v1] S h n = mx_ex d 131 19 [l0, l1, l2, l3, l4, l5, l6] [(0, 3), v0, v1] S h n) ∧
  (∀ (d : Nat) (b a : Int) (l0 l1 l2 l3 l4 l5 l6 : Option mx_V) (v2 : mx_V) (S h : mx_H) (n : Int), mx_ex d 131 19 [l0, l1, l2, l3, l4, l5, l6] [(0, b), (0, a), v2] S h n = mx_ex d 131 20 [l0, l1, l2, l3, l4, l5, l6] [(0, mx_w (a * b)), v2] S h n) ∧
  (∀ (d : Nat) (x : Int) (l0 l1 l3 l4 l5 l6 : Option mx_V) (v0 v1 : mx_V) (S h : mx_H) (n : Int), mx_ex d 131 20 [l0, l1, some (0, x), l3, l4, l5, l6] [v0, v1] S h n = mx_ex d 131 21 [l0, l1, some (0, x), l3, l4, l5, l6] [(0, x), v0, v1] S h n) ∧
  (∀ (d : Nat) (b a : Int) (l0 l1 l2 l3 l4 l5 l6 : Option mx_V) (v2 : mx_V) (S h : mx_H) (n : Int), mx_ex d 131 21 [l0, l1, l2, l3, l4, l5, l6] [(0, b), (0, a), v2] S h n = mx_ex d 131 22 [l0, l1, l2, l3, l4, l5, l6] [(0, mx_w (a + b)), v2] S h n) ∧
  (∀ (d : Nat) (i a : Int) (l0 l1 l2 l3 l4 l5 l6 : Option mx_V) (S h : mx_H) (n : Int), mx_ex d 131 22 [l0, l1, l2, l3, l4, l5, l6] [(0, i), (2, a)] S h n = mx_gd (S a (-2) = 21 ∧ 0 ≤ i ∧ i < S a (-1)) d 131 23 [l0, l1, l2, l3, l4, l5, l6] [(1, h a i)] S h n) ∧
  (∀ (d : Nat) (x : Int) (l0 l1 l2 l3 l4 l5 l6 : Option mx_V) (S h : mx_H) (n : Int), mx_ex d 131 23 [l0, l1, l2, l3, l4, l5, l6] [(1, x)] S h n = mx_ex d 131 25 [l0, l1, l2, l3, mx_nl l4, some (1, x), none] [] S h n) ∧
  (∀ (d : Nat) (x : Int) (l1 l2 l3 l4 l5 l6 : Option mx_V) (S h : mx_H) (n : Int), mx_ex d 131 25 [some (2, x), l1, l2, l3, l4, l5, l6] [] S h n = mx_ex d 131 26 [some (2, x), l1, l2, l3, l4, l5, l6] [(2, x)] S h n) ∧
  (∀ (d : Nat) (a : Int) (l0 l1 l2 l3 l4 l5 l6 : Option mx_V) (S h : mx_H) (n : Int), mx_ex d 131 26 [l0, l1, l2, l3, l4, l5, l6] [(2, a)] S h n = mx_gd (7 ≤ S a (-2) ∧ S a (-2) ≤ 7) d 131 29 [l0, l1, l2, l3, l4, l5, l6] [(2, S a 9)] S h n) ∧
  (∀ (d : Nat) (x : Int) (l0 l2 l3 l4 l5 l6 : Option mx_V) (v0 : mx_V) (S h : mx_H) (n : Int), mx_ex d 131 29 [l0, some (0, x), l2, l3, l4, l5, l6] [v0] S h n = mx_ex d 131 30 [l0, some (0, x), l2, l3, l4, l5, l6] [(0, x), v0] S h n) ∧
  (∀ (d : Nat) (l0 l1 l2 l3 l4 l5 l6 : Option mx_V) (v0 v1 : mx_V) (S h : mx_H) (n : Int), mx_ex d 131 30 [l0, l1, l2, l3, l4, l5, l6] [v0, v1] S h n = mx_ex d 131 31 [l0, l1, l2, l3, l4, l5, l6] [(0, 3), v0, v1] S h n) ∧
  (∀ (d : Nat) (b a : Int) (l0 l1 l2 l3 l4 l5 l6 : Option mx_V) (v2 : mx_V) (S h : mx_H) (n : Int), mx_ex d 131 31 [l0, l1, l2, l3, l4, l5, l6] [(0, b), (0, a), v2] S h n = mx_ex d 131 32 [l0, l1, l2, l3, l4, l5, l6] [(0, mx_w (a * b)), v2] S h n) ∧
  (∀ (d : Nat) (x : Int) (l0 l1 l3 l4 l5 l6 : Option mx_V) (v0 v1 : mx_V) (S h : mx_H) (n : Int), mx_ex d 131 32 [l0, l1, some (0, x), l3, l4, l5, l6] [v0, v1] S h n = mx_ex d 131 33 [l0, l1, some (0, x), l3, l4, l5, l6] [(0, x), v0, v1] S h n) ∧
  (∀ (d : Nat) (b a : Int) (l0 l1 l2 l3 l4 l5 l6 : Option mx_V) (v2 : mx_V) (S h : mx_H) (n : Int), mx_ex d 131 33 [l0, l1, l2, l3, l4, l5, l6] [(0, b), (0, a), v2] S h n = mx_ex d 131 34 [l0, l1, l2, l3, l4, l5, l6] [(0, mx_w (a + b)), v2] S h n) ∧
  (∀ (d : Nat) (x : Int) (l0 l1 l2 l4 l5 l6 : Option mx_V) (v0 v1 : mx_V) (S h : mx_H) (n : Int), mx_ex d 131 34 [l0, l1, l2, some (1, x), l4, l5, l6] [v0, v1] S h n = mx_ex d 131 35 [l0, l1, l2, some (1, x), l4, l5, l6] [(1, x), v0, v1] S h n) ∧
  (∀ (d : Nat) (v i a : Int) (l0 l1 l2 l3 l4 l5 l6 : Option mx_V) (S h : mx_H) (n : Int), mx_ex d 131 35 [l0, l1, l2, l3, l4, l5, l6] [(1, v), (0, i), (2, a)] S h n = mx_gd (S a (-2) = 21 ∧ 0 ≤ i ∧ i < S a (-1)) d 131 36 [l0, l1, l2, l3, l4, l5, l6] [] S (mx_u h a i v) n) ∧
  (∀ (d : Nat) (x : Int) (l0 l1 l2 l3 l4 l6 : Option mx_V) (S h : mx_H) (n : Int), mx_ex d 131 36 [l0, l1, l2, l3, l4, some (1, x), l6] [] S h n = mx_ex d 131 38 [l0, l1, l2, l3, l4, some (1, x), l6] [(1, x)] S h n) ∧
  (∀ (d : Nat) (x : Int) (l0 l1 l2 l3 l4 l5 l6 : Option mx_V) (S h : mx_H) (n : Int), mx_ex d 131 38 [l0, l1, l2, l3, l4, l5, l6] [(1, x)] S h n = some (some (1, x), S, h, n)) :=
  ⟨by intros; exact rfl,
   by intros; exact eq_ld rfl rfl,
   by intros; exact eq_ld rfl rfl,
   by intros; exact eq_ld rfl rfl,
   by intros; exact eq_cv rfl (Nat.le_of_ble_eq_true rfl) rfl rfl rfl (Nat.le_of_ble_eq_true rfl),
   by intros; exact eq_if1 rfl,
   by intros; exact eq_push rfl,
   by intros; exact eq_ret rfl,
   by intros; exact eq_ld rfl rfl,
   by intros; exact eq_gr rfl,
   by intros; exact eq_ld rfl rfl,
   by intros; exact eq_push rfl,
   by intros; exact eq_i2 (o := mx_mul) rfl,
   by intros; exact eq_ld rfl rfl,
   by intros; exact eq_i2 (o := mx_add) rfl,
   by intros; exact eq_lald rfl,
   by intros; exact eq_st2 rfl (Nat.le_of_ble_eq_true rfl) rfl,
   by intros; exact eq_ld rfl rfl,
   by intros; exact eq_gr rfl,
   by intros; exact eq_ld rfl rfl,
   by intros; exact eq_push rfl,
   by intros; exact eq_i2 (o := mx_mul) rfl,
   by intros; exact eq_ld rfl rfl,
   by intros; exact eq_i2 (o := mx_add) rfl,
   by intros; exact eq_ld rfl rfl,
   by intros; exact eq_last rfl,
   by intros; exact eq_ld rfl rfl,
   by intros; exact eq_ret rfl⟩
theorem rh_X11_judge_10 : ∀ (d : Nat) (x : Int) (l0 : Option mx_V) (S h : mx_H) (n : Int), mx_ex d 132 10 [l0, some (0, x)] [] S h n = mx_ex d 132 11 [l0, some (0, x)] [(0, x)] S h n := by intros; exact eq_ld rfl rfl
theorem rh_X11_judge_56 : ∀ (d : Nat) (x : Int) (l0 : Option mx_V) (S h : mx_H) (n : Int), mx_ex d 132 56 [l0, some (0, x)] [] S h n = mx_ex d 132 57 [l0, some (0, x)] [(0, x)] S h n := by intros; exact eq_ld rfl rfl
theorem rw_X11_judge :
  (∀ (d : Nat) (a0 : Int) (S h : mx_H) (n : Int), mx_M d 132 [(2, a0)] S h n = mx_ex d 132 0 [some (2, a0), none] [] S h n) ∧
  (∀ (d : Nat) (x : Int) (l1 : Option mx_V) (S h : mx_H) (n : Int), mx_ex d 132 0 [some (2, x), l1] [] S h n = mx_ex d 132 1 [some (2, x), l1] [(2, x)] S h n) ∧
  (∀ (d : Nat) (a : Int) (l0 l1 : Option mx_V) (S h : mx_H) (n : Int), mx_ex d 132 1 [l0, l1] [(2, a)] S h n = mx_gd (7 ≤ S a (-2) ∧ S a (-2) ≤ 7) d 132 4 [l0, l1] [(2, S a 11)] S h n) ∧
  (∀ (d : Nat) (l0 l1 : Option mx_V) (v0 : mx_V) (S h : mx_H) (n : Int), mx_ex d 132 4 [l0, l1] [v0] S h n = mx_ex d 132 5 [l0, l1] [(0, 0), v0] S h n) ∧
  (∀ (d : Nat) (x0 x1 : Int) (l0 l1 : Option mx_V) (S h : mx_H) (n : Int), mx_ex (d + 1) 132 5 [l0, l1] [(0, x0), (2, x1)] S h n = mx_rt (mx_M d 257 [(2, x1), (0, x0)] S h n) (d + 1) 132 8 [l0, l1] []) ∧
  (∀ (d : Nat) (l0 l1 : Option mx_V) (S h : mx_H) (n : Int), mx_ex d 132 8 [l0, l1] [] S h n = mx_ex d 132 9 [l0, l1] [(0, 0)] S h n) ∧
  (∀ (d : Nat) (x : Int) (l0 l1 : Option mx_V) (S h : mx_H) (n : Int), mx_ex d 132 9 [l0, l1] [(0, x)] S h n = mx_ex d 132 10 [mx_nl l0, some (0, x)] [] S h n) ∧
  (∀ (d : Nat) (x : Int) (l1 : Option mx_V) (v0 : mx_V) (S h : mx_H) (n : Int), mx_ex d 132 11 [some (2, x), l1] [v0] S h n = mx_ex d 132 12 [some (2, x), l1] [(2, x), v0] S h n) ∧
  (∀ (d : Nat) (a : Int) (l0 l1 : Option mx_V) (v1 : mx_V) (S h : mx_H) (n : Int), mx_ex d 132 12 [l0, l1] [(2, a), v1] S h n = mx_gd (7 ≤ S a (-2) ∧ S a (-2) ≤ 7) d 132 15 [l0, l1] [(0, h a 10), v1] S h n) ∧
  (∀ (d : Nat) (b a : Int) (l0 l1 : Option mx_V) (S h : mx_H) (n : Int), mx_ex d 132 15 [l0, l1] [(0, b), (0, a)] S h n = mx_br (a < b) d 132 18 36 [l0, l1] [] S h n) ∧
  (∀ (d : Nat) (x : Int) (l1 : Option mx_V) (S h : mx_H) (n : Int), mx_ex d 132 18 [some (2, x), l1] [] S h n = mx_ex d 132 19 [some (2, x), l1] [(2, x)] S h n) ∧
  (∀ (d : Nat) (x : Int) (l0 : Option mx_V) (v0 : mx_V) (S h : mx_H) (n : Int), mx_ex d 132 19 [l0, some (0, x)] [v0] S h n = mx_ex d 132 20 [l0, some (0, x)] [(0, x), v0] S h n) ∧
  (∀ (d : Nat) (x0 a : Int) (l0 l1 : Option mx_V) (S h : mx_H) (n : Int), mx_ex (d + 1) 132 20 [l0, l1] [(0, x0), (2, a)] S h n = mx_cl (S a (-2) = 7) d 145 [(2, a), (0, x0)] 132 23 [l0, l1] [] S h n) ∧
  (∀ (d : Nat) (a : Int) (l0 l1 : Option mx_V) (S h : mx_H) (n : Int), mx_ex d 132 23 [l0, l1] [(0, a)] S h n = mx_br (a = 0) d 132 26 30 [l0, l1] [] S h n) ∧
  (∀ (d : Nat) (x : Int) (l0 : Option mx_V) (S h : mx_H) (n : Int), mx_ex d 132 26 [l0, some (0, x)] [] S h n = mx_ex d 132 27 [l0, some (0, x)] [(0, x)] S h n) ∧
  (∀ (d : Nat) (l0 l1 : Option mx_V) (v0 : mx_V) (S h : mx_H) (n : Int), mx_ex d 132 27 [l0, l1] [v0] S h n = mx_ex d 132 28 [l0, l1] [(0, 1), v0] S h n) ∧
  (∀ (d : Nat) (b a : Int) (l0 l1 : Option mx_V) (S h : mx_H) (n : Int), mx_ex d 132 28 [l0, l1] [(0, b), (0, a)] S h n = mx_ex d 132 29 [l0, l1] [(0, mx_w (a + b))] S h n) ∧
  (∀ (d : Nat) (x : Int) (l0 l1 : Option mx_V) (S h : mx_H) (n : Int), mx_ex d 132 29 [l0, l1] [(0, x)] S h n = some (some (0, x), S, h, n)) ∧
  (∀ (d : Nat) (x : Int) (l0 : Option mx_V) (S h : mx_H) (n : Int), mx_ex d 132 30 [l0, some (0, x)] [] S h n = mx_ex d 132 33 [mx_nl l0, some (0, mx_w (x + 1))] [] S h n) ∧
  (∀ (d : Nat) (l0 l1 : Option mx_V) (S h : mx_H) (n : Int), mx_ex d 132 33 [l0, l1] [] S h n = mx_ex d 132 10 [l0, l1] [] S h n) ∧
  (∀ (d : Nat) (x : Int) (l1 : Option mx_V) (S h : mx_H) (n : Int), mx_ex d 132 36 [some (2, x), l1] [] S h n = mx_ex d 132 37 [some (2, x), l1] [(2, x)] S h n) ∧
  (∀ (d : Nat) (a : Int) (l0 l1 : Option mx_V) (S h : mx_H) (n : Int), mx_ex d 132 37 [l0, l1] [(2, a)] S h n = mx_gd (7 ≤ S a (-2) ∧ S a (-2) ≤ 7) d 132 40 [l0, l1] [(0, h a 10)] S h n) ∧
  (∀ (d : Nat) (x : Int) (l1 : Option mx_V) (v0 : mx_V) (S h : mx_H) (n : Int), mx_ex d 132 40 [some (2, x), l1] [v0] S h n = mx_ex d 132 41 [some (2, x), l1] [(2, x), v0] S h n) ∧
  (∀ (d : Nat) (a : Int) (l0 l1 : Option mx_V) (v1 : mx_V) (S h : mx_H) (n : Int), mx_ex d 132 41 [l0, l1] [(2, a), v1] S h n = mx_gd (7 ≤ S a (-2) ∧ S a (-2) ≤ 7) d 132 44 [l0, l1] [(2, S a 3), v1] S h n) ∧
  (∀ (d : Nat) (a : Int) (l0 l1 : Option mx_V) (v1 : mx_V) (S h : mx_H) (n : Int), mx_ex d 132 44 [l0, l1] [(2, a), v1] S h n = mx_gd (8 ≤ S a (-2) ∧ S a (-2) ≤ 8) d 132 47 [l0, l1] [(0, h a 3), v1] S h n) ∧
  (∀ (d : Nat) (b a : Int) (l0 l1 : Option mx_V) (S h : mx_H) (n : Int), mx_ex d 132 47 [l0, l1] [(0, b), (0, a)] S h n = mx_br (a < b) d 132 50 54 [l0, l1] [] S h n) ∧
  (∀ (d : Nat) (l0 l1 : Option mx_V) (S h : mx_H) (n : Int), mx_ex d 132 50 [l0, l1] [] S h n = mx_ex d 132 53 [l0, l1] [(0, 222)] S h n) ∧
  (∀ (d : Nat) (x : Int) (l0 l1 : Option mx_V) (S h : mx_H) (n : Int), mx_ex d 132 53 [l0, l1] [(0, x)] S h n = some (some (0, x), S, h, n)) ∧
  (∀ (d : Nat) (l0 l1 : Option mx_V) (S h : mx_H) (n : Int), mx_ex d 132 54 [l0, l1] [] S h n = mx_ex d 132 55 [l0, l1] [(0, 0)] S h n) ∧
  (∀ (d : Nat) (x : Int) (l0 l1 : Option mx_V) (S h : mx_H) (n : Int), mx_ex d 132 55 [l0, l1] [(0, x)] S h n = mx_ex d 132 56 [mx_nl l0, some (0, x)] [] S h n) ∧
  (∀ (d : Nat) (x : Int) (l1 : Option mx_V) (v0 : mx_V) (S h : mx_H) (n : Int), mx_ex d 132 57 [some (2, x), l1] [v0] S h n = mx_ex d 132 58 [some (2, x), l1] [(2, x), v0] S h n) ∧
  (∀ (d : Nat) (a : Int) (l0 l1 : Option mx_V) (v1 : mx_V) (S h : mx_H) (n : Int), mx_ex d 132 58 [l0, l1] [(2, a), v1] S h n = mx_gd (7 ≤ S a (-2) ∧ S a (-2) ≤ 7) d 132 61 [l0, l1] [(2, S a 3), v1] S h n) ∧
  (∀ (d : Nat) (a : Int) (l0 l1 : Option mx_V) (v1 : mx_V) (S h : mx_H) (n : Int), mx_ex d 132 61 [l0, l1] [(2, a), v1] S h n = mx_gd (8 ≤ S a (-2) ∧ S a (-2) ≤ 8) d 132 64 [l0, l1] [(0, h a 4), v1] S h n) ∧
  (∀ (d : Nat) (b a : Int) (l0 l1 : Option mx_V) (S h : mx_H) (n : Int), mx_ex d 132 64 [l0, l1] [(0, b), (0, a)] S h n = mx_br (a < b) d 132 67 94 [l0, l1] [] S h n) ∧
  (∀ (d : Nat) (x : Int) (l1 : Option mx_V) (S h : mx_H) (n : Int), mx_ex d 132 67 [some (2, x), l1] [] S h n = mx_ex d 132 68 [some (2, x), l1] [(2, x)] S h n) ∧
  (∀ (d : Nat) (a : Int) (l0 l1 : Option mx_V) (S h : mx_H) (n : Int), mx_ex d 132 68 [l0, l1] [(2, a)] S h n = mx_gd (7 ≤ S a (-2) ∧ S a (-2) ≤ 7) d 132 71 [l0, l1] [(2, S a 3)] S h n) ∧
  (∀ (d : Nat) (x : Int) (l0 : Option mx_V) (v0 : mx_V) (S h : mx_H) (n : Int), mx_ex d 132 71 [l0, some (0, x)] [v0] S h n = mx_ex d 132 72 [l0, some (0, x)] [(0, x), v0] S h n) ∧
  (∀ (d : Nat) (x : Int) (l1 : Option mx_V) (v0 v1 : mx_V) (S h : mx_H) (n : Int), mx_ex d 132 72 [some (2, x), l1] [v0, v1] S h n = mx_ex d 132 73 [some (2, x), l1] [(2, x), v0, v1] S h n) ∧
  (∀ (d : Nat) (a : Int) (l0 l1 : Option mx_V) (v1 v2 : mx_V) (S h : mx_H) (n : Int), mx_ex d 132 73 [l0, l1] [(2, a), v1, v2] S h n = mx_gd (7 ≤ S a (-2) ∧ S a (-2) ≤ 7) d 132 76 [l0, l1] [(2, S a 11), v1, v2] S h n) ∧
  (∀ (d : Nat) (x0 x1 a : Int) (l0 l1 : Option mx_V) (S h : mx_H) (n : Int), mx_ex (d + 1) 132 76 [l0, l1] [(2, x0), (0, x1), (2, a)] S h n = mx_cl (S a (-2) = 8) d 96 [(2, a), (0, x1), (2, x0)] 132 79 [l0, l1] [] S h n) ∧
  (∀ (d : Nat) (a : Int) (l0 l1 : Option mx_V) (S h : mx_H) (n : Int), mx_ex d 132 79 [l0, l1] [(0, a)] S h n = mx_br (a = 0) d 132 82 88 [l0, l1] [] S h n) ∧
  (∀ (d : Nat) (l0 l1 : Option mx_V) (S h : mx_H) (n : Int), mx_ex d 132 82 [l0, l1] [] S h n = mx_ex d 132 85 [l0, l1] [(0, 300)] S h n) ∧
  (∀ (d : Nat) (x : Int) (l0 : Option mx_V) (v0 : mx_V) (S h : mx_H) (n : Int), mx_ex d 132 85 [l0, some (0, x)] [v0] S h n = mx_ex d 132 86 [l0, some (0, x)] [(0, x), v0] S h n) ∧
  (∀ (d : Nat) (b a : Int) (l0 l1 : Option mx_V) (S h : mx_H) (n : Int), mx_ex d 132 86 [l0, l1] [(0, b), (0, a)] S h n = mx_ex d 132 87 [l0, l1] [(0, mx_w (a + b))] S h n) ∧
  (∀ (d : Nat) (x : Int) (l0 l1 : Option mx_V) (S h : mx_H) (n : Int), mx_ex d 132 87 [l0, l1] [(0, x)] S h n = some (some (0, x), S, h, n)) ∧
  (∀ (d : Nat) (x : Int) (l0 : Option mx_V) (S h : mx_H) (n : Int), mx_ex d 132 88 [l0, some (0, x)] [] S h n = mx_ex d 132 91 [mx_nl l0, some (0, mx_w (x + 1))] [] S h n) ∧
  (∀ (d : Nat) (l0 l1 : Option mx_V) (S h : mx_H) (n : Int), mx_ex d 132 91 [l0, l1] [] S h n = mx_ex d 132 56 [l0, l1] [] S h n) ∧
  (∀ (d : Nat) (l0 l1 : Option mx_V) (S h : mx_H) (n : Int), mx_ex d 132 94 [l0, l1] [] S h n = mx_ex d 132 95 [l0, l1] [(0, 0)] S h n) ∧
  (∀ (d : Nat) (x : Int) (l0 l1 : Option mx_V) (S h : mx_H) (n : Int), mx_ex d 132 95 [l0, l1] [(0, x)] S h n = some (some (0, x), S, h, n)) :=
  ⟨by intros; exact rfl,
   by intros; exact eq_ld rfl rfl,
   by intros; exact eq_gr rfl,
   by intros; exact eq_push rfl,
   by intros; exact eq_cs rfl (Nat.le_of_ble_eq_true rfl) rfl rfl rfl (Nat.le_of_ble_eq_true rfl),
   by intros; exact eq_push rfl,
   by intros; exact eq_st rfl (by decide) (Nat.le_of_ble_eq_true rfl) rfl,
   by intros; exact eq_ld rfl rfl,
   by intros; exact eq_gi rfl,
   by intros; exact eq_ic3 rfl,
   by intros; exact eq_ld rfl rfl,
   by intros; exact eq_ld rfl rfl,
   by intros; exact eq_cv rfl (Nat.le_of_ble_eq_true rfl) rfl rfl rfl (Nat.le_of_ble_eq_true rfl),
   by intros; exact eq_if1 rfl,
   by intros; exact eq_ld rfl rfl,
   by intros; exact eq_push rfl,
   by intros; exact eq_i2 (o := mx_add) rfl,
   by intros; exact eq_ret rfl,
   by intros; exact eq_inc rfl rfl rfl,
   by intros; exact eq_go rfl,
   by intros; exact eq_ld rfl rfl,
   by intros; exact eq_gi rfl,
   by intros; exact eq_ld rfl rfl,
   by intros; exact eq_gr rfl,
   by intros; exact eq_gi rfl,
   by intros; exact eq_ic3 rfl,
   by intros; exact eq_push rfl,
   by intros; exact eq_ret rfl,
   by intros; exact eq_push rfl,
   by intros; exact eq_st rfl (by decide) (Nat.le_of_ble_eq_true rfl) rfl,
   by intros; exact eq_ld rfl rfl,
   by intros; exact eq_gr rfl,
   by intros; exact eq_gi rfl,
   by intros; exact eq_ic3 rfl,
   by intros; exact eq_ld rfl rfl,
   by intros; exact eq_gr rfl,
   by intros; exact eq_ld rfl rfl,
   by intros; exact eq_ld rfl rfl,
   by intros; exact eq_gr rfl,
   by intros; exact eq_cv rfl (Nat.le_of_ble_eq_true rfl) rfl rfl rfl (Nat.le_of_ble_eq_true rfl),
   by intros; exact eq_if1 rfl,
   by intros; exact eq_push rfl,
   by intros; exact eq_ld rfl rfl,
   by intros; exact eq_i2 (o := mx_add) rfl,
   by intros; exact eq_ret rfl,
   by intros; exact eq_inc rfl rfl rfl,
   by intros; exact eq_go rfl,
   by intros; exact eq_push rfl,
   by intros; exact eq_ret rfl⟩
theorem rh_X11_signs_89 : ∀ (d : Nat) (x : Int) (l0 l1 l2 l3 l4 l5 l6 : Option mx_V) (S h : mx_H) (n : Int), mx_ex d 133 89 [l0, l1, l2, l3, l4, l5, l6, some (0, x)] [] S h n = mx_ex d 133 91 [l0, l1, l2, l3, l4, l5, l6, some (0, x)] [(0, x)] S h n := by intros; exact eq_ld rfl rfl
theorem rw_X11_signs :
  (∀ (d : Nat) (a0 a1 a2 a3 a4 : Int) (S h : mx_H) (n : Int), mx_M d 133 [(2, a0), (0, a1), (0, a2), (0, a3), (0, a4)] S h n = mx_ex d 133 0 [some (2, a0), some (0, a1), some (0, a2), some (0, a3), some (0, a4), none, none, none] [] S h n) ∧
  (∀ (d : Nat) (x : Int) (l1 l2 l3 l4 l5 l6 l7 : Option mx_V) (S h : mx_H) (n : Int), mx_ex d 133 0 [some (2, x), l1, l2, l3, l4, l5, l6, l7] [] S h n = mx_ex d 133 1 [some (2, x), l1, l2, l3, l4, l5, l6, l7] [(2, x)] S h n) ∧
  (∀ (d : Nat) (a : Int) (l0 l1 l2 l3 l4 l5 l6 l7 : Option mx_V) (S h : mx_H) (n : Int), mx_ex d 133 1 [l0, l1, l2, l3, l4, l5, l6, l7] [(2, a)] S h n = mx_gd (7 ≤ S a (-2) ∧ S a (-2) ≤ 7) d 133 4 [l0, l1, l2, l3, l4, l5, l6, l7] [(2, S a 3)] S h n) ∧
  (∀ (d : Nat) (x : Int) (l0 l2 l3 l4 l5 l6 l7 : Option mx_V) (v0 : mx_V) (S h : mx_H) (n : Int), mx_ex d 133 4 [l0, some (0, x), l2, l3, l4, l5, l6, l7] [v0] S h n = mx_ex d 133 5 [l0, some (0, x), l2, l3, l4, l5, l6, l7] [(0, x), v0] S h n) ∧
  (∀ (d : Nat) (x0 a : Int) (l0 l1 l2 l3 l4 l5 l6 l7 : Option mx_V) (S h : mx_H) (n : Int), mx_ex (d + 1) 133 5 [l0, l1, l2, l3, l4, l5, l6, l7] [(0, x0), (2, a)] S h n = mx_cl (S a (-2) = 8) d 91 [(2, a), (0, x0)] 133 8 [l0, l1, l2, l3, l4, l5, l6, l7] [] S h n) ∧
  (∀ (d : Nat) (x : Int) (l0 l1 l2 l3 l4 l5 l6 l7 : Option mx_V) (S h : mx_H) (n : Int), mx_ex d 133 8 [l0, l1, l2, l3, l4, l5, l6, l7] [(2, x)] S h n = mx_ex d 133 10 [l0, l1, l2, l3, mx_nl l4, some (2, x), l6, l7] [] S h n) ∧
  (∀ (d : Nat) (x : Int) (l0 l1 l2 l3 l4 l6 l7 : Option mx_V) (S h : mx_H) (n : Int), mx_ex d 133 10 [l0, l1, l2, l3, l4, some (2, x), l6, l7] [] S h n = mx_ex d 133 12 [l0, l1, l2, l3, l4, some (2, x), l6, l7] [(2, x)] S h n) ∧
  (∀ (d : Nat) (a : Int) (l0 l1 l2 l3 l4 l5 l6 l7 : Option mx_V) (S h : mx_H) (n : Int), mx_ex d 133 12 [l0, l1, l2, l3, l4, l5, l6, l7] [(2, a)] S h n = mx_br (a = -1) d 133 37 15 [l0, l1, l2, l3, l4, l5, l6, l7] [] S h n) ∧
  (∀ (d : Nat) (x : Int) (l0 l1 l3 l4 l5 l6 l7 : Option mx_V) (S h : mx_H) (n : Int), mx_ex d 133 15 [l0, l1, some (0, x), l3, l4, l5, l6, l7] [] S h n = mx_ex d 133 16 [l0, l1, some (0, x), l3, l4, l5, l6, l7] [(0, x)] S h n) ∧
  (∀ (d : Nat) (x0 : Int) (l0 l1 l2 l3 l4 l5 l6 l7 : Option mx_V) (S h : mx_H) (n : Int), mx_ex (d + 1) 133 16 [l0, l1, l2, l3, l4, l5, l6, l7] [(0, x0)] S h n = mx_rt (mx_M d 150 [(0, x0)] S h n) (d + 1) 133 19 [l0, l1, l2, l3, l4, l5, l6, l7] []) ∧
  (∀ (d : Nat) (a : Int) (l0 l1 l2 l3 l4 l5 l6 l7 : Option mx_V) (S h : mx_H) (n : Int), mx_ex d 133 19 [l0, l1, l2, l3, l4, l5, l6, l7] [(0, a)] S h n = mx_br (a = 0) d 133 37 22 [l0, l1, l2, l3, l4, l5, l6, l7] [] S h n) ∧
  (∀ (d : Nat) (x : Int) (l0 l1 l2 l3 l5 l6 l7 : Option mx_V) (S h : mx_H) (n : Int), mx_ex d 133 22 [l0, l1, l2, l3, some (0, x), l5, l6, l7] [] S h n = mx_ex d 133 24 [l0, l1, l2, l3, some (0, x), l5, l6, l7] [(0, x)] S h n) ∧
  (∀ (d : Nat) (l0 l1 l2 l3 l4 l5 l6 l7 : Option mx_V) (v0 : mx_V) (S h : mx_H) (n : Int), mx_ex d 133 24 [l0, l1, l2, l3, l4, l5, l6, l7] [v0] S h n = mx_ex d 133 25 [l0, l1, l2, l3, l4, l5, l6, l7] [(0, 0), v0] S h n) ∧
  (∀ (d : Nat) (x : Int) (l0 l1 l2 l3 l4 l6 l7 : Option mx_V) (v0 v1 : mx_V) (S h : mx_H) (n : Int), mx_ex d 133 25 [l0, l1, l2, l3, l4, some (2, x), l6, l7] [v0, v1] S h n = mx_ex d 133 27 [l0, l1, l2, l3, l4, some (2, x), l6, l7] [(2, x), v0, v1] S h n) ∧
  (∀ (d : Nat) (a : Int) (l0 l1 l2 l3 l4 l5 l6 l7 : Option mx_V) (v1 v2 : mx_V) (S h : mx_H) (n : Int), mx_ex d 133 27 [l0, l1, l2, l3, l4, l5, l6, l7] [(2, a), v1, v2] S h n = mx_gd (1 ≤ S a (-2) ∧ S a (-2) ≤ 6) d 133 30 [l0, l1, l2, l3, l4, l5, l6, l7] [(2, S a 2), v1, v2] S h n) ∧
  (∀ (d : Nat) (a : Int) (l0 l1 l2 l3 l4 l5 l6 l7 : Option mx_V) (v1 v2 : mx_V) (S h : mx_H) (n : Int), mx_ex d 133 30 [l0, l1, l2, l3, l4, l5, l6, l7] [(2, a), v1, v2] S h n = mx_gd (20 ≤ S a (-2) ∧ S a (-2) ≤ 25) d 133 31 [l0, l1, l2, l3, l4, l5, l6, l7] [(0, S a (-1)), v1, v2] S h n) ∧
  (∀ (d : Nat) (x0 x1 x2 : Int) (l0 l1 l2 l3 l4 l5 l6 l7 : Option mx_V) (S h : mx_H) (n : Int), mx_ex (d + 1) 133 31 [l0, l1, l2, l3, l4, l5, l6, l7] [(0, x0), (0, x1), (0, x2)] S h n = mx_rt (mx_M d 147 [(0, x2), (0, x1), (0, x0)] S h n) (d + 1) 133 34 [l0, l1, l2, l3, l4, l5, l6, l7] []) ∧
  (∀ (d : Nat) (a : Int) (l0 l1 l2 l3 l4 l5 l6 l7 : Option mx_V) (S h : mx_H) (n : Int), mx_ex d 133 34 [l0, l1, l2, l3, l4, l5, l6, l7] [(0, a)] S h n = mx_br (a = 0) d 133 37 39 [l0, l1, l2, l3, l4, l5, l6, l7] [] S h n) ∧
  (∀ (d : Nat) (l0 l1 l2 l3 l4 l5 l6 l7 : Option mx_V) (S h : mx_H) (n : Int), mx_ex d 133 37 [l0, l1, l2, l3, l4, l5, l6, l7] [] S h n = mx_ex d 133 38 [l0, l1, l2, l3, l4, l5, l6, l7] [(0, (-1))] S h n) ∧
  (∀ (d : Nat) (x : Int) (l0 l1 l2 l3 l4 l5 l6 l7 : Option mx_V) (S h : mx_H) (n : Int), mx_ex d 133 38 [l0, l1, l2, l3, l4, l5, l6, l7] [(0, x)] S h n = some (some (0, x), S, h, n)) ∧
  (∀ (d : Nat) (x : Int) (l1 l2 l3 l4 l5 l6 l7 : Option mx_V) (S h : mx_H) (n : Int), mx_ex d 133 39 [some (2, x), l1, l2, l3, l4, l5, l6, l7] [] S h n = mx_ex d 133 40 [some (2, x), l1, l2, l3, l4, l5, l6, l7] [(2, x)] S h n) ∧
  (∀ (d : Nat) (a : Int) (l0 l1 l2 l3 l4 l5 l6 l7 : Option mx_V) (S h : mx_H) (n : Int), mx_ex d 133 40 [l0, l1, l2, l3, l4, l5, l6, l7] [(2, a)] S h n = mx_gd (7 ≤ S a (-2) ∧ S a (-2) ≤ 7) d 133 43 [l0, l1, l2, l3, l4, l5, l6, l7] [(2, S a 12)] S h n) ∧
  (∀ (d : Nat) (x : Int) (l0 l1 l3 l4 l5 l6 l7 : Option mx_V) (v0 : mx_V) (S h : mx_H) (n : Int), mx_ex d 133 43 [l0, l1, some (0, x), l3, l4, l5, l6, l7] [v0] S h n = mx_ex d 133 44 [l0, l1, some (0, x), l3, l4, l5, l6, l7] [(0, x), v0] S h n) ∧
  (∀ (d : Nat) (i a : Int) (l0 l1 l2 l3 l4 l5 l6 l7 : Option mx_V) (S h : mx_H) (n : Int), mx_ex d 133 44 [l0, l1, l2, l3, l4, l5, l6, l7] [(0, i), (2, a)] S h n = mx_gd (S a (-2) = 23 ∧ 0 ≤ i ∧ i < S a (-1)) d 133 45 [l0, l1, l2, l3, l4, l5, l6, l7] [(2, S a i)] S h n) ∧
  (∀ (d : Nat) (x : Int) (l0 l1 l2 l3 l4 l5 l6 l7 : Option mx_V) (S h : mx_H) (n : Int), mx_ex d 133 45 [l0, l1, l2, l3, l4, l5, l6, l7] [(2, x)] S h n = mx_ex d 133 47 [l0, l1, l2, l3, l4, mx_nl l5, some (2, x), l7] [] S h n) ∧
  (∀ (d : Nat) (x : Int) (l0 l1 l2 l3 l4 l5 l7 : Option mx_V) (S h : mx_H) (n : Int), mx_ex d 133 47 [l0, l1, l2, l3, l4, l5, some (2, x), l7] [] S h n = mx_ex d 133 49 [l0, l1, l2, l3, l4, l5, some (2, x), l7] [(2, x)] S h n) ∧
  (∀ (d : Nat) (a : Int) (l0 l1 l2 l3 l4 l5 l6 l7 : Option mx_V) (S h : mx_H) (n : Int), mx_ex d 133 49 [l0, l1, l2, l3, l4, l5, l6, l7] [(2, a)] S h n = mx_br (a = -1) d 133 52 55 [l0, l1, l2, l3, l4, l5, l6, l7] [] S h n) ∧
  (∀ (d : Nat) (l0 l1 l2 l3 l4 l5 l6 l7 : Option mx_V) (S h : mx_H) (n : Int), mx_ex d 133 52 [l0, l1, l2, l3, l4, l5, l6, l7] [] S h n = mx_ex d 133 54 [l0, l1, l2, l3, l4, l5, l6, l7] [(0, (-11))] S h n) ∧
  (∀ (d : Nat) (x : Int) (l0 l1 l2 l3 l4 l5 l6 l7 : Option mx_V) (S h : mx_H) (n : Int), mx_ex d 133 54 [l0, l1, l2, l3, l4, l5, l6, l7] [(0, x)] S h n = some (some (0, x), S, h, n)) ∧
  (∀ (d : Nat) (x : Int) (l0 l1 l2 l3 l4 l5 l7 : Option mx_V) (S h : mx_H) (n : Int), mx_ex d 133 55 [l0, l1, l2, l3, l4, l5, some (2, x), l7] [] S h n = mx_ex d 133 57 [l0, l1, l2, l3, l4, l5, some (2, x), l7] [(2, x)] S h n) ∧
  (∀ (d : Nat) (a : Int) (l0 l1 l2 l3 l4 l5 l6 l7 : Option mx_V) (S h : mx_H) (n : Int), mx_ex d 133 57 [l0, l1, l2, l3, l4, l5, l6, l7] [(2, a)] S h n = mx_gd (12 ≤ S a (-2) ∧ S a (-2) ≤ 12) d 133 60 [l0, l1, l2, l3, l4, l5, l6, l7] [(0, h a 0)] S h n) ∧
  (∀ (d : Nat) (a : Int) (l0 l1 l2 l3 l4 l5 l6 l7 : Option mx_V) (S h : mx_H) (n : Int), mx_ex d 133 60 [l0, l1, l2, l3, l4, l5, l6, l7] [(0, a)] S h n = mx_br (a = 0) d 133 66 63 [l0, l1, l2, l3, l4, l5, l6, l7] [] S h n) ∧
  (∀ (d : Nat) (l0 l1 l2 l3 l4 l5 l6 l7 : Option mx_V) (S h : mx_H) (n : Int), mx_ex d 133 63 [l0, l1, l2, l3, l4, l5, l6, l7] [] S h n = mx_ex d 133 65 [l0, l1, l2, l3, l4, l5, l6, l7] [(0, (-13))] S h n) ∧
  (∀ (d : Nat) (x : Int) (l0 l1 l2 l3 l4 l5 l6 l7 : Option mx_V) (S h : mx_H) (n : Int), mx_ex d 133 65 [l0, l1, l2, l3, l4, l5, l6, l7] [(0, x)] S h n = some (some (0, x), S, h, n)) ∧
  (∀ (d : Nat) (x : Int) (l0 l1 l2 l4 l5 l6 l7 : Option mx_V) (S h : mx_H) (n : Int), mx_ex d 133 66 [l0, l1, l2, some (0, x), l4, l5, l6, l7] [] S h n = mx_ex d 133 67 [l0, l1, l2, some (0, x), l4, l5, l6, l7] [(0, x)] S h n) ∧
  (∀ (d : Nat) (l0 l1 l2 l3 l4 l5 l6 l7 : Option mx_V) (v0 : mx_V) (S h : mx_H) (n : Int), mx_ex d 133 67 [l0, l1, l2, l3, l4, l5, l6, l7] [v0] S h n = mx_ex d 133 68 [l0, l1, l2, l3, l4, l5, l6, l7] [(0, 0), v0] S h n) ∧
  (∀ (d : Nat) (x : Int) (l0 l1 l2 l3 l4 l5 l7 : Option mx_V) (v0 v1 : mx_V) (S h : mx_H) (n : Int), mx_ex d 133 68 [l0, l1, l2, l3, l4, l5, some (2, x), l7] [v0, v1] S h n = mx_ex d 133 70 [l0, l1, l2, l3, l4, l5, some (2, x), l7] [(2, x), v0, v1] S h n) ∧
  (∀ (d : Nat) (a : Int) (l0 l1 l2 l3 l4 l5 l6 l7 : Option mx_V) (v1 v2 : mx_V) (S h : mx_H) (n : Int), mx_ex d 133 70 [l0, l1, l2, l3, l4, l5, l6, l7] [(2, a), v1, v2] S h n = mx_gd (12 ≤ S a (-2) ∧ S a (-2) ≤ 12) d 133 73 [l0, l1, l2, l3, l4, l5, l6, l7] [(2, S a 1), v1, v2] S h n) ∧
  (∀ (d : Nat) (a : Int) (l0 l1 l2 l3 l4 l5 l6 l7 : Option mx_V) (v1 v2 : mx_V) (S h : mx_H) (n : Int), mx_ex d 133 73 [l0, l1, l2, l3, l4, l5, l6, l7] [(2, a), v1, v2] S h n = mx_gd (20 ≤ S a (-2) ∧ S a (-2) ≤ 25) d 133 74 [l0, l1, l2, l3, l4, l5, l6, l7] [(0, S a (-1)), v1, v2] S h n) ∧
  (∀ (d : Nat) (x : Int) (l0 l1 l2 l3 l5 l6 l7 : Option mx_V) (v0 v1 v2 : mx_V) (S h : mx_H) (n : Int), mx_ex d 133 74 [l0, l1, l2, l3, some (0, x), l5, l6, l7] [v0, v1, v2] S h n = mx_ex d 133 76 [l0, l1, l2, l3, some (0, x), l5, l6, l7] [(0, x), v0, v1, v2] S h n) ∧
  (∀ (d : Nat) (b a : Int) (l0 l1 l2 l3 l4 l5 l6 l7 : Option mx_V) (v2 v3 : mx_V) (S h : mx_H) (n : Int), mx_ex d 133 76 [l0, l1, l2, l3, l4, l5, l6, l7] [(0, b), (0, a), v2, v3] S h n = mx_ex d 133 77 [l0, l1, l2, l3, l4, l5, l6, l7] [(0, mx_w (a - b)), v2, v3] S h n) ∧
  (∀ (d : Nat) (x0 x1 x2 : Int) (l0 l1 l2 l3 l4 l5 l6 l7 : Option mx_V) (S h : mx_H) (n : Int), mx_ex (d + 1) 133 77 [l0, l1, l2, l3, l4, l5, l6, l7] [(0, x0), (0, x1), (0, x2)] S h n = mx_rt (mx_M d 147 [(0, x2), (0, x1), (0, x0)] S h n) (d + 1) 133 80 [l0, l1, l2, l3, l4, l5, l6, l7] []) ∧
  (∀ (d : Nat) (a : Int) (l0 l1 l2 l3 l4 l5 l6 l7 : Option mx_V) (S h : mx_H) (n : Int), mx_ex d 133 80 [l0, l1, l2, l3, l4, l5, l6, l7] [(0, a)] S h n = mx_br (a = 0) d 133 83 86 [l0, l1, l2, l3, l4, l5, l6, l7] [] S h n) ∧
  (∀ (d : Nat) (l0 l1 l2 l3 l4 l5 l6 l7 : Option mx_V) (S h : mx_H) (n : Int), mx_ex d 133 83 [l0, l1, l2, l3, l4, l5, l6, l7] [] S h n = mx_ex d 133 85 [l0, l1, l2, l3, l4, l5, l6, l7] [(0, (-12))] S h n) ∧
  (∀ (d : Nat) (x : Int) (l0 l1 l2 l3 l4 l5 l6 l7 : Option mx_V) (S h : mx_H) (n : Int), mx_ex d 133 85 [l0, l1, l2, l3, l4, l5, l6, l7] [(0, x)] S h n = some (some (0, x), S, h, n)) ∧
  (∀ (d : Nat) (l0 l1 l2 l3 l4 l5 l6 l7 : Option mx_V) (S h : mx_H) (n : Int), mx_ex d 133 86 [l0, l1, l2, l3, l4, l5, l6, l7] [] S h n = mx_ex d 133 87 [l0, l1, l2, l3, l4, l5, l6, l7] [(0, 0)] S h n) ∧
  (∀ (d : Nat) (x : Int) (l0 l1 l2 l3 l4 l5 l6 l7 : Option mx_V) (S h : mx_H) (n : Int), mx_ex d 133 87 [l0, l1, l2, l3, l4, l5, l6, l7] [(0, x)] S h n = mx_ex d 133 89 [l0, l1, l2, l3, l4, l5, mx_nl l6, some (0, x)] [] S h n) ∧
  (∀ (d : Nat) (x : Int) (l0 l1 l2 l3 l5 l6 l7 : Option mx_V) (v0 : mx_V) (S h : mx_H) (n : Int), mx_ex d 133 91 [l0, l1, l2, l3, some (0, x), l5, l6, l7] [v0] S h n = mx_ex d 133 93 [l0, l1, l2, l3, some (0, x), l5, l6, l7] [(0, x), v0] S h n) ∧
  (∀ (d : Nat) (b a : Int) (l0 l1 l2 l3 l4 l5 l6 l7 : Option mx_V) (S h : mx_H) (n : Int), mx_ex d 133 93 [l0, l1, l2, l3, l4, l5, l6, l7] [(0, b), (0, a)] S h n = mx_br (a < b) d 133 96 131 [l0, l1, l2, l3, l4, l5, l6, l7] [] S h n) ∧
  (∀ (d : Nat) (x : Int) (l0 l1 l2 l3 l4 l6 l7 : Option mx_V) (S h : mx_H) (n : Int), mx_ex d 133 96 [l0, l1, l2, l3, l4, some (2, x), l6, l7] [] S h n = mx_ex d 133 98 [l0, l1, l2, l3, l4, some (2, x), l6, l7] [(2, x)] S h n) ∧
  (∀ (d : Nat) (a : Int) (l0 l1 l2 l3 l4 l5 l6 l7 : Option mx_V) (S h : mx_H) (n : Int), mx_ex d 133 98 [l0, l1, l2, l3, l4, l5, l6, l7] [(2, a)] S h n = mx_gd (1 ≤ S a (-2) ∧ S a (-2) ≤ 6) d 133 101 [l0, l1, l2, l3, l4, l5, l6, l7] [(2, S a 2)] S h n) ∧
  (∀ (d : Nat) (x : Int) (l0 l1 l2 l3 l4 l5 l6 : Option mx_V) (v0 : mx_V) (S h : mx_H) (n : Int), mx_ex d 133 101 [l0, l1, l2, l3, l4, l5, l6, some (0, x)] [v0] S h n = mx_ex d 133 103 [l0, l1, l2, l3, l4, l5, l6, some (0, x)] [(0, x), v0] S h n) ∧
  (∀ (d : Nat) (l0 l1 l2 l3 l4 l5 l6 l7 : Option mx_V) (v0 v1 : mx_V) (S h : mx_H) (n : Int), mx_ex d 133 103 [l0, l1, l2, l3, l4, l5, l6, l7] [v0, v1] S h n = mx_ex d 133 104 [l0, l1, l2, l3, l4, l5, l6, l7] [(1, 0), v0, v1] S h n) ∧
  (∀ (d : Nat) (l0 l1 l2 l3 l4 l5 l6 l7 : Option mx_V) (v0 v1 v2 : mx_V) (S h : mx_H) (n : Int), mx_ex d 133 104 [l0, l1, l2, l3, l4, l5, l6, l7] [v0, v1, v2] S h n = mx_ex d 133 107 [l0, l1, l2, l3, l4, l5, l6, l7] [(1, 15), v0, v1, v2] S h n) ∧
  (∀ (d : Nat) (x : Int) (l0 l1 l2 l3 l4 l5 l7 : Option mx_V) (v0 v1 v2 v3 : mx_V) (S h : mx_H) (n : Int), mx_ex d 133 107 [l0, l1, l2, l3, l4, l5, some (2, x), l7] [v0, v1, v2, v3] S h n = mx_ex d 133 109 [l0, l1, l2, l3, l4, l5, some (2, x), l7] [(2, x), v0, v1, v2, v3] S h n) ∧
  (∀ (d : Nat) (a : Int) (l0 l1 l2 l3 l4 l5 l6 l7 : Option mx_V) (v1 v2 v3 v4 : mx_V) (S h : mx_H) (n : Int), mx_ex d 133 109 [l0, l1, l2, l3, l4, l5, l6, l7] [(2, a), v1, v2, v3, v4] S h n = mx_gd (12 ≤ S a (-2) ∧ S a (-2) ≤ 12) d 133 112 [l0, l1, l2, l3, l4, l5, l6, l7] [(2, S a 1), v1, v2, v3, v4] S h n) ∧
  (∀ (d : Nat) (x : Int) (l0 l1 l2 l4 l5 l6 l7 : Option mx_V) (v0 v1 v2 v3 v4 : mx_V) (S h : mx_H) (n : Int), mx_ex d 133 112 [l0, l1, l2, some (0, x), l4, l5, l6, l7] [v0, v1, v2, v3, v4] S h n = mx_ex d 133 113 [l0, l1, l2, some (0, x), l4, l5, l6, l7] [(0, x), v0, v1, v2, v3, v4] S h n) ∧
  (∀ (d : Nat) (x : Int) (l0 l1 l2 l3 l4 l5 l6 : Option mx_V) (v0 v1 v2 v3 v4 v5 : mx_V) (S h : mx_H) (n : Int), mx_ex d 133 113 [l0, l1, l2, l3, l4, l5, l6, some (0, x)] [v0, v1, v2, v3, v4, v5] S h n = mx_ex d 133 115 [l0, l1, l2, l3, l4, l5, l6, some (0, x)] [(0, x), v0, v1, v2, v3, v4, v5] S h n) ∧
  (∀ (d : Nat) (b a : Int) (l0 l1 l2 l3 l4 l5 l6 l7 : Option mx_V) (v2 v3 v4 v5 v6 : mx_V) (S h : mx_H) (n : Int), mx_ex d 133 115 [l0, l1, l2, l3, l4, l5, l6, l7] [(0, b), (0, a), v2, v3, v4, v5, v6] S h n = mx_ex d 133 116 [l0, l1, l2, l3, l4, l5, l6, l7] [(0, mx_w (a + b)), v2, v3, v4, v5, v6] S h n) ∧
  (∀ (d : Nat) (i a : Int) (l0 l1 l2 l3 l4 l5 l6 l7 : Option mx_V) (v2 v3 v4 v5 : mx_V) (S h : mx_H) (n : Int), mx_ex d 133 116 [l0, l1, l2, l3, l4, l5, l6, l7] [(0, i), (2, a), v2, v3, v4, v5] S h n = mx_gd (S a (-2) = 21 ∧ 0 ≤ i ∧ i < S a (-1)) d 133 117 [l0, l1, l2, l3, l4, l5, l6, l7] [(1, h a i), v2, v3, v4, v5] S h n) ∧
  (∀ (d : Nat) (b a : Int) (l0 l1 l2 l3 l4 l5 l6 l7 : Option mx_V) (v2 v3 v4 : mx_V) (S h : mx_H) (n : Int), mx_ex d 133 117 [l0, l1, l2, l3, l4, l5, l6, l7] [(1, b), (1, a), v2, v3, v4] S h n = mx_ex d 133 120 [l0, l1, l2, l3, l4, l5, l6, l7] [(1, if b < a then b else a), v2, v3, v4] S h n) ∧
  (∀ (d : Nat) (b a : Int) (l0 l1 l2 l3 l4 l5 l6 l7 : Option mx_V) (v2 v3 : mx_V) (S h : mx_H) (n : Int), mx_ex d 133 120 [l0, l1, l2, l3, l4, l5, l6, l7] [(1, b), (1, a), v2, v3] S h n = mx_ex d 133 123 [l0, l1, l2, l3, l4, l5, l6, l7] [(1, if b < a then a else b), v2, v3] S h n) ∧
  (∀ (d : Nat) (a : Int) (l0 l1 l2 l3 l4 l5 l6 l7 : Option mx_V) (v1 v2 : mx_V) (S h : mx_H) (n : Int), mx_ex d 133 123 [l0, l1, l2, l3, l4, l5, l6, l7] [(1, a), v1, v2] S h n = mx_ex d 133 124 [l0, l1, l2, l3, l4, l5, l6, l7] [(0, mx_w a), v1, v2] S h n) ∧
  (∀ (d : Nat) (v i a : Int) (l0 l1 l2 l3 l4 l5 l6 l7 : Option mx_V) (S h : mx_H) (n : Int), mx_ex d 133 124 [l0, l1, l2, l3, l4, l5, l6, l7] [(0, v), (0, i), (2, a)] S h n = mx_gd (S a (-2) = 20 ∧ 0 ≤ i ∧ i < S a (-1)) d 133 125 [l0, l1, l2, l3, l4, l5, l6, l7] [] S (mx_u h a i v) n) ∧
  (∀ (d : Nat) (x : Int) (l0 l1 l2 l3 l4 l5 l6 : Option mx_V) (S h : mx_H) (n : Int), mx_ex d 133 125 [l0, l1, l2, l3, l4, l5, l6, some (0, x)] [] S h n = mx_ex d 133 128 [l0, l1, l2, l3, l4, l5, mx_nl l6, some (0, mx_w (x + 1))] [] S h n) ∧
  (∀ (d : Nat) (l0 l1 l2 l3 l4 l5 l6 l7 : Option mx_V) (S h : mx_H) (n : Int), mx_ex d 133 128 [l0, l1, l2, l3, l4, l5, l6, l7] [] S h n = mx_ex d 133 89 [l0, l1, l2, l3, l4, l5, l6, l7] [] S h n) ∧
  (∀ (d : Nat) (x : Int) (l1 l2 l3 l4 l5 l6 l7 : Option mx_V) (S h : mx_H) (n : Int), mx_ex d 133 131 [some (2, x), l1, l2, l3, l4, l5, l6, l7] [] S h n = mx_ex d 133 132 [some (2, x), l1, l2, l3, l4, l5, l6, l7] [(2, x)] S h n) ∧
  (∀ (d : Nat) (a : Int) (l0 l1 l2 l3 l4 l5 l6 l7 : Option mx_V) (S h : mx_H) (n : Int), mx_ex d 133 132 [l0, l1, l2, l3, l4, l5, l6, l7] [(2, a)] S h n = mx_gd (7 ≤ S a (-2) ∧ S a (-2) ≤ 7) d 133 135 [l0, l1, l2, l3, l4, l5, l6, l7] [(2, S a 3)] S h n) ∧
  (∀ (d : Nat) (a : Int) (l0 l1 l2 l3 l4 l5 l6 l7 : Option mx_V) (S h : mx_H) (n : Int), mx_ex d 133 135 [l0, l1, l2, l3, l4, l5, l6, l7] [(2, a)] S h n = mx_ex d 133 136 [l0, l1, l2, l3, l4, l5, l6, l7] [(2, a), (2, a)] S h n) ∧
  (∀ (d : Nat) (a : Int) (l0 l1 l2 l3 l4 l5 l6 l7 : Option mx_V) (v1 : mx_V) (S h : mx_H) (n : Int), mx_ex d 133 136 [l0, l1, l2, l3, l4, l5, l6, l7] [(2, a), v1] S h n = mx_gd (8 ≤ S a (-2) ∧ S a (-2) ≤ 8) d 133 139 [l0, l1, l2, l3, l4, l5, l6, l7] [(0, h a 5), v1] S h n) :=
  ⟨by intros; exact rfl,
   by intros; exact eq_ld rfl rfl,
   by intros; exact eq_gr rfl,
   by intros; exact eq_ld rfl rfl,
   by intros; exact eq_cv rfl (Nat.le_of_ble_eq_true rfl) rfl rfl rfl (Nat.le_of_ble_eq_true rfl),
   by intros; exact eq_st rfl (by decide) (Nat.le_of_ble_eq_true rfl) rfl,
   by intros; exact eq_ld rfl rfl,
   by intros; exact eq_nul rfl,
   by intros; exact eq_ld rfl rfl,
   by intros; exact eq_cs rfl (Nat.le_of_ble_eq_true rfl) rfl rfl rfl (Nat.le_of_ble_eq_true rfl),
   by intros; exact eq_if0 rfl,
   by intros; exact eq_ld rfl rfl,
   by intros; exact eq_push rfl,
   by intros; exact eq_ld rfl rfl,
   by intros; exact eq_gr rfl,
   by intros; exact eq_alen rfl,
   by intros; exact eq_cs rfl (Nat.le_of_ble_eq_true rfl) rfl rfl rfl (Nat.le_of_ble_eq_true rfl),
   by intros; exact eq_if1 rfl,
   by intros; exact eq_push rfl,
   by intros; exact eq_ret rfl,
   by intros; exact eq_ld rfl rfl,
   by intros; exact eq_gr rfl,
   by intros; exact eq_ld rfl rfl,
   by intros; exact eq_aald rfl,
   by intros; exact eq_st rfl (by decide) (Nat.le_of_ble_eq_true rfl) rfl,
   by intros; exact eq_ld rfl rfl,
   by intros; exact eq_nul rfl,
   by intros; exact eq_push rfl,
   by intros; exact eq_ret rfl,
   by intros; exact eq_ld rfl rfl,
   by intros; exact eq_gi rfl,
   by intros; exact eq_if0 rfl,
   by intros; exact eq_push rfl,
   by intros; exact eq_ret rfl,
   by intros; exact eq_ld rfl rfl,
   by intros; exact eq_push rfl,
   by intros; exact eq_ld rfl rfl,
   by intros; exact eq_gr rfl,
   by intros; exact eq_alen rfl,
   by intros; exact eq_ld rfl rfl,
   by intros; exact eq_i2 (o := mx_sub) rfl,
   by intros; exact eq_cs rfl (Nat.le_of_ble_eq_true rfl) rfl rfl rfl (Nat.le_of_ble_eq_true rfl),
   by intros; exact eq_if1 rfl,
   by intros; exact eq_push rfl,
   by intros; exact eq_ret rfl,
   by intros; exact eq_push rfl,
   by intros; exact eq_st rfl (by decide) (Nat.le_of_ble_eq_true rfl) rfl,
   by intros; exact eq_ld rfl rfl,
   by intros; exact eq_ic3 rfl,
   by intros; exact eq_ld rfl rfl,
   by intros; exact eq_gr rfl,
   by intros; exact eq_ld rfl rfl,
   by intros; exact eq_push rfl,
   by intros; exact eq_push rfl,
   by intros; exact eq_ld rfl rfl,
   by intros; exact eq_gr rfl,
   by intros; exact eq_ld rfl rfl,
   by intros; exact eq_ld rfl rfl,
   by intros; exact eq_i2 (o := mx_add) rfl,
   by intros; exact eq_lald rfl,
   by intros; exact eq_ml (o := ml_min) rfl (Nat.le_of_ble_eq_true rfl),
   by intros; exact eq_ml (o := ml_max) rfl (Nat.le_of_ble_eq_true rfl),
   by intros; exact eq_l2i rfl,
   by intros; exact eq_iast rfl,
   by intros; exact eq_inc rfl rfl rfl,
   by intros; exact eq_go rfl,
   by intros; exact eq_ld rfl rfl,
   by intros; exact eq_gr rfl,
   by intros; exact eq_dup rfl (by decide),
   by intros; exact eq_gi rfl⟩
theorem rw_X11_signs_1 :
  (∀ (d : Nat) (l0 l1 l2 l3 l4 l5 l6 l7 : Option mx_V) (v0 v1 : mx_V) (S h : mx_H) (n : Int), mx_ex d 133 139 [l0, l1, l2, l3, l4, l5, l6, l7] [v0, v1] S h n = mx_ex d 133 140 [l0, l1, l2, l3, l4, l5, l6, l7] [(0, 1), v0, v1] S h n) ∧
  (∀ (d : Nat) (b a : Int) (l0 l1 l2 l3 l4 l5 l6 l7 : Option mx_V) (v2 : mx_V) (S h : mx_H) (n : Int), mx_ex d 133 140 [l0, l1, l2, l3, l4, l5, l6, l7] [(0, b), (0, a), v2] S h n = mx_ex d 133 141 [l0, l1, l2, l3, l4, l5, l6, l7] [(0, mx_w (a + b)), v2] S h n) ∧
  (∀ (d : Nat) (v a : Int) (l0 l1 l2 l3 l4 l5 l6 l7 : Option mx_V) (S h : mx_H) (n : Int), mx_ex d 133 141 [l0, l1, l2, l3, l4, l5, l6, l7] [(0, v), (2, a)] S h n = mx_gd (8 ≤ S a (-2) ∧ S a (-2) ≤ 8) d 133 144 [l0, l1, l2, l3, l4, l5, l6, l7] [] S (mx_u h a 5 v) n) ∧
  (∀ (d : Nat) (x : Int) (l0 l1 l2 l3 l5 l6 l7 : Option mx_V) (S h : mx_H) (n : Int), mx_ex d 133 144 [l0, l1, l2, l3, some (0, x), l5, l6, l7] [] S h n = mx_ex d 133 146 [l0, l1, l2, l3, some (0, x), l5, l6, l7] [(0, x)] S h n) ∧
  (∀ (d : Nat) (x : Int) (l0 l1 l2 l3 l4 l5 l6 l7 : Option mx_V) (S h : mx_H) (n : Int), mx_ex d 133 146 [l0, l1, l2, l3, l4, l5, l6, l7] [(0, x)] S h n = some (some (0, x), S, h, n)) :=
  ⟨by intros; exact eq_push rfl,
   by intros; exact eq_i2 (o := mx_add) rfl,
   by intros; exact eq_pi rfl,
   by intros; exact eq_ld rfl rfl,
   by intros; exact eq_ret rfl⟩
theorem rw_X11_sheet :
  (∀ (d : Nat) (a0 a1 a2 a3 : Int) (S h : mx_H) (n : Int), mx_M d 134 [(2, a0), (0, a1), (0, a2), (0, a3)] S h n = mx_ex d 134 0 [some (2, a0), some (0, a1), some (0, a2), some (0, a3)] [] S h n) ∧
  (∀ (d : Nat) (x : Int) (l0 l2 l3 : Option mx_V) (S h : mx_H) (n : Int), mx_ex d 134 0 [l0, some (0, x), l2, l3] [] S h n = mx_ex d 134 1 [l0, some (0, x), l2, l3] [(0, x)] S h n) ∧
  (∀ (d : Nat) (x0 : Int) (l0 l1 l2 l3 : Option mx_V) (S h : mx_H) (n : Int), mx_ex (d + 1) 134 1 [l0, l1, l2, l3] [(0, x0)] S h n = mx_rt (mx_M d 150 [(0, x0)] S h n) (d + 1) 134 4 [l0, l1, l2, l3] []) ∧
  (∀ (d : Nat) (a : Int) (l0 l1 l2 l3 : Option mx_V) (S h : mx_H) (n : Int), mx_ex d 134 4 [l0, l1, l2, l3] [(0, a)] S h n = mx_br (a = 0) d 134 16 7 [l0, l1, l2, l3] [] S h n) ∧
  (∀ (d : Nat) (x : Int) (l0 l1 l3 : Option mx_V) (S h : mx_H) (n : Int), mx_ex d 134 7 [l0, l1, some (0, x), l3] [] S h n = mx_ex d 134 8 [l0, l1, some (0, x), l3] [(0, x)] S h n) ∧
  (∀ (d : Nat) (l0 l1 l2 l3 : Option mx_V) (v0 : mx_V) (S h : mx_H) (n : Int), mx_ex d 134 8 [l0, l1, l2, l3] [v0] S h n = mx_ex d 134 9 [l0, l1, l2, l3] [(0, (-1)), v0] S h n) ∧
  (∀ (d : Nat) (l0 l1 l2 l3 : Option mx_V) (v0 v1 : mx_V) (S h : mx_H) (n : Int), mx_ex d 134 9 [l0, l1, l2, l3] [v0, v1] S h n = mx_ex d 134 10 [l0, l1, l2, l3] [(0, 3), v0, v1] S h n) ∧
  (∀ (d : Nat) (x0 x1 x2 : Int) (l0 l1 l2 l3 : Option mx_V) (S h : mx_H) (n : Int), mx_ex (d + 1) 134 10 [l0, l1, l2, l3] [(0, x0), (0, x1), (0, x2)] S h n = mx_rt (mx_M d 147 [(0, x2), (0, x1), (0, x0)] S h n) (d + 1) 134 13 [l0, l1, l2, l3] []) ∧
  (∀ (d : Nat) (a : Int) (l0 l1 l2 l3 : Option mx_V) (S h : mx_H) (n : Int), mx_ex d 134 13 [l0, l1, l2, l3] [(0, a)] S h n = mx_br (a = 0) d 134 16 18 [l0, l1, l2, l3] [] S h n) ∧
  (∀ (d : Nat) (l0 l1 l2 l3 : Option mx_V) (S h : mx_H) (n : Int), mx_ex d 134 16 [l0, l1, l2, l3] [] S h n = mx_ex d 134 17 [l0, l1, l2, l3] [(0, (-1))] S h n) ∧
  (∀ (d : Nat) (x : Int) (l0 l1 l2 l3 : Option mx_V) (S h : mx_H) (n : Int), mx_ex d 134 17 [l0, l1, l2, l3] [(0, x)] S h n = some (some (0, x), S, h, n)) ∧
  (∀ (d : Nat) (x : Int) (l0 l1 l3 : Option mx_V) (S h : mx_H) (n : Int), mx_ex d 134 18 [l0, l1, some (0, x), l3] [] S h n = mx_ex d 134 19 [l0, l1, some (0, x), l3] [(0, x)] S h n) ∧
  (∀ (d : Nat) (l0 l1 l2 l3 : Option mx_V) (v0 : mx_V) (S h : mx_H) (n : Int), mx_ex d 134 19 [l0, l1, l2, l3] [v0] S h n = mx_ex d 134 20 [l0, l1, l2, l3] [(0, (-1)), v0] S h n) ∧
  (∀ (d : Nat) (b a : Int) (l0 l1 l2 l3 : Option mx_V) (S h : mx_H) (n : Int), mx_ex d 134 20 [l0, l1, l2, l3] [(0, b), (0, a)] S h n = mx_br (a = b) d 134 23 32 [l0, l1, l2, l3] [] S h n) ∧
  (∀ (d : Nat) (x : Int) (l1 l2 l3 : Option mx_V) (S h : mx_H) (n : Int), mx_ex d 134 23 [some (2, x), l1, l2, l3] [] S h n = mx_ex d 134 24 [some (2, x), l1, l2, l3] [(2, x)] S h n) ∧
  (∀ (d : Nat) (a : Int) (l0 l1 l2 l3 : Option mx_V) (S h : mx_H) (n : Int), mx_ex d 134 24 [l0, l1, l2, l3] [(2, a)] S h n = mx_gd (7 ≤ S a (-2) ∧ S a (-2) ≤ 7) d 134 27 [l0, l1, l2, l3] [(2, S a 12)] S h n) ∧
  (∀ (d : Nat) (x : Int) (l0 l2 l3 : Option mx_V) (v0 : mx_V) (S h : mx_H) (n : Int), mx_ex d 134 27 [l0, some (0, x), l2, l3] [v0] S h n = mx_ex d 134 28 [l0, some (0, x), l2, l3] [(0, x), v0] S h n) ∧
  (∀ (d : Nat) (l0 l1 l2 l3 : Option mx_V) (v0 v1 : mx_V) (S h : mx_H) (n : Int), mx_ex d 134 28 [l0, l1, l2, l3] [v0, v1] S h n = mx_ex d 134 29 [l0, l1, l2, l3] [(2, (-1)), v0, v1] S h n) ∧
  (∀ (d : Nat) (v i a : Int) (l0 l1 l2 l3 : Option mx_V) (S h : mx_H) (n : Int), mx_ex d 134 29 [l0, l1, l2, l3] [(2, v), (0, i), (2, a)] S h n = mx_gd (S a (-2) = 23 ∧ 0 ≤ i ∧ i < S a (-1) ∧ (v = -1 ∨ 12 ≤ S v (-2) ∧ S v (-2) ≤ 12)) d 134 30 [l0, l1, l2, l3] [] (mx_u S a i v) h n) ∧
  (∀ (d : Nat) (l0 l1 l2 l3 : Option mx_V) (S h : mx_H) (n : Int), mx_ex d 134 30 [l0, l1, l2, l3] [] S h n = mx_ex d 134 31 [l0, l1, l2, l3] [(0, 1)] S h n) ∧
  (∀ (d : Nat) (x : Int) (l0 l1 l2 l3 : Option mx_V) (S h : mx_H) (n : Int), mx_ex d 134 31 [l0, l1, l2, l3] [(0, x)] S h n = some (some (0, x), S, h, n)) ∧
  (∀ (d : Nat) (x : Int) (l0 l1 l2 : Option mx_V) (S h : mx_H) (n : Int), mx_ex d 134 32 [l0, l1, l2, some (0, x)] [] S h n = mx_ex d 134 33 [l0, l1, l2, some (0, x)] [(0, x)] S h n) ∧
  (∀ (d : Nat) (l0 l1 l2 l3 : Option mx_V) (v0 : mx_V) (S h : mx_H) (n : Int), mx_ex d 134 33 [l0, l1, l2, l3] [v0] S h n = mx_ex d 134 35 [l0, l1, l2, l3] [(0, 40), v0] S h n) ∧
  (∀ (d : Nat) (b a : Int) (l0 l1 l2 l3 : Option mx_V) (S h : mx_H) (n : Int), mx_ex d 134 35 [l0, l1, l2, l3] [(0, b), (0, a)] S h n = mx_br (b < a) d 134 38 40 [l0, l1, l2, l3] [] S h n) ∧
  (∀ (d : Nat) (l0 l1 l2 l3 : Option mx_V) (S h : mx_H) (n : Int), mx_ex d 134 38 [l0, l1, l2, l3] [] S h n = mx_ex d 134 39 [l0, l1, l2, l3] [(0, (-1))] S h n) ∧
  (∀ (d : Nat) (x : Int) (l0 l1 l2 l3 : Option mx_V) (S h : mx_H) (n : Int), mx_ex d 134 39 [l0, l1, l2, l3] [(0, x)] S h n = some (some (0, x), S, h, n)) ∧
  (∀ (d : Nat) (x : Int) (l0 l1 l2 : Option mx_V) (S h : mx_H) (n : Int), mx_ex d 134 40 [l0, l1, l2, some (0, x)] [] S h n = mx_ex d 134 41 [l0, l1, l2, some (0, x)] [(0, x)] S h n) ∧
  (∀ (d : Nat) (a : Int) (l0 l1 l2 l3 : Option mx_V) (S h : mx_H) (n : Int), mx_ex d 134 41 [l0, l1, l2, l3] [(0, a)] S h n = mx_br (a < 0) d 134 44 47 [l0, l1, l2, l3] [] S h n) ∧
  (∀ (d : Nat) (l0 l1 l2 l3 : Option mx_V) (S h : mx_H) (n : Int), mx_ex d 134 44 [l0, l1, l2, l3] [] S h n = mx_ex d 134 46 [l0, l1, l2, l3] [(0, (-14))] S h n) ∧
  (∀ (d : Nat) (x : Int) (l0 l1 l2 l3 : Option mx_V) (S h : mx_H) (n : Int), mx_ex d 134 46 [l0, l1, l2, l3] [(0, x)] S h n = some (some (0, x), S, h, n)) ∧
  (∀ (d : Nat) (x : Int) (l1 l2 l3 : Option mx_V) (S h : mx_H) (n : Int), mx_ex d 134 47 [some (2, x), l1, l2, l3] [] S h n = mx_ex d 134 48 [some (2, x), l1, l2, l3] [(2, x)] S h n) ∧
  (∀ (d : Nat) (a : Int) (l0 l1 l2 l3 : Option mx_V) (S h : mx_H) (n : Int), mx_ex d 134 48 [l0, l1, l2, l3] [(2, a)] S h n = mx_gd (7 ≤ S a (-2) ∧ S a (-2) ≤ 7) d 134 51 [l0, l1, l2, l3] [(2, S a 12)] S h n) ∧
  (∀ (d : Nat) (x : Int) (l0 l2 l3 : Option mx_V) (v0 : mx_V) (S h : mx_H) (n : Int), mx_ex d 134 51 [l0, some (0, x), l2, l3] [v0] S h n = mx_ex d 134 52 [l0, some (0, x), l2, l3] [(0, x), v0] S h n) ∧
  (∀ (d : Nat) (l0 l1 l2 l3 : Option mx_V) (v0 v1 : mx_V) (S h : mx_H) (n : Int), mx_ex d 134 52 [l0, l1, l2, l3] [v0, v1] S h n = mx_ex d 134 55 [l0, l1, l2, l3] [(2, n), v0, v1] (mx_t S n 12 0) (mx_z h n) (n + 1)) ∧
  (∀ (d : Nat) (a : Int) (l0 l1 l2 l3 : Option mx_V) (v1 v2 : mx_V) (S h : mx_H) (n : Int), mx_ex d 134 55 [l0, l1, l2, l3] [(2, a), v1, v2] S h n = mx_ex d 134 56 [l0, l1, l2, l3] [(2, a), (2, a), v1, v2] S h n) ∧
  (∀ (d : Nat) (x : Int) (l0 l1 l3 : Option mx_V) (v0 v1 v2 v3 : mx_V) (S h : mx_H) (n : Int), mx_ex d 134 56 [l0, l1, some (0, x), l3] [v0, v1, v2, v3] S h n = mx_ex d 134 57 [l0, l1, some (0, x), l3] [(0, x), v0, v1, v2, v3] S h n) ∧
  (∀ (d : Nat) (x : Int) (l0 l1 l2 : Option mx_V) (v0 v1 v2 v3 v4 : mx_V) (S h : mx_H) (n : Int), mx_ex d 134 57 [l0, l1, l2, some (0, x)] [v0, v1, v2, v3, v4] S h n = mx_ex d 134 58 [l0, l1, l2, some (0, x)] [(0, x), v0, v1, v2, v3, v4] S h n) ∧
  (∀ (d : Nat) (x0 x1 a : Int) (l0 l1 l2 l3 : Option mx_V) (v3 v4 v5 : mx_V) (S h : mx_H) (n : Int), mx_ex (d + 1) 134 58 [l0, l1, l2, l3] [(0, x0), (0, x1), (2, a), v3, v4, v5] S h n = mx_cl (12 ≤ S a (-2) ∧ S a (-2) ≤ 12) d 52 [(2, a), (0, x1), (0, x0)] 134 61 [l0, l1, l2, l3] [v3, v4, v5] S h n) ∧
  (∀ (d : Nat) (v i a : Int) (l0 l1 l2 l3 : Option mx_V) (S h : mx_H) (n : Int), mx_ex d 134 61 [l0, l1, l2, l3] [(2, v), (0, i), (2, a)] S h n = mx_gd (S a (-2) = 23 ∧ 0 ≤ i ∧ i < S a (-1) ∧ (v = -1 ∨ 12 ≤ S v (-2) ∧ S v (-2) ≤ 12)) d 134 62 [l0, l1, l2, l3] [] (mx_u S a i v) h n) ∧
  (∀ (d : Nat) (l0 l1 l2 l3 : Option mx_V) (S h : mx_H) (n : Int), mx_ex d 134 62 [l0, l1, l2, l3] [] S h n = mx_ex d 134 63 [l0, l1, l2, l3] [(0, 1)] S h n) ∧
  (∀ (d : Nat) (x : Int) (l0 l1 l2 l3 : Option mx_V) (S h : mx_H) (n : Int), mx_ex d 134 63 [l0, l1, l2, l3] [(0, x)] S h n = some (some (0, x), S, h, n)) :=
  ⟨by intros; exact rfl,
   by intros; exact eq_ld rfl rfl,
   by intros; exact eq_cs rfl (Nat.le_of_ble_eq_true rfl) rfl rfl rfl (Nat.le_of_ble_eq_true rfl),
   by intros; exact eq_if0 rfl,
   by intros; exact eq_ld rfl rfl,
   by intros; exact eq_push rfl,
   by intros; exact eq_push rfl,
   by intros; exact eq_cs rfl (Nat.le_of_ble_eq_true rfl) rfl rfl rfl (Nat.le_of_ble_eq_true rfl),
   by intros; exact eq_if1 rfl,
   by intros; exact eq_push rfl,
   by intros; exact eq_ret rfl,
   by intros; exact eq_ld rfl rfl,
   by intros; exact eq_push rfl,
   by intros; exact eq_ic1 rfl,
   by intros; exact eq_ld rfl rfl,
   by intros; exact eq_gr rfl,
   by intros; exact eq_ld rfl rfl,
   by intros; exact eq_push rfl,
   by intros; exact eq_aast rfl,
   by intros; exact eq_push rfl,
   by intros; exact eq_ret rfl,
   by intros; exact eq_ld rfl rfl,
   by intros; exact eq_push rfl,
   by intros; exact eq_ic5 rfl,
   by intros; exact eq_push rfl,
   by intros; exact eq_ret rfl,
   by intros; exact eq_ld rfl rfl,
   by intros; exact eq_if3 rfl,
   by intros; exact eq_push rfl,
   by intros; exact eq_ret rfl,
   by intros; exact eq_ld rfl rfl,
   by intros; exact eq_gr rfl,
   by intros; exact eq_ld rfl rfl,
   by intros; exact eq_new rfl,
   by intros; exact eq_dup rfl (by decide),
   by intros; exact eq_ld rfl rfl,
   by intros; exact eq_ld rfl rfl,
   by intros; exact eq_ci rfl (Nat.le_of_ble_eq_true rfl) rfl rfl rfl (Nat.le_of_ble_eq_true rfl),
   by intros; exact eq_aast rfl,
   by intros; exact eq_push rfl,
   by intros; exact eq_ret rfl⟩
theorem rw_X11_put :
  (∀ (d : Nat) (a0 a1 a2 a3 : Int) (S h : mx_H) (n : Int), mx_M d 135 [(2, a0), (0, a1), (0, a2), (0, a3)] S h n = mx_ex d 135 0 [some (2, a0), some (0, a1), some (0, a2), some (0, a3), none] [] S h n) ∧
  (∀ (d : Nat) (x : Int) (l0 l2 l3 l4 : Option mx_V) (S h : mx_H) (n : Int), mx_ex d 135 0 [l0, some (0, x), l2, l3, l4] [] S h n = mx_ex d 135 1 [l0, some (0, x), l2, l3, l4] [(0, x)] S h n) ∧
  (∀ (d : Nat) (x0 : Int) (l0 l1 l2 l3 l4 : Option mx_V) (S h : mx_H) (n : Int), mx_ex (d + 1) 135 1 [l0, l1, l2, l3, l4] [(0, x0)] S h n = mx_rt (mx_M d 150 [(0, x0)] S h n) (d + 1) 135 4 [l0, l1, l2, l3, l4] []) ∧
  (∀ (d : Nat) (a : Int) (l0 l1 l2 l3 l4 : Option mx_V) (S h : mx_H) (n : Int), mx_ex d 135 4 [l0, l1, l2, l3, l4] [(0, a)] S h n = mx_br (a = 0) d 135 7 9 [l0, l1, l2, l3, l4] [] S h n) ∧
  (∀ (d : Nat) (l0 l1 l2 l3 l4 : Option mx_V) (S h : mx_H) (n : Int), mx_ex d 135 7 [l0, l1, l2, l3, l4] [] S h n = mx_ex d 135 8 [l0, l1, l2, l3, l4] [(0, (-1))] S h n) ∧
  (∀ (d : Nat) (x : Int) (l0 l1 l2 l3 l4 : Option mx_V) (S h : mx_H) (n : Int), mx_ex d 135 8 [l0, l1, l2, l3, l4] [(0, x)] S h n = some (some (0, x), S, h, n)) ∧
  (∀ (d : Nat) (x : Int) (l1 l2 l3 l4 : Option mx_V) (S h : mx_H) (n : Int), mx_ex d 135 9 [some (2, x), l1, l2, l3, l4] [] S h n = mx_ex d 135 10 [some (2, x), l1, l2, l3, l4] [(2, x)] S h n) ∧
  (∀ (d : Nat) (a : Int) (l0 l1 l2 l3 l4 : Option mx_V) (S h : mx_H) (n : Int), mx_ex d 135 10 [l0, l1, l2, l3, l4] [(2, a)] S h n = mx_gd (7 ≤ S a (-2) ∧ S a (-2) ≤ 7) d 135 13 [l0, l1, l2, l3, l4] [(2, S a 12)] S h n) ∧
  (∀ (d : Nat) (x : Int) (l0 l2 l3 l4 : Option mx_V) (v0 : mx_V) (S h : mx_H) (n : Int), mx_ex d 135 13 [l0, some (0, x), l2, l3, l4] [v0] S h n = mx_ex d 135 14 [l0, some (0, x), l2, l3, l4] [(0, x), v0] S h n) ∧
  (∀ (d : Nat) (i a : Int) (l0 l1 l2 l3 l4 : Option mx_V) (S h : mx_H) (n : Int), mx_ex d 135 14 [l0, l1, l2, l3, l4] [(0, i), (2, a)] S h n = mx_gd (S a (-2) = 23 ∧ 0 ≤ i ∧ i < S a (-1)) d 135 15 [l0, l1, l2, l3, l4] [(2, S a i)] S h n) ∧
  (∀ (d : Nat) (x : Int) (l0 l1 l2 l3 l4 : Option mx_V) (S h : mx_H) (n : Int), mx_ex d 135 15 [l0, l1, l2, l3, l4] [(2, x)] S h n = mx_ex d 135 17 [l0, l1, l2, mx_nl l3, some (2, x)] [] S h n) ∧
  (∀ (d : Nat) (x : Int) (l0 l1 l2 l3 : Option mx_V) (S h : mx_H) (n : Int), mx_ex d 135 17 [l0, l1, l2, l3, some (2, x)] [] S h n = mx_ex d 135 19 [l0, l1, l2, l3, some (2, x)] [(2, x)] S h n) ∧
  (∀ (d : Nat) (a : Int) (l0 l1 l2 l3 l4 : Option mx_V) (S h : mx_H) (n : Int), mx_ex d 135 19 [l0, l1, l2, l3, l4] [(2, a)] S h n = mx_br (a = -1) d 135 22 25 [l0, l1, l2, l3, l4] [] S h n) ∧
  (∀ (d : Nat) (l0 l1 l2 l3 l4 : Option mx_V) (S h : mx_H) (n : Int), mx_ex d 135 22 [l0, l1, l2, l3, l4] [] S h n = mx_ex d 135 24 [l0, l1, l2, l3, l4] [(0, (-11))] S h n) ∧
  (∀ (d : Nat) (x : Int) (l0 l1 l2 l3 l4 : Option mx_V) (S h : mx_H) (n : Int), mx_ex d 135 24 [l0, l1, l2, l3, l4] [(0, x)] S h n = some (some (0, x), S, h, n)) ∧
  (∀ (d : Nat) (x : Int) (l0 l1 l3 l4 : Option mx_V) (S h : mx_H) (n : Int), mx_ex d 135 25 [l0, l1, some (0, x), l3, l4] [] S h n = mx_ex d 135 26 [l0, l1, some (0, x), l3, l4] [(0, x)] S h n) ∧
  (∀ (d : Nat) (l0 l1 l2 l3 l4 : Option mx_V) (v0 : mx_V) (S h : mx_H) (n : Int), mx_ex d 135 26 [l0, l1, l2, l3, l4] [v0] S h n = mx_ex d 135 27 [l0, l1, l2, l3, l4] [(0, 0), v0] S h n) ∧
  (∀ (d : Nat) (x : Int) (l0 l1 l2 l3 : Option mx_V) (v0 v1 : mx_V) (S h : mx_H) (n : Int), mx_ex d 135 27 [l0, l1, l2, l3, some (2, x)] [v0, v1] S h n = mx_ex d 135 29 [l0, l1, l2, l3, some (2, x)] [(2, x), v0, v1] S h n) ∧
  (∀ (d : Nat) (a : Int) (l0 l1 l2 l3 l4 : Option mx_V) (v1 v2 : mx_V) (S h : mx_H) (n : Int), mx_ex d 135 29 [l0, l1, l2, l3, l4] [(2, a), v1, v2] S h n = mx_gd (12 ≤ S a (-2) ∧ S a (-2) ≤ 12) d 135 32 [l0, l1, l2, l3, l4] [(2, S a 1), v1, v2] S h n) ∧
  (∀ (d : Nat) (a : Int) (l0 l1 l2 l3 l4 : Option mx_V) (v1 v2 : mx_V) (S h : mx_H) (n : Int), mx_ex d 135 32 [l0, l1, l2, l3, l4] [(2, a), v1, v2] S h n = mx_gd (20 ≤ S a (-2) ∧ S a (-2) ≤ 25) d 135 33 [l0, l1, l2, l3, l4] [(0, S a (-1)), v1, v2] S h n) ∧
  (∀ (d : Nat) (l0 l1 l2 l3 l4 : Option mx_V) (v0 v1 v2 : mx_V) (S h : mx_H) (n : Int), mx_ex d 135 33 [l0, l1, l2, l3, l4] [v0, v1, v2] S h n = mx_ex d 135 34 [l0, l1, l2, l3, l4] [(0, 1), v0, v1, v2] S h n) ∧
  (∀ (d : Nat) (b a : Int) (l0 l1 l2 l3 l4 : Option mx_V) (v2 v3 : mx_V) (S h : mx_H) (n : Int), mx_ex d 135 34 [l0, l1, l2, l3, l4] [(0, b), (0, a), v2, v3] S h n = mx_ex d 135 35 [l0, l1, l2, l3, l4] [(0, mx_w (a - b)), v2, v3] S h n) ∧
  (∀ (d : Nat) (x0 x1 x2 : Int) (l0 l1 l2 l3 l4 : Option mx_V) (S h : mx_H) (n : Int), mx_ex (d + 1) 135 35 [l0, l1, l2, l3, l4] [(0, x0), (0, x1), (0, x2)] S h n = mx_rt (mx_M d 147 [(0, x2), (0, x1), (0, x0)] S h n) (d + 1) 135 38 [l0, l1, l2, l3, l4] []) ∧
  (∀ (d : Nat) (a : Int) (l0 l1 l2 l3 l4 : Option mx_V) (S h : mx_H) (n : Int), mx_ex d 135 38 [l0, l1, l2, l3, l4] [(0, a)] S h n = mx_br (a = 0) d 135 41 44 [l0, l1, l2, l3, l4] [] S h n) ∧
  (∀ (d : Nat) (l0 l1 l2 l3 l4 : Option mx_V) (S h : mx_H) (n : Int), mx_ex d 135 41 [l0, l1, l2, l3, l4] [] S h n = mx_ex d 135 43 [l0, l1, l2, l3, l4] [(0, (-12))] S h n) ∧
  (∀ (d : Nat) (x : Int) (l0 l1 l2 l3 l4 : Option mx_V) (S h : mx_H) (n : Int), mx_ex d 135 43 [l0, l1, l2, l3, l4] [(0, x)] S h n = some (some (0, x), S, h, n)) ∧
  (∀ (d : Nat) (x : Int) (l0 l1 l2 l3 : Option mx_V) (S h : mx_H) (n : Int), mx_ex d 135 44 [l0, l1, l2, l3, some (2, x)] [] S h n = mx_ex d 135 46 [l0, l1, l2, l3, some (2, x)] [(2, x)] S h n) ∧
  (∀ (d : Nat) (a : Int) (l0 l1 l2 l3 l4 : Option mx_V) (S h : mx_H) (n : Int), mx_ex d 135 46 [l0, l1, l2, l3, l4] [(2, a)] S h n = mx_gd (12 ≤ S a (-2) ∧ S a (-2) ≤ 12) d 135 49 [l0, l1, l2, l3, l4] [(2, S a 1)] S h n) ∧
  (∀ (d : Nat) (x : Int) (l0 l1 l3 l4 : Option mx_V) (v0 : mx_V) (S h : mx_H) (n : Int), mx_ex d 135 49 [l0, l1, some (0, x), l3, l4] [v0] S h n = mx_ex d 135 50 [l0, l1, some (0, x), l3, l4] [(0, x), v0] S h n) ∧
  (∀ (d : Nat) (x : Int) (l0 l1 l2 l3 : Option mx_V) (v0 v1 : mx_V) (S h : mx_H) (n : Int), mx_ex d 135 50 [l0, l1, l2, l3, some (2, x)] [v0, v1] S h n = mx_ex d 135 52 [l0, l1, l2, l3, some (2, x)] [(2, x), v0, v1] S h n) ∧
  (∀ (d : Nat) (x : Int) (l0 l1 l2 l4 : Option mx_V) (v0 v1 v2 : mx_V) (S h : mx_H) (n : Int), mx_ex d 135 52 [l0, l1, l2, some (0, x), l4] [v0, v1, v2] S h n = mx_ex d 135 53 [l0, l1, l2, some (0, x), l4] [(0, x), v0, v1, v2] S h n) ∧
  (∀ (d : Nat) (x0 a : Int) (l0 l1 l2 l3 l4 : Option mx_V) (v2 v3 : mx_V) (S h : mx_H) (n : Int), mx_ex (d + 1) 135 53 [l0, l1, l2, l3, l4] [(0, x0), (2, a), v2, v3] S h n = mx_cl (S a (-2) = 12) d 53 [(2, a), (0, x0)] 135 56 [l0, l1, l2, l3, l4] [v2, v3] S h n) ∧
  (∀ (d : Nat) (v i a : Int) (l0 l1 l2 l3 l4 : Option mx_V) (S h : mx_H) (n : Int), mx_ex d 135 56 [l0, l1, l2, l3, l4] [(1, v), (0, i), (2, a)] S h n = mx_gd (S a (-2) = 21 ∧ 0 ≤ i ∧ i < S a (-1)) d 135 57 [l0, l1, l2, l3, l4] [] S (mx_u h a i v) n) ∧
  (∀ (d : Nat) (l0 l1 l2 l3 l4 : Option mx_V) (S h : mx_H) (n : Int), mx_ex d 135 57 [l0, l1, l2, l3, l4] [] S h n = mx_ex d 135 58 [l0, l1, l2, l3, l4] [(0, 1)] S h n) ∧
  (∀ (d : Nat) (x : Int) (l0 l1 l2 l3 l4 : Option mx_V) (S h : mx_H) (n : Int), mx_ex d 135 58 [l0, l1, l2, l3, l4] [(0, x)] S h n = some (some (0, x), S, h, n)) :=
  ⟨by intros; exact rfl,
   by intros; exact eq_ld rfl rfl,
   by intros; exact eq_cs rfl (Nat.le_of_ble_eq_true rfl) rfl rfl rfl (Nat.le_of_ble_eq_true rfl),
   by intros; exact eq_if1 rfl,
   by intros; exact eq_push rfl,
   by intros; exact eq_ret rfl,
   by intros; exact eq_ld rfl rfl,
   by intros; exact eq_gr rfl,
   by intros; exact eq_ld rfl rfl,
   by intros; exact eq_aald rfl,
   by intros; exact eq_st rfl (by decide) (Nat.le_of_ble_eq_true rfl) rfl,
   by intros; exact eq_ld rfl rfl,
   by intros; exact eq_nul rfl,
   by intros; exact eq_push rfl,
   by intros; exact eq_ret rfl,
   by intros; exact eq_ld rfl rfl,
   by intros; exact eq_push rfl,
   by intros; exact eq_ld rfl rfl,
   by intros; exact eq_gr rfl,
   by intros; exact eq_alen rfl,
   by intros; exact eq_push rfl,
   by intros; exact eq_i2 (o := mx_sub) rfl,
   by intros; exact eq_cs rfl (Nat.le_of_ble_eq_true rfl) rfl rfl rfl (Nat.le_of_ble_eq_true rfl),
   by intros; exact eq_if1 rfl,
   by intros; exact eq_push rfl,
   by intros; exact eq_ret rfl,
   by intros; exact eq_ld rfl rfl,
   by intros; exact eq_gr rfl,
   by intros; exact eq_ld rfl rfl,
   by intros; exact eq_ld rfl rfl,
   by intros; exact eq_ld rfl rfl,
   by intros; exact eq_cv rfl (Nat.le_of_ble_eq_true rfl) rfl rfl rfl (Nat.le_of_ble_eq_true rfl),
   by intros; exact eq_last rfl,
   by intros; exact eq_push rfl,
   by intros; exact eq_ret rfl⟩
theorem rw_X11_item :
  (∀ (d : Nat) (a0 a1 a2 a3 : Int) (S h : mx_H) (n : Int), mx_M d 136 [(2, a0), (0, a1), (0, a2), (0, a3)] S h n = mx_ex d 136 0 [some (2, a0), some (0, a1), some (0, a2), some (0, a3), none] [] S h n) ∧
  (∀ (d : Nat) (x : Int) (l0 l2 l3 l4 : Option mx_V) (S h : mx_H) (n : Int), mx_ex d 136 0 [l0, some (0, x), l2, l3, l4] [] S h n = mx_ex d 136 1 [l0, some (0, x), l2, l3, l4] [(0, x)] S h n) ∧
  (∀ (d : Nat) (x0 : Int) (l0 l1 l2 l3 l4 : Option mx_V) (S h : mx_H) (n : Int), mx_ex (d + 1) 136 1 [l0, l1, l2, l3, l4] [(0, x0)] S h n = mx_rt (mx_M d 150 [(0, x0)] S h n) (d + 1) 136 4 [l0, l1, l2, l3, l4] []) ∧
  (∀ (d : Nat) (a : Int) (l0 l1 l2 l3 l4 : Option mx_V) (S h : mx_H) (n : Int), mx_ex d 136 4 [l0, l1, l2, l3, l4] [(0, a)] S h n = mx_br (a = 0) d 136 16 7 [l0, l1, l2, l3, l4] [] S h n) ∧
  (∀ (d : Nat) (x : Int) (l0 l1 l3 l4 : Option mx_V) (S h : mx_H) (n : Int), mx_ex d 136 7 [l0, l1, some (0, x), l3, l4] [] S h n = mx_ex d 136 8 [l0, l1, some (0, x), l3, l4] [(0, x)] S h n) ∧
  (∀ (d : Nat) (l0 l1 l2 l3 l4 : Option mx_V) (v0 : mx_V) (S h : mx_H) (n : Int), mx_ex d 136 8 [l0, l1, l2, l3, l4] [v0] S h n = mx_ex d 136 9 [l0, l1, l2, l3, l4] [(0, 0), v0] S h n) ∧
  (∀ (d : Nat) (l0 l1 l2 l3 l4 : Option mx_V) (v0 v1 : mx_V) (S h : mx_H) (n : Int), mx_ex d 136 9 [l0, l1, l2, l3, l4] [v0, v1] S h n = mx_ex d 136 10 [l0, l1, l2, l3, l4] [(0, 3), v0, v1] S h n) ∧
  (∀ (d : Nat) (x0 x1 x2 : Int) (l0 l1 l2 l3 l4 : Option mx_V) (S h : mx_H) (n : Int), mx_ex (d + 1) 136 10 [l0, l1, l2, l3, l4] [(0, x0), (0, x1), (0, x2)] S h n = mx_rt (mx_M d 147 [(0, x2), (0, x1), (0, x0)] S h n) (d + 1) 136 13 [l0, l1, l2, l3, l4] []) ∧
  (∀ (d : Nat) (a : Int) (l0 l1 l2 l3 l4 : Option mx_V) (S h : mx_H) (n : Int), mx_ex d 136 13 [l0, l1, l2, l3, l4] [(0, a)] S h n = mx_br (a = 0) d 136 16 18 [l0, l1, l2, l3, l4] [] S h n) ∧
  (∀ (d : Nat) (l0 l1 l2 l3 l4 : Option mx_V) (S h : mx_H) (n : Int), mx_ex d 136 16 [l0, l1, l2, l3, l4] [] S h n = mx_ex d 136 17 [l0, l1, l2, l3, l4] [(0, (-1))] S h n) ∧
  (∀ (d : Nat) (x : Int) (l0 l1 l2 l3 l4 : Option mx_V) (S h : mx_H) (n : Int), mx_ex d 136 17 [l0, l1, l2, l3, l4] [(0, x)] S h n = some (some (0, x), S, h, n)) ∧
  (∀ (d : Nat) (x : Int) (l1 l2 l3 l4 : Option mx_V) (S h : mx_H) (n : Int), mx_ex d 136 18 [some (2, x), l1, l2, l3, l4] [] S h n = mx_ex d 136 19 [some (2, x), l1, l2, l3, l4] [(2, x)] S h n) ∧
  (∀ (d : Nat) (a : Int) (l0 l1 l2 l3 l4 : Option mx_V) (S h : mx_H) (n : Int), mx_ex d 136 19 [l0, l1, l2, l3, l4] [(2, a)] S h n = mx_gd (7 ≤ S a (-2) ∧ S a (-2) ≤ 7) d 136 22 [l0, l1, l2, l3, l4] [(2, S a 12)] S h n) ∧
  (∀ (d : Nat) (x : Int) (l0 l2 l3 l4 : Option mx_V) (v0 : mx_V) (S h : mx_H) (n : Int), mx_ex d 136 22 [l0, some (0, x), l2, l3, l4] [v0] S h n = mx_ex d 136 23 [l0, some (0, x), l2, l3, l4] [(0, x), v0] S h n) ∧
  (∀ (d : Nat) (i a : Int) (l0 l1 l2 l3 l4 : Option mx_V) (S h : mx_H) (n : Int), mx_ex d 136 23 [l0, l1, l2, l3, l4] [(0, i), (2, a)] S h n = mx_gd (S a (-2) = 23 ∧ 0 ≤ i ∧ i < S a (-1)) d 136 24 [l0, l1, l2, l3, l4] [(2, S a i)] S h n) ∧
  (∀ (d : Nat) (x : Int) (l0 l1 l2 l3 l4 : Option mx_V) (S h : mx_H) (n : Int), mx_ex d 136 24 [l0, l1, l2, l3, l4] [(2, x)] S h n = mx_ex d 136 26 [l0, l1, l2, mx_nl l3, some (2, x)] [] S h n) ∧
  (∀ (d : Nat) (x : Int) (l0 l1 l2 l3 : Option mx_V) (S h : mx_H) (n : Int), mx_ex d 136 26 [l0, l1, l2, l3, some (2, x)] [] S h n = mx_ex d 136 28 [l0, l1, l2, l3, some (2, x)] [(2, x)] S h n) ∧
  (∀ (d : Nat) (a : Int) (l0 l1 l2 l3 l4 : Option mx_V) (S h : mx_H) (n : Int), mx_ex d 136 28 [l0, l1, l2, l3, l4] [(2, a)] S h n = mx_br (a = -1) d 136 31 34 [l0, l1, l2, l3, l4] [] S h n) ∧
  (∀ (d : Nat) (l0 l1 l2 l3 l4 : Option mx_V) (S h : mx_H) (n : Int), mx_ex d 136 31 [l0, l1, l2, l3, l4] [] S h n = mx_ex d 136 33 [l0, l1, l2, l3, l4] [(0, (-11))] S h n) ∧
  (∀ (d : Nat) (x : Int) (l0 l1 l2 l3 l4 : Option mx_V) (S h : mx_H) (n : Int), mx_ex d 136 33 [l0, l1, l2, l3, l4] [(0, x)] S h n = some (some (0, x), S, h, n)) ∧
  (∀ (d : Nat) (x : Int) (l0 l1 l2 l3 : Option mx_V) (S h : mx_H) (n : Int), mx_ex d 136 34 [l0, l1, l2, l3, some (2, x)] [] S h n = mx_ex d 136 36 [l0, l1, l2, l3, some (2, x)] [(2, x)] S h n) ∧
  (∀ (d : Nat) (a : Int) (l0 l1 l2 l3 l4 : Option mx_V) (S h : mx_H) (n : Int), mx_ex d 136 36 [l0, l1, l2, l3, l4] [(2, a)] S h n = mx_gd (12 ≤ S a (-2) ∧ S a (-2) ≤ 12) d 136 39 [l0, l1, l2, l3, l4] [(0, h a 0)] S h n) ∧
  (∀ (d : Nat) (x : Int) (l0 l1 l3 l4 : Option mx_V) (v0 : mx_V) (S h : mx_H) (n : Int), mx_ex d 136 39 [l0, l1, some (0, x), l3, l4] [v0] S h n = mx_ex d 136 40 [l0, l1, some (0, x), l3, l4] [(0, x), v0] S h n) ∧
  (∀ (d : Nat) (b a : Int) (l0 l1 l2 l3 l4 : Option mx_V) (S h : mx_H) (n : Int), mx_ex d 136 40 [l0, l1, l2, l3, l4] [(0, b), (0, a)] S h n = mx_br (a = b) d 136 46 43 [l0, l1, l2, l3, l4] [] S h n) ∧
  (∀ (d : Nat) (l0 l1 l2 l3 l4 : Option mx_V) (S h : mx_H) (n : Int), mx_ex d 136 43 [l0, l1, l2, l3, l4] [] S h n = mx_ex d 136 45 [l0, l1, l2, l3, l4] [(0, (-13))] S h n) ∧
  (∀ (d : Nat) (x : Int) (l0 l1 l2 l3 l4 : Option mx_V) (S h : mx_H) (n : Int), mx_ex d 136 45 [l0, l1, l2, l3, l4] [(0, x)] S h n = some (some (0, x), S, h, n)) ∧
  (∀ (d : Nat) (x : Int) (l0 l1 l2 l4 : Option mx_V) (S h : mx_H) (n : Int), mx_ex d 136 46 [l0, l1, l2, some (0, x), l4] [] S h n = mx_ex d 136 47 [l0, l1, l2, some (0, x), l4] [(0, x)] S h n) ∧
  (∀ (d : Nat) (l0 l1 l2 l3 l4 : Option mx_V) (v0 : mx_V) (S h : mx_H) (n : Int), mx_ex d 136 47 [l0, l1, l2, l3, l4] [v0] S h n = mx_ex d 136 48 [l0, l1, l2, l3, l4] [(0, 0), v0] S h n) ∧
  (∀ (d : Nat) (x : Int) (l0 l1 l2 l3 : Option mx_V) (v0 v1 : mx_V) (S h : mx_H) (n : Int), mx_ex d 136 48 [l0, l1, l2, l3, some (2, x)] [v0, v1] S h n = mx_ex d 136 50 [l0, l1, l2, l3, some (2, x)] [(2, x), v0, v1] S h n) ∧
  (∀ (d : Nat) (a : Int) (l0 l1 l2 l3 l4 : Option mx_V) (v1 v2 : mx_V) (S h : mx_H) (n : Int), mx_ex d 136 50 [l0, l1, l2, l3, l4] [(2, a), v1, v2] S h n = mx_gd (12 ≤ S a (-2) ∧ S a (-2) ≤ 12) d 136 53 [l0, l1, l2, l3, l4] [(2, S a 1), v1, v2] S h n) ∧
  (∀ (d : Nat) (a : Int) (l0 l1 l2 l3 l4 : Option mx_V) (v1 v2 : mx_V) (S h : mx_H) (n : Int), mx_ex d 136 53 [l0, l1, l2, l3, l4] [(2, a), v1, v2] S h n = mx_gd (20 ≤ S a (-2) ∧ S a (-2) ≤ 25) d 136 54 [l0, l1, l2, l3, l4] [(0, S a (-1)), v1, v2] S h n) ∧
  (∀ (d : Nat) (l0 l1 l2 l3 l4 : Option mx_V) (v0 v1 v2 : mx_V) (S h : mx_H) (n : Int), mx_ex d 136 54 [l0, l1, l2, l3, l4] [v0, v1, v2] S h n = mx_ex d 136 55 [l0, l1, l2, l3, l4] [(0, 1), v0, v1, v2] S h n) ∧
  (∀ (d : Nat) (b a : Int) (l0 l1 l2 l3 l4 : Option mx_V) (v2 v3 : mx_V) (S h : mx_H) (n : Int), mx_ex d 136 55 [l0, l1, l2, l3, l4] [(0, b), (0, a), v2, v3] S h n = mx_ex d 136 56 [l0, l1, l2, l3, l4] [(0, mx_w (a - b)), v2, v3] S h n) ∧
  (∀ (d : Nat) (x0 x1 x2 : Int) (l0 l1 l2 l3 l4 : Option mx_V) (S h : mx_H) (n : Int), mx_ex (d + 1) 136 56 [l0, l1, l2, l3, l4] [(0, x0), (0, x1), (0, x2)] S h n = mx_rt (mx_M d 147 [(0, x2), (0, x1), (0, x0)] S h n) (d + 1) 136 59 [l0, l1, l2, l3, l4] []) ∧
  (∀ (d : Nat) (a : Int) (l0 l1 l2 l3 l4 : Option mx_V) (S h : mx_H) (n : Int), mx_ex d 136 59 [l0, l1, l2, l3, l4] [(0, a)] S h n = mx_br (a = 0) d 136 62 65 [l0, l1, l2, l3, l4] [] S h n) ∧
  (∀ (d : Nat) (l0 l1 l2 l3 l4 : Option mx_V) (S h : mx_H) (n : Int), mx_ex d 136 62 [l0, l1, l2, l3, l4] [] S h n = mx_ex d 136 64 [l0, l1, l2, l3, l4] [(0, (-12))] S h n) ∧
  (∀ (d : Nat) (x : Int) (l0 l1 l2 l3 l4 : Option mx_V) (S h : mx_H) (n : Int), mx_ex d 136 64 [l0, l1, l2, l3, l4] [(0, x)] S h n = some (some (0, x), S, h, n)) ∧
  (∀ (d : Nat) (x : Int) (l0 l1 l2 l3 : Option mx_V) (S h : mx_H) (n : Int), mx_ex d 136 65 [l0, l1, l2, l3, some (2, x)] [] S h n = mx_ex d 136 67 [l0, l1, l2, l3, some (2, x)] [(2, x)] S h n) ∧
  (∀ (d : Nat) (a : Int) (l0 l1 l2 l3 l4 : Option mx_V) (S h : mx_H) (n : Int), mx_ex d 136 67 [l0, l1, l2, l3, l4] [(2, a)] S h n = mx_gd (12 ≤ S a (-2) ∧ S a (-2) ≤ 12) d 136 70 [l0, l1, l2, l3, l4] [(2, S a 1)] S h n) ∧
  (∀ (d : Nat) (x : Int) (l0 l1 l2 l4 : Option mx_V) (v0 : mx_V) (S h : mx_H) (n : Int), mx_ex d 136 70 [l0, l1, l2, some (0, x), l4] [v0] S h n = mx_ex d 136 71 [l0, l1, l2, some (0, x), l4] [(0, x), v0] S h n) ∧
  (∀ (d : Nat) (i a : Int) (l0 l1 l2 l3 l4 : Option mx_V) (S h : mx_H) (n : Int), mx_ex d 136 71 [l0, l1, l2, l3, l4] [(0, i), (2, a)] S h n = mx_gd (S a (-2) = 21 ∧ 0 ≤ i ∧ i < S a (-1)) d 136 72 [l0, l1, l2, l3, l4] [(1, h a i)] S h n) ∧
  (∀ (d : Nat) (a : Int) (l0 l1 l2 l3 l4 : Option mx_V) (S h : mx_H) (n : Int), mx_ex d 136 72 [l0, l1, l2, l3, l4] [(1, a)] S h n = mx_ex d 136 73 [l0, l1, l2, l3, l4] [(0, mx_w a)] S h n) ∧
  (∀ (d : Nat) (x : Int) (l0 l1 l2 l3 l4 : Option mx_V) (S h : mx_H) (n : Int), mx_ex d 136 73 [l0, l1, l2, l3, l4] [(0, x)] S h n = some (some (0, x), S, h, n)) :=
  ⟨by intros; exact rfl,
   by intros; exact eq_ld rfl rfl,
   by intros; exact eq_cs rfl (Nat.le_of_ble_eq_true rfl) rfl rfl rfl (Nat.le_of_ble_eq_true rfl),
   by intros; exact eq_if0 rfl,
   by intros; exact eq_ld rfl rfl,
   by intros; exact eq_push rfl,
   by intros; exact eq_push rfl,
   by intros; exact eq_cs rfl (Nat.le_of_ble_eq_true rfl) rfl rfl rfl (Nat.le_of_ble_eq_true rfl),
   by intros; exact eq_if1 rfl,
   by intros; exact eq_push rfl,
   by intros; exact eq_ret rfl,
   by intros; exact eq_ld rfl rfl,
   by intros; exact eq_gr rfl,
   by intros; exact eq_ld rfl rfl,
   by intros; exact eq_aald rfl,
   by intros; exact eq_st rfl (by decide) (Nat.le_of_ble_eq_true rfl) rfl,
   by intros; exact eq_ld rfl rfl,
   by intros; exact eq_nul rfl,
   by intros; exact eq_push rfl,
   by intros; exact eq_ret rfl,
   by intros; exact eq_ld rfl rfl,
   by intros; exact eq_gi rfl,
   by intros; exact eq_ld rfl rfl,
   by intros; exact eq_ic0 rfl,
   by intros; exact eq_push rfl,
   by intros; exact eq_ret rfl,
   by intros; exact eq_ld rfl rfl,
   by intros; exact eq_push rfl,
   by intros; exact eq_ld rfl rfl,
   by intros; exact eq_gr rfl,
   by intros; exact eq_alen rfl,
   by intros; exact eq_push rfl,
   by intros; exact eq_i2 (o := mx_sub) rfl,
   by intros; exact eq_cs rfl (Nat.le_of_ble_eq_true rfl) rfl rfl rfl (Nat.le_of_ble_eq_true rfl),
   by intros; exact eq_if1 rfl,
   by intros; exact eq_push rfl,
   by intros; exact eq_ret rfl,
   by intros; exact eq_ld rfl rfl,
   by intros; exact eq_gr rfl,
   by intros; exact eq_ld rfl rfl,
   by intros; exact eq_lald rfl,
   by intros; exact eq_l2i rfl,
   by intros; exact eq_ret rfl⟩
theorem rw_X11_shelf :
  (∀ (d : Nat) (a0 a1 a2 a3 : Int) (S h : mx_H) (n : Int), mx_M d 137 [(2, a0), (0, a1), (0, a2), (0, a3)] S h n = mx_ex d 137 0 [some (2, a0), some (0, a1), some (0, a2), some (0, a3)] [] S h n) ∧
  (∀ (d : Nat) (x : Int) (l0 l2 l3 : Option mx_V) (S h : mx_H) (n : Int), mx_ex d 137 0 [l0, some (0, x), l2, l3] [] S h n = mx_ex d 137 1 [l0, some (0, x), l2, l3] [(0, x)] S h n) ∧
  (∀ (d : Nat) (x0 : Int) (l0 l1 l2 l3 : Option mx_V) (S h : mx_H) (n : Int), mx_ex (d + 1) 137 1 [l0, l1, l2, l3] [(0, x0)] S h n = mx_rt (mx_M d 151 [(0, x0)] S h n) (d + 1) 137 4 [l0, l1, l2, l3] []) ∧
  (∀ (d : Nat) (a : Int) (l0 l1 l2 l3 : Option mx_V) (S h : mx_H) (n : Int), mx_ex d 137 4 [l0, l1, l2, l3] [(0, a)] S h n = mx_br (a = 0) d 137 7 9 [l0, l1, l2, l3] [] S h n) ∧
  (∀ (d : Nat) (l0 l1 l2 l3 : Option mx_V) (S h : mx_H) (n : Int), mx_ex d 137 7 [l0, l1, l2, l3] [] S h n = mx_ex d 137 8 [l0, l1, l2, l3] [(0, (-1))] S h n) ∧
  (∀ (d : Nat) (x : Int) (l0 l1 l2 l3 : Option mx_V) (S h : mx_H) (n : Int), mx_ex d 137 8 [l0, l1, l2, l3] [(0, x)] S h n = some (some (0, x), S, h, n)) ∧
  (∀ (d : Nat) (x : Int) (l0 l1 l3 : Option mx_V) (S h : mx_H) (n : Int), mx_ex d 137 9 [l0, l1, some (0, x), l3] [] S h n = mx_ex d 137 10 [l0, l1, some (0, x), l3] [(0, x)] S h n) ∧
  (∀ (d : Nat) (a : Int) (l0 l1 l2 l3 : Option mx_V) (S h : mx_H) (n : Int), mx_ex d 137 10 [l0, l1, l2, l3] [(0, a)] S h n = mx_sw a [(0, 36), (1, 66), (2, 90)] d 137 100 [l0, l1, l2, l3] [] S h n) ∧
  (∀ (d : Nat) (x : Int) (l1 l2 l3 : Option mx_V) (S h : mx_H) (n : Int), mx_ex d 137 36 [some (2, x), l1, l2, l3] [] S h n = mx_ex d 137 37 [some (2, x), l1, l2, l3] [(2, x)] S h n) ∧
  (∀ (d : Nat) (a : Int) (l0 l1 l2 l3 : Option mx_V) (S h : mx_H) (n : Int), mx_ex d 137 37 [l0, l1, l2, l3] [(2, a)] S h n = mx_gd (7 ≤ S a (-2) ∧ S a (-2) ≤ 7) d 137 40 [l0, l1, l2, l3] [(2, S a 3)] S h n) ∧
  (∀ (d : Nat) (x : Int) (l0 l1 l2 : Option mx_V) (v0 : mx_V) (S h : mx_H) (n : Int), mx_ex d 137 40 [l0, l1, l2, some (0, x)] [v0] S h n = mx_ex d 137 41 [l0, l1, l2, some (0, x)] [(0, x), v0] S h n) ∧
  (∀ (d : Nat) (x0 a : Int) (l0 l1 l2 l3 : Option mx_V) (S h : mx_H) (n : Int), mx_ex (d + 1) 137 41 [l0, l1, l2, l3] [(0, x0), (2, a)] S h n = mx_cl (S a (-2) = 8) d 91 [(2, a), (0, x0)] 137 44 [l0, l1, l2, l3] [] S h n) ∧
  (∀ (d : Nat) (a : Int) (l0 l1 l2 l3 : Option mx_V) (S h : mx_H) (n : Int), mx_ex d 137 44 [l0, l1, l2, l3] [(2, a)] S h n = mx_br (a = -1) d 137 47 49 [l0, l1, l2, l3] [] S h n) ∧
  (∀ (d : Nat) (l0 l1 l2 l3 : Option mx_V) (S h : mx_H) (n : Int), mx_ex d 137 47 [l0, l1, l2, l3] [] S h n = mx_ex d 137 48 [l0, l1, l2, l3] [(0, (-1))] S h n) ∧
  (∀ (d : Nat) (x : Int) (l0 l1 l2 l3 : Option mx_V) (S h : mx_H) (n : Int), mx_ex d 137 48 [l0, l1, l2, l3] [(0, x)] S h n = some (some (0, x), S, h, n)) ∧
  (∀ (d : Nat) (x : Int) (l1 l2 l3 : Option mx_V) (S h : mx_H) (n : Int), mx_ex d 137 49 [some (2, x), l1, l2, l3] [] S h n = mx_ex d 137 50 [some (2, x), l1, l2, l3] [(2, x)] S h n) ∧
  (∀ (d : Nat) (a : Int) (l0 l1 l2 l3 : Option mx_V) (S h : mx_H) (n : Int), mx_ex d 137 50 [l0, l1, l2, l3] [(2, a)] S h n = mx_gd (7 ≤ S a (-2) ∧ S a (-2) ≤ 7) d 137 53 [l0, l1, l2, l3] [(2, S a 14)] S h n) ∧
  (∀ (d : Nat) (x : Int) (l0 l2 l3 : Option mx_V) (v0 : mx_V) (S h : mx_H) (n : Int), mx_ex d 137 53 [l0, some (0, x), l2, l3] [v0] S h n = mx_ex d 137 54 [l0, some (0, x), l2, l3] [(0, x), v0] S h n) ∧
  (∀ (d : Nat) (x : Int) (l0 l1 l2 : Option mx_V) (v0 v1 : mx_V) (S h : mx_H) (n : Int), mx_ex d 137 54 [l0, l1, l2, some (0, x)] [v0, v1] S h n = mx_ex d 137 55 [l0, l1, l2, some (0, x)] [(0, x), v0, v1] S h n) ∧
  (∀ (d : Nat) (v i a : Int) (l0 l1 l2 l3 : Option mx_V) (S h : mx_H) (n : Int), mx_ex d 137 55 [l0, l1, l2, l3] [(0, v), (0, i), (2, a)] S h n = mx_gd (S a (-2) = 20 ∧ 0 ≤ i ∧ i < S a (-1)) d 137 56 [l0, l1, l2, l3] [] S (mx_u h a i v) n) ∧
  (∀ (d : Nat) (x : Int) (l1 l2 l3 : Option mx_V) (S h : mx_H) (n : Int), mx_ex d 137 56 [some (2, x), l1, l2, l3] [] S h n = mx_ex d 137 57 [some (2, x), l1, l2, l3] [(2, x)] S h n) ∧
  (∀ (d : Nat) (a : Int) (l0 l1 l2 l3 : Option mx_V) (S h : mx_H) (n : Int), mx_ex d 137 57 [l0, l1, l2, l3] [(2, a)] S h n = mx_gd (7 ≤ S a (-2) ∧ S a (-2) ≤ 7) d 137 60 [l0, l1, l2, l3] [(2, S a 15)] S h n) ∧
  (∀ (d : Nat) (x : Int) (l0 l2 l3 : Option mx_V) (v0 : mx_V) (S h : mx_H) (n : Int), mx_ex d 137 60 [l0, some (0, x), l2, l3] [v0] S h n = mx_ex d 137 61 [l0, some (0, x), l2, l3] [(0, x), v0] S h n) ∧
  (∀ (d : Nat) (l0 l1 l2 l3 : Option mx_V) (v0 v1 : mx_V) (S h : mx_H) (n : Int), mx_ex d 137 61 [l0, l1, l2, l3] [v0, v1] S h n = mx_ex d 137 62 [l0, l1, l2, l3] [(2, (-1)), v0, v1] S h n) ∧
  (∀ (d : Nat) (v i a : Int) (l0 l1 l2 l3 : Option mx_V) (S h : mx_H) (n : Int), mx_ex d 137 62 [l0, l1, l2, l3] [(2, v), (0, i), (2, a)] S h n = mx_gd (S a (-2) = 23 ∧ 0 ≤ i ∧ i < S a (-1) ∧ (v = -1 ∨ 12 ≤ S v (-2) ∧ S v (-2) ≤ 12)) d 137 63 [l0, l1, l2, l3] [] (mx_u S a i v) h n) ∧
  (∀ (d : Nat) (l0 l1 l2 l3 : Option mx_V) (S h : mx_H) (n : Int), mx_ex d 137 63 [l0, l1, l2, l3] [] S h n = mx_ex d 137 102 [l0, l1, l2, l3] [] S h n) ∧
  (∀ (d : Nat) (x : Int) (l0 l1 l2 : Option mx_V) (S h : mx_H) (n : Int), mx_ex d 137 66 [l0, l1, l2, some (0, x)] [] S h n = mx_ex d 137 67 [l0, l1, l2, some (0, x)] [(0, x)] S h n) ∧
  (∀ (d : Nat) (x0 : Int) (l0 l1 l2 l3 : Option mx_V) (S h : mx_H) (n : Int), mx_ex (d + 1) 137 67 [l0, l1, l2, l3] [(0, x0)] S h n = mx_rt (mx_M d 150 [(0, x0)] S h n) (d + 1) 137 70 [l0, l1, l2, l3] []) ∧
  (∀ (d : Nat) (a : Int) (l0 l1 l2 l3 : Option mx_V) (S h : mx_H) (n : Int), mx_ex d 137 70 [l0, l1, l2, l3] [(0, a)] S h n = mx_br (a = 0) d 137 73 75 [l0, l1, l2, l3] [] S h n) ∧
  (∀ (d : Nat) (l0 l1 l2 l3 : Option mx_V) (S h : mx_H) (n : Int), mx_ex d 137 73 [l0, l1, l2, l3] [] S h n = mx_ex d 137 74 [l0, l1, l2, l3] [(0, (-1))] S h n) ∧
  (∀ (d : Nat) (x : Int) (l0 l1 l2 l3 : Option mx_V) (S h : mx_H) (n : Int), mx_ex d 137 74 [l0, l1, l2, l3] [(0, x)] S h n = some (some (0, x), S, h, n)) ∧
  (∀ (d : Nat) (x : Int) (l1 l2 l3 : Option mx_V) (S h : mx_H) (n : Int), mx_ex d 137 75 [some (2, x), l1, l2, l3] [] S h n = mx_ex d 137 76 [some (2, x), l1, l2, l3] [(2, x)] S h n) ∧
  (∀ (d : Nat) (a : Int) (l0 l1 l2 l3 : Option mx_V) (S h : mx_H) (n : Int), mx_ex d 137 76 [l0, l1, l2, l3] [(2, a)] S h n = mx_gd (7 ≤ S a (-2) ∧ S a (-2) ≤ 7) d 137 79 [l0, l1, l2, l3] [(2, S a 15)] S h n) ∧
  (∀ (d : Nat) (x : Int) (l0 l2 l3 : Option mx_V) (v0 : mx_V) (S h : mx_H) (n : Int), mx_ex d 137 79 [l0, some (0, x), l2, l3] [v0] S h n = mx_ex d 137 80 [l0, some (0, x), l2, l3] [(0, x), v0] S h n) ∧
  (∀ (d : Nat) (x : Int) (l1 l2 l3 : Option mx_V) (v0 v1 : mx_V) (S h : mx_H) (n : Int), mx_ex d 137 80 [some (2, x), l1, l2, l3] [v0, v1] S h n = mx_ex d 137 81 [some (2, x), l1, l2, l3] [(2, x), v0, v1] S h n) ∧
  (∀ (d : Nat) (a : Int) (l0 l1 l2 l3 : Option mx_V) (v1 v2 : mx_V) (S h : mx_H) (n : Int), mx_ex d 137 81 [l0, l1, l2, l3] [(2, a), v1, v2] S h n = mx_gd (7 ≤ S a (-2) ∧ S a (-2) ≤ 7) d 137 84 [l0, l1, l2, l3] [(2, S a 12), v1, v2] S h n) ∧
  (∀ (d : Nat) (x : Int) (l0 l1 l2 : Option mx_V) (v0 v1 v2 : mx_V) (S h : mx_H) (n : Int), mx_ex d 137 84 [l0, l1, l2, some (0, x)] [v0, v1, v2] S h n = mx_ex d 137 85 [l0, l1, l2, some (0, x)] [(0, x), v0, v1, v2] S h n) ∧
  (∀ (d : Nat) (i a : Int) (l0 l1 l2 l3 : Option mx_V) (v2 v3 : mx_V) (S h : mx_H) (n : Int), mx_ex d 137 85 [l0, l1, l2, l3] [(0, i), (2, a), v2, v3] S h n = mx_gd (S a (-2) = 23 ∧ 0 ≤ i ∧ i < S a (-1)) d 137 86 [l0, l1, l2, l3] [(2, S a i), v2, v3] S h n) ∧
  (∀ (d : Nat) (v i a : Int) (l0 l1 l2 l3 : Option mx_V) (S h : mx_H) (n : Int), mx_ex d 137 86 [l0, l1, l2, l3] [(2, v), (0, i), (2, a)] S h n = mx_gd (S a (-2) = 23 ∧ 0 ≤ i ∧ i < S a (-1) ∧ (v = -1 ∨ 12 ≤ S v (-2) ∧ S v (-2) ≤ 12)) d 137 87 [l0, l1, l2, l3] [] (mx_u S a i v) h n) ∧
  (∀ (d : Nat) (l0 l1 l2 l3 : Option mx_V) (S h : mx_H) (n : Int), mx_ex d 137 87 [l0, l1, l2, l3] [] S h n = mx_ex d 137 102 [l0, l1, l2, l3] [] S h n) ∧
  (∀ (d : Nat) (x : Int) (l1 l2 l3 : Option mx_V) (S h : mx_H) (n : Int), mx_ex d 137 90 [some (2, x), l1, l2, l3] [] S h n = mx_ex d 137 91 [some (2, x), l1, l2, l3] [(2, x)] S h n) ∧
  (∀ (d : Nat) (a : Int) (l0 l1 l2 l3 : Option mx_V) (S h : mx_H) (n : Int), mx_ex d 137 91 [l0, l1, l2, l3] [(2, a)] S h n = mx_gd (7 ≤ S a (-2) ∧ S a (-2) ≤ 7) d 137 94 [l0, l1, l2, l3] [(2, S a 15)] S h n) ∧
  (∀ (d : Nat) (x : Int) (l0 l2 l3 : Option mx_V) (v0 : mx_V) (S h : mx_H) (n : Int), mx_ex d 137 94 [l0, some (0, x), l2, l3] [v0] S h n = mx_ex d 137 95 [l0, some (0, x), l2, l3] [(0, x), v0] S h n) ∧
  (∀ (d : Nat) (l0 l1 l2 l3 : Option mx_V) (v0 v1 : mx_V) (S h : mx_H) (n : Int), mx_ex d 137 95 [l0, l1, l2, l3] [v0, v1] S h n = mx_ex d 137 96 [l0, l1, l2, l3] [(2, (-1)), v0, v1] S h n) ∧
  (∀ (d : Nat) (v i a : Int) (l0 l1 l2 l3 : Option mx_V) (S h : mx_H) (n : Int), mx_ex d 137 96 [l0, l1, l2, l3] [(2, v), (0, i), (2, a)] S h n = mx_gd (S a (-2) = 23 ∧ 0 ≤ i ∧ i < S a (-1) ∧ (v = -1 ∨ 12 ≤ S v (-2) ∧ S v (-2) ≤ 12)) d 137 97 [l0, l1, l2, l3] [] (mx_u S a i v) h n) ∧
  (∀ (d : Nat) (l0 l1 l2 l3 : Option mx_V) (S h : mx_H) (n : Int), mx_ex d 137 97 [l0, l1, l2, l3] [] S h n = mx_ex d 137 102 [l0, l1, l2, l3] [] S h n) ∧
  (∀ (d : Nat) (l0 l1 l2 l3 : Option mx_V) (S h : mx_H) (n : Int), mx_ex d 137 100 [l0, l1, l2, l3] [] S h n = mx_ex d 137 101 [l0, l1, l2, l3] [(0, (-1))] S h n) ∧
  (∀ (d : Nat) (x : Int) (l0 l1 l2 l3 : Option mx_V) (S h : mx_H) (n : Int), mx_ex d 137 101 [l0, l1, l2, l3] [(0, x)] S h n = some (some (0, x), S, h, n)) ∧
  (∀ (d : Nat) (x : Int) (l1 l2 l3 : Option mx_V) (S h : mx_H) (n : Int), mx_ex d 137 102 [some (2, x), l1, l2, l3] [] S h n = mx_ex d 137 103 [some (2, x), l1, l2, l3] [(2, x)] S h n) ∧
  (∀ (d : Nat) (a : Int) (l0 l1 l2 l3 : Option mx_V) (S h : mx_H) (n : Int), mx_ex d 137 103 [l0, l1, l2, l3] [(2, a)] S h n = mx_gd (7 ≤ S a (-2) ∧ S a (-2) ≤ 7) d 137 106 [l0, l1, l2, l3] [(2, S a 13)] S h n) ∧
  (∀ (d : Nat) (x : Int) (l0 l2 l3 : Option mx_V) (v0 : mx_V) (S h : mx_H) (n : Int), mx_ex d 137 106 [l0, some (0, x), l2, l3] [v0] S h n = mx_ex d 137 107 [l0, some (0, x), l2, l3] [(0, x), v0] S h n) ∧
  (∀ (d : Nat) (x : Int) (l0 l1 l3 : Option mx_V) (v0 v1 : mx_V) (S h : mx_H) (n : Int), mx_ex d 137 107 [l0, l1, some (0, x), l3] [v0, v1] S h n = mx_ex d 137 108 [l0, l1, some (0, x), l3] [(0, x), v0, v1] S h n) ∧
  (∀ (d : Nat) (v i a : Int) (l0 l1 l2 l3 : Option mx_V) (S h : mx_H) (n : Int), mx_ex d 137 108 [l0, l1, l2, l3] [(0, v), (0, i), (2, a)] S h n = mx_gd (S a (-2) = 20 ∧ 0 ≤ i ∧ i < S a (-1)) d 137 109 [l0, l1, l2, l3] [] S (mx_u h a i v) n) ∧
  (∀ (d : Nat) (l0 l1 l2 l3 : Option mx_V) (S h : mx_H) (n : Int), mx_ex d 137 109 [l0, l1, l2, l3] [] S h n = mx_ex d 137 110 [l0, l1, l2, l3] [(0, 1)] S h n) ∧
  (∀ (d : Nat) (x : Int) (l0 l1 l2 l3 : Option mx_V) (S h : mx_H) (n : Int), mx_ex d 137 110 [l0, l1, l2, l3] [(0, x)] S h n = some (some (0, x), S, h, n)) :=
  ⟨by intros; exact rfl,
   by intros; exact eq_ld rfl rfl,
   by intros; exact eq_cs rfl (Nat.le_of_ble_eq_true rfl) rfl rfl rfl (Nat.le_of_ble_eq_true rfl),
   by intros; exact eq_if1 rfl,
   by intros; exact eq_push rfl,
   by intros; exact eq_ret rfl,
   by intros; exact eq_ld rfl rfl,
   by intros; exact eq_sw rfl,
   by intros; exact eq_ld rfl rfl,
   by intros; exact eq_gr rfl,
   by intros; exact eq_ld rfl rfl,
   by intros; exact eq_cv rfl (Nat.le_of_ble_eq_true rfl) rfl rfl rfl (Nat.le_of_ble_eq_true rfl),
   by intros; exact eq_nul rfl,
   by intros; exact eq_push rfl,
   by intros; exact eq_ret rfl,
   by intros; exact eq_ld rfl rfl,
   by intros; exact eq_gr rfl,
   by intros; exact eq_ld rfl rfl,
   by intros; exact eq_ld rfl rfl,
   by intros; exact eq_iast rfl,
   by intros; exact eq_ld rfl rfl,
   by intros; exact eq_gr rfl,
   by intros; exact eq_ld rfl rfl,
   by intros; exact eq_push rfl,
   by intros; exact eq_aast rfl,
   by intros; exact eq_go rfl,
   by intros; exact eq_ld rfl rfl,
   by intros; exact eq_cs rfl (Nat.le_of_ble_eq_true rfl) rfl rfl rfl (Nat.le_of_ble_eq_true rfl),
   by intros; exact eq_if1 rfl,
   by intros; exact eq_push rfl,
   by intros; exact eq_ret rfl,
   by intros; exact eq_ld rfl rfl,
   by intros; exact eq_gr rfl,
   by intros; exact eq_ld rfl rfl,
   by intros; exact eq_ld rfl rfl,
   by intros; exact eq_gr rfl,
   by intros; exact eq_ld rfl rfl,
   by intros; exact eq_aald rfl,
   by intros; exact eq_aast rfl,
   by intros; exact eq_go rfl,
   by intros; exact eq_ld rfl rfl,
   by intros; exact eq_gr rfl,
   by intros; exact eq_ld rfl rfl,
   by intros; exact eq_push rfl,
   by intros; exact eq_aast rfl,
   by intros; exact eq_go rfl,
   by intros; exact eq_push rfl,
   by intros; exact eq_ret rfl,
   by intros; exact eq_ld rfl rfl,
   by intros; exact eq_gr rfl,
   by intros; exact eq_ld rfl rfl,
   by intros; exact eq_ld rfl rfl,
   by intros; exact eq_iast rfl,
   by intros; exact eq_push rfl,
   by intros; exact eq_ret rfl⟩
theorem rw_X11_taken :
  (∀ (d : Nat) (a0 a1 a2 : Int) (S h : mx_H) (n : Int), mx_M d 138 [(2, a0), (0, a1), (0, a2)] S h n = mx_ex d 138 0 [some (2, a0), some (0, a1), some (0, a2), none, none, none] [] S h n) ∧
  (∀ (d : Nat) (x : Int) (l0 l1 l3 l4 l5 : Option mx_V) (S h : mx_H) (n : Int), mx_ex d 138 0 [l0, l1, some (0, x), l3, l4, l5] [] S h n = mx_ex d 138 1 [l0, l1, some (0, x), l3, l4, l5] [(0, x)] S h n) ∧
  (∀ (d : Nat) (l0 l1 l2 l3 l4 l5 : Option mx_V) (v0 : mx_V) (S h : mx_H) (n : Int), mx_ex d 138 1 [l0, l1, l2, l3, l4, l5] [v0] S h n = mx_ex d 138 3 [l0, l1, l2, l3, l4, l5] [(0, 10), v0] S h n) ∧
  (∀ (d : Nat) (l0 l1 l2 l3 l4 l5 : Option mx_V) (v0 v1 : mx_V) (S h : mx_H) (n : Int), mx_ex d 138 3 [l0, l1, l2, l3, l4, l5] [v0, v1] S h n = mx_ex d 138 5 [l0, l1, l2, l3, l4, l5] [(0, 13), v0, v1] S h n) ∧
  (∀ (d : Nat) (x0 x1 x2 : Int) (l0 l1 l2 l3 l4 l5 : Option mx_V) (S h : mx_H) (n : Int), mx_ex (d + 1) 138 5 [l0, l1, l2, l3, l4, l5] [(0, x0), (0, x1), (0, x2)] S h n = mx_rt (mx_M d 147 [(0, x2), (0, x1), (0, x0)] S h n) (d + 1) 138 8 [l0, l1, l2, l3, l4, l5] []) ∧
  (∀ (d : Nat) (x : Int) (l0 l1 l2 l3 l4 l5 : Option mx_V) (S h : mx_H) (n : Int), mx_ex d 138 8 [l0, l1, l2, l3, l4, l5] [(0, x)] S h n = mx_ex d 138 9 [l0, l1, mx_nl l2, some (0, x), l4, l5] [] S h n) ∧
  (∀ (d : Nat) (x : Int) (l0 l2 l3 l4 l5 : Option mx_V) (S h : mx_H) (n : Int), mx_ex d 138 9 [l0, some (0, x), l2, l3, l4, l5] [] S h n = mx_ex d 138 10 [l0, some (0, x), l2, l3, l4, l5] [(0, x)] S h n) ∧
  (∀ (d : Nat) (x0 : Int) (l0 l1 l2 l3 l4 l5 : Option mx_V) (S h : mx_H) (n : Int), mx_ex (d + 1) 138 10 [l0, l1, l2, l3, l4, l5] [(0, x0)] S h n = mx_rt (mx_M d 151 [(0, x0)] S h n) (d + 1) 138 13 [l0, l1, l2, l3, l4, l5] []) ∧
  (∀ (d : Nat) (a : Int) (l0 l1 l2 l3 l4 l5 : Option mx_V) (S h : mx_H) (n : Int), mx_ex d 138 13 [l0, l1, l2, l3, l4, l5] [(0, a)] S h n = mx_br (a = 0) d 138 29 16 [l0, l1, l2, l3, l4, l5] [] S h n) ∧
  (∀ (d : Nat) (x : Int) (l0 l1 l2 l4 l5 : Option mx_V) (S h : mx_H) (n : Int), mx_ex d 138 16 [l0, l1, l2, some (0, x), l4, l5] [] S h n = mx_ex d 138 17 [l0, l1, l2, some (0, x), l4, l5] [(0, x)] S h n) ∧
  (∀ (d : Nat) (a : Int) (l0 l1 l2 l3 l4 l5 : Option mx_V) (S h : mx_H) (n : Int), mx_ex d 138 17 [l0, l1, l2, l3, l4, l5] [(0, a)] S h n = mx_br (a = 0) d 138 20 31 [l0, l1, l2, l3, l4, l5] [] S h n) ∧
  (∀ (d : Nat) (x : Int) (l0 l1 l3 l4 l5 : Option mx_V) (S h : mx_H) (n : Int), mx_ex d 138 20 [l0, l1, some (0, x), l3, l4, l5] [] S h n = mx_ex d 138 21 [l0, l1, some (0, x), l3, l4, l5] [(0, x)] S h n) ∧
  (∀ (d : Nat) (l0 l1 l2 l3 l4 l5 : Option mx_V) (v0 : mx_V) (S h : mx_H) (n : Int), mx_ex d 138 21 [l0, l1, l2, l3, l4, l5] [v0] S h n = mx_ex d 138 22 [l0, l1, l2, l3, l4, l5] [(0, 0), v0] S h n) ∧
  (∀ (d : Nat) (l0 l1 l2 l3 l4 l5 : Option mx_V) (v0 v1 : mx_V) (S h : mx_H) (n : Int), mx_ex d 138 22 [l0, l1, l2, l3, l4, l5] [v0, v1] S h n = mx_ex d 138 23 [l0, l1, l2, l3, l4, l5] [(0, 5), v0, v1] S h n) ∧
  (∀ (d : Nat) (x0 x1 x2 : Int) (l0 l1 l2 l3 l4 l5 : Option mx_V) (S h : mx_H) (n : Int), mx_ex (d + 1) 138 23 [l0, l1, l2, l3, l4, l5] [(0, x0), (0, x1), (0, x2)] S h n = mx_rt (mx_M d 147 [(0, x2), (0, x1), (0, x0)] S h n) (d + 1) 138 26 [l0, l1, l2, l3, l4, l5] []) ∧
  (∀ (d : Nat) (a : Int) (l0 l1 l2 l3 l4 l5 : Option mx_V) (S h : mx_H) (n : Int), mx_ex d 138 26 [l0, l1, l2, l3, l4, l5] [(0, a)] S h n = mx_br (a = 0) d 138 29 31 [l0, l1, l2, l3, l4, l5] [] S h n) ∧
  (∀ (d : Nat) (l0 l1 l2 l3 l4 l5 : Option mx_V) (S h : mx_H) (n : Int), mx_ex d 138 29 [l0, l1, l2, l3, l4, l5] [] S h n = mx_ex d 138 30 [l0, l1, l2, l3, l4, l5] [(0, (-1))] S h n) ∧
  (∀ (d : Nat) (x : Int) (l0 l1 l2 l3 l4 l5 : Option mx_V) (S h : mx_H) (n : Int), mx_ex d 138 30 [l0, l1, l2, l3, l4, l5] [(0, x)] S h n = some (some (0, x), S, h, n)) ∧
  (∀ (d : Nat) (x : Int) (l1 l2 l3 l4 l5 : Option mx_V) (S h : mx_H) (n : Int), mx_ex d 138 31 [some (2, x), l1, l2, l3, l4, l5] [] S h n = mx_ex d 138 32 [some (2, x), l1, l2, l3, l4, l5] [(2, x)] S h n) ∧
  (∀ (d : Nat) (x : Int) (l0 l2 l3 l4 l5 : Option mx_V) (v0 : mx_V) (S h : mx_H) (n : Int), mx_ex d 138 32 [l0, some (0, x), l2, l3, l4, l5] [v0] S h n = mx_ex d 138 33 [l0, some (0, x), l2, l3, l4, l5] [(0, x), v0] S h n) ∧
  (∀ (d : Nat) (x0 a : Int) (l0 l1 l2 l3 l4 l5 : Option mx_V) (S h : mx_H) (n : Int), mx_ex (d + 1) 138 33 [l0, l1, l2, l3, l4, l5] [(0, x0), (2, a)] S h n = mx_cl (S a (-2) = 7) d 146 [(2, a), (0, x0)] 138 36 [l0, l1, l2, l3, l4, l5] [] S h n) ∧
  (∀ (d : Nat) (x : Int) (l0 l1 l2 l3 l4 l5 : Option mx_V) (S h : mx_H) (n : Int), mx_ex d 138 36 [l0, l1, l2, l3, l4, l5] [(2, x)] S h n = mx_ex d 138 38 [l0, l1, l2, mx_nl l3, some (2, x), l5] [] S h n) ∧
  (∀ (d : Nat) (x : Int) (l1 l2 l3 l4 l5 : Option mx_V) (S h : mx_H) (n : Int), mx_ex d 138 38 [some (2, x), l1, l2, l3, l4, l5] [] S h n = mx_ex d 138 39 [some (2, x), l1, l2, l3, l4, l5] [(2, x)] S h n) ∧
  (∀ (d : Nat) (a : Int) (l0 l1 l2 l3 l4 l5 : Option mx_V) (S h : mx_H) (n : Int), mx_ex d 138 39 [l0, l1, l2, l3, l4, l5] [(2, a)] S h n = mx_gd (7 ≤ S a (-2) ∧ S a (-2) ≤ 7) d 138 42 [l0, l1, l2, l3, l4, l5] [(2, S a 15)] S h n) ∧
  (∀ (d : Nat) (x : Int) (l0 l2 l3 l4 l5 : Option mx_V) (v0 : mx_V) (S h : mx_H) (n : Int), mx_ex d 138 42 [l0, some (0, x), l2, l3, l4, l5] [v0] S h n = mx_ex d 138 43 [l0, some (0, x), l2, l3, l4, l5] [(0, x), v0] S h n) ∧
  (∀ (d : Nat) (i a : Int) (l0 l1 l2 l3 l4 l5 : Option mx_V) (S h : mx_H) (n : Int), mx_ex d 138 43 [l0, l1, l2, l3, l4, l5] [(0, i), (2, a)] S h n = mx_gd (S a (-2) = 23 ∧ 0 ≤ i ∧ i < S a (-1)) d 138 44 [l0, l1, l2, l3, l4, l5] [(2, S a i)] S h n) ∧
  (∀ (d : Nat) (x : Int) (l0 l1 l2 l3 l4 l5 : Option mx_V) (S h : mx_H) (n : Int), mx_ex d 138 44 [l0, l1, l2, l3, l4, l5] [(2, x)] S h n = mx_ex d 138 46 [l0, l1, l2, l3, mx_nl l4, some (2, x)] [] S h n) ∧
  (∀ (d : Nat) (x : Int) (l0 l1 l2 l3 l5 : Option mx_V) (S h : mx_H) (n : Int), mx_ex d 138 46 [l0, l1, l2, l3, some (2, x), l5] [] S h n = mx_ex d 138 48 [l0, l1, l2, l3, some (2, x), l5] [(2, x)] S h n) ∧
  (∀ (d : Nat) (a : Int) (l0 l1 l2 l3 l4 l5 : Option mx_V) (S h : mx_H) (n : Int), mx_ex d 138 48 [l0, l1, l2, l3, l4, l5] [(2, a)] S h n = mx_br (a = -1) d 138 51 59 [l0, l1, l2, l3, l4, l5] [] S h n) ∧
  (∀ (d : Nat) (x : Int) (l0 l1 l2 l3 l4 : Option mx_V) (S h : mx_H) (n : Int), mx_ex d 138 51 [l0, l1, l2, l3, l4, some (2, x)] [] S h n = mx_ex d 138 53 [l0, l1, l2, l3, l4, some (2, x)] [(2, x)] S h n) ∧
  (∀ (d : Nat) (a : Int) (l0 l1 l2 l3 l4 l5 : Option mx_V) (S h : mx_H) (n : Int), mx_ex d 138 53 [l0, l1, l2, l3, l4, l5] [(2, a)] S h n = mx_br (a = -1) d 138 56 59 [l0, l1, l2, l3, l4, l5] [] S h n) ∧
  (∀ (d : Nat) (l0 l1 l2 l3 l4 l5 : Option mx_V) (S h : mx_H) (n : Int), mx_ex d 138 56 [l0, l1, l2, l3, l4, l5] [] S h n = mx_ex d 138 58 [l0, l1, l2, l3, l4, l5] [(0, (-11))] S h n) ∧
  (∀ (d : Nat) (x : Int) (l0 l1 l2 l3 l4 l5 : Option mx_V) (S h : mx_H) (n : Int), mx_ex d 138 58 [l0, l1, l2, l3, l4, l5] [(0, x)] S h n = some (some (0, x), S, h, n)) ∧
  (∀ (d : Nat) (x : Int) (l0 l1 l2 l3 l5 : Option mx_V) (S h : mx_H) (n : Int), mx_ex d 138 59 [l0, l1, l2, l3, some (2, x), l5] [] S h n = mx_ex d 138 61 [l0, l1, l2, l3, some (2, x), l5] [(2, x)] S h n) ∧
  (∀ (d : Nat) (a : Int) (l0 l1 l2 l3 l4 l5 : Option mx_V) (S h : mx_H) (n : Int), mx_ex d 138 61 [l0, l1, l2, l3, l4, l5] [(2, a)] S h n = mx_br (a = -1) d 138 88 64 [l0, l1, l2, l3, l4, l5] [] S h n) ∧
  (∀ (d : Nat) (x : Int) (l0 l1 l2 l4 l5 : Option mx_V) (S h : mx_H) (n : Int), mx_ex d 138 64 [l0, l1, l2, some (0, x), l4, l5] [] S h n = mx_ex d 138 65 [l0, l1, l2, some (0, x), l4, l5] [(0, x)] S h n) ∧
  (∀ (d : Nat) (a : Int) (l0 l1 l2 l3 l4 l5 : Option mx_V) (S h : mx_H) (n : Int), mx_ex d 138 65 [l0, l1, l2, l3, l4, l5] [(0, a)] S h n = mx_br (a = 0) d 138 68 85 [l0, l1, l2, l3, l4, l5] [] S h n) ∧
  (∀ (d : Nat) (x : Int) (l0 l1 l2 l3 l5 : Option mx_V) (S h : mx_H) (n : Int), mx_ex d 138 68 [l0, l1, l2, l3, some (2, x), l5] [] S h n = mx_ex d 138 70 [l0, l1, l2, l3, some (2, x), l5] [(2, x)] S h n) ∧
  (∀ (d : Nat) (x : Int) (l0 l1 l3 l4 l5 : Option mx_V) (v0 : mx_V) (S h : mx_H) (n : Int), mx_ex d 138 70 [l0, l1, some (0, x), l3, l4, l5] [v0] S h n = mx_ex d 138 71 [l0, l1, some (0, x), l3, l4, l5] [(0, x), v0] S h n) ∧
  (∀ (d : Nat) (x0 a : Int) (l0 l1 l2 l3 l4 l5 : Option mx_V) (S h : mx_H) (n : Int), mx_ex (d + 1) 138 71 [l0, l1, l2, l3, l4, l5] [(0, x0), (2, a)] S h n = mx_cl (1 ≤ S a (-2) ∧ S a (-2) ≤ 6) d 42 [(2, a), (0, x0)] 138 74 [l0, l1, l2, l3, l4, l5] [] S h n) ∧
  (∀ (d : Nat) (a : Int) (l0 l1 l2 l3 l4 l5 : Option mx_V) (S h : mx_H) (n : Int), mx_ex d 138 74 [l0, l1, l2, l3, l4, l5] [(0, a)] S h n = mx_br (a = 0) d 138 85 77 [l0, l1, l2, l3, l4, l5] [] S h n) ∧
  (∀ (d : Nat) (x : Int) (l0 l1 l2 l3 l5 : Option mx_V) (S h : mx_H) (n : Int), mx_ex d 138 77 [l0, l1, l2, l3, some (2, x), l5] [] S h n = mx_ex d 138 79 [l0, l1, l2, l3, some (2, x), l5] [(2, x)] S h n) ∧
  (∀ (d : Nat) (a : Int) (l0 l1 l2 l3 l4 l5 : Option mx_V) (S h : mx_H) (n : Int), mx_ex d 138 79 [l0, l1, l2, l3, l4, l5] [(2, a)] S h n = mx_gd (1 ≤ S a (-2) ∧ S a (-2) ≤ 6) d 138 82 [l0, l1, l2, l3, l4, l5] [(0, h a 0)] S h n) ∧
  (∀ (d : Nat) (l0 l1 l2 l3 l4 l5 : Option mx_V) (v0 : mx_V) (S h : mx_H) (n : Int), mx_ex d 138 82 [l0, l1, l2, l3, l4, l5] [v0] S h n = mx_ex d 138 87 [l0, l1, l2, l3, l4, l5] [v0] S h n) ∧
  (∀ (d : Nat) (l0 l1 l2 l3 l4 l5 : Option mx_V) (S h : mx_H) (n : Int), mx_ex d 138 85 [l0, l1, l2, l3, l4, l5] [] S h n = mx_ex d 138 87 [l0, l1, l2, l3, l4, l5] [(0, (-13))] S h n) ∧
  (∀ (d : Nat) (x : Int) (l0 l1 l2 l3 l4 l5 : Option mx_V) (S h : mx_H) (n : Int), mx_ex d 138 87 [l0, l1, l2, l3, l4, l5] [(0, x)] S h n = some (some (0, x), S, h, n)) ∧
  (∀ (d : Nat) (x : Int) (l0 l1 l2 l4 l5 : Option mx_V) (S h : mx_H) (n : Int), mx_ex d 138 88 [l0, l1, l2, some (0, x), l4, l5] [] S h n = mx_ex d 138 89 [l0, l1, l2, some (0, x), l4, l5] [(0, x)] S h n) ∧
  (∀ (d : Nat) (a : Int) (l0 l1 l2 l3 l4 l5 : Option mx_V) (S h : mx_H) (n : Int), mx_ex d 138 89 [l0, l1, l2, l3, l4, l5] [(0, a)] S h n = mx_br (a = 0) d 138 113 92 [l0, l1, l2, l3, l4, l5] [] S h n) ∧
  (∀ (d : Nat) (x : Int) (l0 l1 l2 l3 l4 : Option mx_V) (S h : mx_H) (n : Int), mx_ex d 138 92 [l0, l1, l2, l3, l4, some (2, x)] [] S h n = mx_ex d 138 94 [l0, l1, l2, l3, l4, some (2, x)] [(2, x)] S h n) ∧
  (∀ (d : Nat) (a : Int) (l0 l1 l2 l3 l4 l5 : Option mx_V) (S h : mx_H) (n : Int), mx_ex d 138 94 [l0, l1, l2, l3, l4, l5] [(2, a)] S h n = mx_gd (12 ≤ S a (-2) ∧ S a (-2) ≤ 12) d 138 97 [l0, l1, l2, l3, l4, l5] [(0, h a 0)] S h n) ∧
  (∀ (d : Nat) (x : Int) (l0 l1 l3 l4 l5 : Option mx_V) (v0 : mx_V) (S h : mx_H) (n : Int), mx_ex d 138 97 [l0, l1, some (0, x), l3, l4, l5] [v0] S h n = mx_ex d 138 98 [l0, l1, some (0, x), l3, l4, l5] [(0, x), v0] S h n) ∧
  (∀ (d : Nat) (l0 l1 l2 l3 l4 l5 : Option mx_V) (v0 v1 : mx_V) (S h : mx_H) (n : Int), mx_ex d 138 98 [l0, l1, l2, l3, l4, l5] [v0, v1] S h n = mx_ex d 138 100 [l0, l1, l2, l3, l4, l5] [(0, 10), v0, v1] S h n) ∧
  (∀ (d : Nat) (b a : Int) (l0 l1 l2 l3 l4 l5 : Option mx_V) (v2 : mx_V) (S h : mx_H) (n : Int), mx_ex d 138 100 [l0, l1, l2, l3, l4, l5] [(0, b), (0, a), v2] S h n = mx_ex d 138 101 [l0, l1, l2, l3, l4, l5] [(0, mx_w (a - b)), v2] S h n) ∧
  (∀ (d : Nat) (b a : Int) (l0 l1 l2 l3 l4 l5 : Option mx_V) (S h : mx_H) (n : Int), mx_ex d 138 101 [l0, l1, l2, l3, l4, l5] [(0, b), (0, a)] S h n = mx_br (a = b) d 138 104 113 [l0, l1, l2, l3, l4, l5] [] S h n) ∧
  (∀ (d : Nat) (x : Int) (l0 l1 l2 l3 l4 : Option mx_V) (S h : mx_H) (n : Int), mx_ex d 138 104 [l0, l1, l2, l3, l4, some (2, x)] [] S h n = mx_ex d 138 106 [l0, l1, l2, l3, l4, some (2, x)] [(2, x)] S h n) ∧
  (∀ (d : Nat) (a : Int) (l0 l1 l2 l3 l4 l5 : Option mx_V) (S h : mx_H) (n : Int), mx_ex d 138 106 [l0, l1, l2, l3, l4, l5] [(2, a)] S h n = mx_gd (12 ≤ S a (-2) ∧ S a (-2) ≤ 12) d 138 109 [l0, l1, l2, l3, l4, l5] [(2, S a 1)] S h n) ∧
  (∀ (d : Nat) (a : Int) (l0 l1 l2 l3 l4 l5 : Option mx_V) (S h : mx_H) (n : Int), mx_ex d 138 109 [l0, l1, l2, l3, l4, l5] [(2, a)] S h n = mx_gd (20 ≤ S a (-2) ∧ S a (-2) ≤ 25) d 138 110 [l0, l1, l2, l3, l4, l5] [(0, S a (-1))] S h n) ∧
  (∀ (d : Nat) (l0 l1 l2 l3 l4 l5 : Option mx_V) (v0 : mx_V) (S h : mx_H) (n : Int), mx_ex d 138 110 [l0, l1, l2, l3, l4, l5] [v0] S h n = mx_ex d 138 115 [l0, l1, l2, l3, l4, l5] [v0] S h n) ∧
  (∀ (d : Nat) (l0 l1 l2 l3 l4 l5 : Option mx_V) (S h : mx_H) (n : Int), mx_ex d 138 113 [l0, l1, l2, l3, l4, l5] [] S h n = mx_ex d 138 115 [l0, l1, l2, l3, l4, l5] [(0, (-13))] S h n) ∧
  (∀ (d : Nat) (x : Int) (l0 l1 l2 l3 l4 l5 : Option mx_V) (S h : mx_H) (n : Int), mx_ex d 138 115 [l0, l1, l2, l3, l4, l5] [(0, x)] S h n = some (some (0, x), S, h, n)) :=
  ⟨by intros; exact rfl,
   by intros; exact eq_ld rfl rfl,
   by intros; exact eq_push rfl,
   by intros; exact eq_push rfl,
   by intros; exact eq_cs rfl (Nat.le_of_ble_eq_true rfl) rfl rfl rfl (Nat.le_of_ble_eq_true rfl),
   by intros; exact eq_st rfl (by decide) (Nat.le_of_ble_eq_true rfl) rfl,
   by intros; exact eq_ld rfl rfl,
   by intros; exact eq_cs rfl (Nat.le_of_ble_eq_true rfl) rfl rfl rfl (Nat.le_of_ble_eq_true rfl),
   by intros; exact eq_if0 rfl,
   by intros; exact eq_ld rfl rfl,
   by intros; exact eq_if1 rfl,
   by intros; exact eq_ld rfl rfl,
   by intros; exact eq_push rfl,
   by intros; exact eq_push rfl,
   by intros; exact eq_cs rfl (Nat.le_of_ble_eq_true rfl) rfl rfl rfl (Nat.le_of_ble_eq_true rfl),
   by intros; exact eq_if1 rfl,
   by intros; exact eq_push rfl,
   by intros; exact eq_ret rfl,
   by intros; exact eq_ld rfl rfl,
   by intros; exact eq_ld rfl rfl,
   by intros; exact eq_cv rfl (Nat.le_of_ble_eq_true rfl) rfl rfl rfl (Nat.le_of_ble_eq_true rfl),
   by intros; exact eq_st rfl (by decide) (Nat.le_of_ble_eq_true rfl) rfl,
   by intros; exact eq_ld rfl rfl,
   by intros; exact eq_gr rfl,
   by intros; exact eq_ld rfl rfl,
   by intros; exact eq_aald rfl,
   by intros; exact eq_st rfl (by decide) (Nat.le_of_ble_eq_true rfl) rfl,
   by intros; exact eq_ld rfl rfl,
   by intros; exact eq_nul rfl,
   by intros; exact eq_ld rfl rfl,
   by intros; exact eq_nul rfl,
   by intros; exact eq_push rfl,
   by intros; exact eq_ret rfl,
   by intros; exact eq_ld rfl rfl,
   by intros; exact eq_nul rfl,
   by intros; exact eq_ld rfl rfl,
   by intros; exact eq_if1 rfl,
   by intros; exact eq_ld rfl rfl,
   by intros; exact eq_ld rfl rfl,
   by intros; exact eq_ci rfl (Nat.le_of_ble_eq_true rfl) rfl rfl rfl (Nat.le_of_ble_eq_true rfl),
   by intros; exact eq_if0 rfl,
   by intros; exact eq_ld rfl rfl,
   by intros; exact eq_gi rfl,
   by intros; exact eq_go rfl,
   by intros; exact eq_push rfl,
   by intros; exact eq_ret rfl,
   by intros; exact eq_ld rfl rfl,
   by intros; exact eq_if0 rfl,
   by intros; exact eq_ld rfl rfl,
   by intros; exact eq_gi rfl,
   by intros; exact eq_ld rfl rfl,
   by intros; exact eq_push rfl,
   by intros; exact eq_i2 (o := mx_sub) rfl,
   by intros; exact eq_ic1 rfl,
   by intros; exact eq_ld rfl rfl,
   by intros; exact eq_gr rfl,
   by intros; exact eq_alen rfl,
   by intros; exact eq_go rfl,
   by intros; exact eq_push rfl,
   by intros; exact eq_ret rfl⟩
theorem rw_X11_act :
  (∀ (d : Nat) (a0 a1 a2 a3 : Int) (S h : mx_H) (n : Int), mx_M d 139 [(2, a0), (0, a1), (0, a2), (0, a3)] S h n = mx_ex d 139 0 [some (2, a0), some (0, a1), some (0, a2), some (0, a3), none, none] [] S h n) ∧
  (∀ (d : Nat) (x : Int) (l1 l2 l3 l4 l5 : Option mx_V) (S h : mx_H) (n : Int), mx_ex d 139 0 [some (2, x), l1, l2, l3, l4, l5] [] S h n = mx_ex d 139 1 [some (2, x), l1, l2, l3, l4, l5] [(2, x)] S h n) ∧
  (∀ (d : Nat) (a : Int) (l0 l1 l2 l3 l4 l5 : Option mx_V) (S h : mx_H) (n : Int), mx_ex d 139 1 [l0, l1, l2, l3, l4, l5] [(2, a)] S h n = mx_gd (7 ≤ S a (-2) ∧ S a (-2) ≤ 7) d 139 4 [l0, l1, l2, l3, l4, l5] [(2, S a 16)] S h n) ∧
  (∀ (d : Nat) (a : Int) (l0 l1 l2 l3 l4 l5 : Option mx_V) (S h : mx_H) (n : Int), mx_ex (d + 1) 139 4 [l0, l1, l2, l3, l4, l5] [(2, a)] S h n = mx_cl (S a (-2) = 11) d 76 [(2, a)] 139 7 [l0, l1, l2, l3, l4, l5] [] S h n) ∧
  (∀ (d : Nat) (x : Int) (l0 l2 l3 l4 l5 : Option mx_V) (S h : mx_H) (n : Int), mx_ex d 139 7 [l0, some (0, x), l2, l3, l4, l5] [] S h n = mx_ex d 139 8 [l0, some (0, x), l2, l3, l4, l5] [(0, x)] S h n) ∧
  (∀ (d : Nat) (x0 : Int) (l0 l1 l2 l3 l4 l5 : Option mx_V) (S h : mx_H) (n : Int), mx_ex (d + 1) 139 8 [l0, l1, l2, l3, l4, l5] [(0, x0)] S h n = mx_rt (mx_M d 151 [(0, x0)] S h n) (d + 1) 139 11 [l0, l1, l2, l3, l4, l5] []) ∧
  (∀ (d : Nat) (a : Int) (l0 l1 l2 l3 l4 l5 : Option mx_V) (S h : mx_H) (n : Int), mx_ex d 139 11 [l0, l1, l2, l3, l4, l5] [(0, a)] S h n = mx_br (a = 0) d 139 22 14 [l0, l1, l2, l3, l4, l5] [] S h n) ∧
  (∀ (d : Nat) (x : Int) (l1 l2 l3 l4 l5 : Option mx_V) (S h : mx_H) (n : Int), mx_ex d 139 14 [some (2, x), l1, l2, l3, l4, l5] [] S h n = mx_ex d 139 15 [some (2, x), l1, l2, l3, l4, l5] [(2, x)] S h n) ∧
  (∀ (d : Nat) (x : Int) (l0 l2 l3 l4 l5 : Option mx_V) (v0 : mx_V) (S h : mx_H) (n : Int), mx_ex d 139 15 [l0, some (0, x), l2, l3, l4, l5] [v0] S h n = mx_ex d 139 16 [l0, some (0, x), l2, l3, l4, l5] [(0, x), v0] S h n) ∧
  (∀ (d : Nat) (x0 a : Int) (l0 l1 l2 l3 l4 l5 : Option mx_V) (S h : mx_H) (n : Int), mx_ex (d + 1) 139 16 [l0, l1, l2, l3, l4, l5] [(0, x0), (2, a)] S h n = mx_cl (S a (-2) = 7) d 146 [(2, a), (0, x0)] 139 19 [l0, l1, l2, l3, l4, l5] [] S h n) ∧
  (∀ (d : Nat) (l0 l1 l2 l3 l4 l5 : Option mx_V) (v0 : mx_V) (S h : mx_H) (n : Int), mx_ex d 139 19 [l0, l1, l2, l3, l4, l5] [v0] S h n = mx_ex d 139 23 [l0, l1, l2, l3, l4, l5] [v0] S h n) ∧
  (∀ (d : Nat) (l0 l1 l2 l3 l4 l5 : Option mx_V) (S h : mx_H) (n : Int), mx_ex d 139 22 [l0, l1, l2, l3, l4, l5] [] S h n = mx_ex d 139 23 [l0, l1, l2, l3, l4, l5] [(2, (-1))] S h n) ∧
  (∀ (d : Nat) (x : Int) (l0 l1 l2 l3 l4 l5 : Option mx_V) (S h : mx_H) (n : Int), mx_ex d 139 23 [l0, l1, l2, l3, l4, l5] [(2, x)] S h n = mx_ex d 139 25 [l0, l1, l2, mx_nl l3, some (2, x), l5] [] S h n) ∧
  (∀ (d : Nat) (x : Int) (l0 l1 l2 l3 l5 : Option mx_V) (S h : mx_H) (n : Int), mx_ex d 139 25 [l0, l1, l2, l3, some (2, x), l5] [] S h n = mx_ex d 139 27 [l0, l1, l2, l3, some (2, x), l5] [(2, x)] S h n) ∧
  (∀ (d : Nat) (a : Int) (l0 l1 l2 l3 l4 l5 : Option mx_V) (S h : mx_H) (n : Int), mx_ex d 139 27 [l0, l1, l2, l3, l4, l5] [(2, a)] S h n = mx_br (a = -1) d 139 39 30 [l0, l1, l2, l3, l4, l5] [] S h n) ∧
  (∀ (d : Nat) (x : Int) (l0 l1 l3 l4 l5 : Option mx_V) (S h : mx_H) (n : Int), mx_ex d 139 30 [l0, l1, some (0, x), l3, l4, l5] [] S h n = mx_ex d 139 31 [l0, l1, some (0, x), l3, l4, l5] [(0, x)] S h n) ∧
  (∀ (d : Nat) (l0 l1 l2 l3 l4 l5 : Option mx_V) (v0 : mx_V) (S h : mx_H) (n : Int), mx_ex d 139 31 [l0, l1, l2, l3, l4, l5] [v0] S h n = mx_ex d 139 32 [l0, l1, l2, l3, l4, l5] [(0, 0), v0] S h n) ∧
  (∀ (d : Nat) (l0 l1 l2 l3 l4 l5 : Option mx_V) (v0 v1 : mx_V) (S h : mx_H) (n : Int), mx_ex d 139 32 [l0, l1, l2, l3, l4, l5] [v0, v1] S h n = mx_ex d 139 33 [l0, l1, l2, l3, l4, l5] [(0, 3), v0, v1] S h n) ∧
  (∀ (d : Nat) (x0 x1 x2 : Int) (l0 l1 l2 l3 l4 l5 : Option mx_V) (S h : mx_H) (n : Int), mx_ex (d + 1) 139 33 [l0, l1, l2, l3, l4, l5] [(0, x0), (0, x1), (0, x2)] S h n = mx_rt (mx_M d 147 [(0, x2), (0, x1), (0, x0)] S h n) (d + 1) 139 36 [l0, l1, l2, l3, l4, l5] []) ∧
  (∀ (d : Nat) (a : Int) (l0 l1 l2 l3 l4 l5 : Option mx_V) (S h : mx_H) (n : Int), mx_ex d 139 36 [l0, l1, l2, l3, l4, l5] [(0, a)] S h n = mx_br (a = 0) d 139 39 41 [l0, l1, l2, l3, l4, l5] [] S h n) ∧
  (∀ (d : Nat) (l0 l1 l2 l3 l4 l5 : Option mx_V) (S h : mx_H) (n : Int), mx_ex d 139 39 [l0, l1, l2, l3, l4, l5] [] S h n = mx_ex d 139 40 [l0, l1, l2, l3, l4, l5] [(0, 0)] S h n) ∧
  (∀ (d : Nat) (x : Int) (l0 l1 l2 l3 l4 l5 : Option mx_V) (S h : mx_H) (n : Int), mx_ex d 139 40 [l0, l1, l2, l3, l4, l5] [(0, x)] S h n = some (some (0, x), S, h, n)) ∧
  (∀ (d : Nat) (x : Int) (l0 l1 l3 l4 l5 : Option mx_V) (S h : mx_H) (n : Int), mx_ex d 139 41 [l0, l1, some (0, x), l3, l4, l5] [] S h n = mx_ex d 139 42 [l0, l1, some (0, x), l3, l4, l5] [(0, x)] S h n) ∧
  (∀ (d : Nat) (a : Int) (l0 l1 l2 l3 l4 l5 : Option mx_V) (S h : mx_H) (n : Int), mx_ex d 139 42 [l0, l1, l2, l3, l4, l5] [(0, a)] S h n = mx_sw a [(0, 68), (1, 83), (2, 98)] d 139 113 [l0, l1, l2, l3, l4, l5] [] S h n) ∧
  (∀ (d : Nat) (x : Int) (l0 l1 l2 l3 l5 : Option mx_V) (S h : mx_H) (n : Int), mx_ex d 139 68 [l0, l1, l2, l3, some (2, x), l5] [] S h n = mx_ex d 139 70 [l0, l1, l2, l3, some (2, x), l5] [(2, x)] S h n) ∧
  (∀ (d : Nat) (x : Int) (l0 l1 l2 l4 l5 : Option mx_V) (v0 : mx_V) (S h : mx_H) (n : Int), mx_ex d 139 70 [l0, l1, l2, some (0, x), l4, l5] [v0] S h n = mx_ex d 139 71 [l0, l1, l2, some (0, x), l4, l5] [(0, x), v0] S h n) ∧
  (∀ (d : Nat) (x : Int) (l1 l2 l3 l4 l5 : Option mx_V) (v0 v1 : mx_V) (S h : mx_H) (n : Int), mx_ex d 139 71 [some (2, x), l1, l2, l3, l4, l5] [v0, v1] S h n = mx_ex d 139 72 [some (2, x), l1, l2, l3, l4, l5] [(2, x), v0, v1] S h n) ∧
  (∀ (d : Nat) (a : Int) (l0 l1 l2 l3 l4 l5 : Option mx_V) (v1 v2 : mx_V) (S h : mx_H) (n : Int), mx_ex d 139 72 [l0, l1, l2, l3, l4, l5] [(2, a), v1, v2] S h n = mx_gd (7 ≤ S a (-2) ∧ S a (-2) ≤ 7) d 139 75 [l0, l1, l2, l3, l4, l5] [(2, S a 16), v1, v2] S h n) ∧
  (∀ (d : Nat) (x0 x1 a : Int) (l0 l1 l2 l3 l4 l5 : Option mx_V) (S h : mx_H) (n : Int), mx_ex (d + 1) 139 75 [l0, l1, l2, l3, l4, l5] [(2, x0), (0, x1), (2, a)] S h n = mx_cu (mx_vt (S a (-2)) [(1, 48), (2, 48), (3, 5), (4, 36), (5, 48), (6, 11)]) d [(2, a), (0, x1), (2, x0)] 139 78 [l0, l1, l2, l3, l4, l5] [] S h n) ∧
  (∀ (d : Nat) (x : Int) (l0 l1 l2 l3 l4 l5 : Option mx_V) (S h : mx_H) (n : Int), mx_ex d 139 78 [l0, l1, l2, l3, l4, l5] [(0, x)] S h n = mx_ex d 139 80 [l0, l1, l2, l3, mx_nl l4, some (0, x)] [] S h n) ∧
  (∀ (d : Nat) (l0 l1 l2 l3 l4 l5 : Option mx_V) (S h : mx_H) (n : Int), mx_ex d 139 80 [l0, l1, l2, l3, l4, l5] [] S h n = mx_ex d 139 125 [l0, l1, l2, l3, l4, l5] [] S h n) ∧
  (∀ (d : Nat) (x : Int) (l0 l1 l2 l3 l5 : Option mx_V) (S h : mx_H) (n : Int), mx_ex d 139 83 [l0, l1, l2, l3, some (2, x), l5] [] S h n = mx_ex d 139 85 [l0, l1, l2, l3, some (2, x), l5] [(2, x)] S h n) ∧
  (∀ (d : Nat) (x : Int) (l0 l1 l2 l4 l5 : Option mx_V) (v0 : mx_V) (S h : mx_H) (n : Int), mx_ex d 139 85 [l0, l1, l2, some (0, x), l4, l5] [v0] S h n = mx_ex d 139 86 [l0, l1, l2, some (0, x), l4, l5] [(0, x), v0] S h n) ∧
  (∀ (d : Nat) (x : Int) (l1 l2 l3 l4 l5 : Option mx_V) (v0 v1 : mx_V) (S h : mx_H) (n : Int), mx_ex d 139 86 [some (2, x), l1, l2, l3, l4, l5] [v0, v1] S h n = mx_ex d 139 87 [some (2, x), l1, l2, l3, l4, l5] [(2, x), v0, v1] S h n) ∧
  (∀ (d : Nat) (a : Int) (l0 l1 l2 l3 l4 l5 : Option mx_V) (v1 v2 : mx_V) (S h : mx_H) (n : Int), mx_ex d 139 87 [l0, l1, l2, l3, l4, l5] [(2, a), v1, v2] S h n = mx_gd (7 ≤ S a (-2) ∧ S a (-2) ≤ 7) d 139 90 [l0, l1, l2, l3, l4, l5] [(2, S a 16), v1, v2] S h n) ∧
  (∀ (d : Nat) (x0 x1 a : Int) (l0 l1 l2 l3 l4 l5 : Option mx_V) (S h : mx_H) (n : Int), mx_ex (d + 1) 139 90 [l0, l1, l2, l3, l4, l5] [(2, x0), (0, x1), (2, a)] S h n = mx_cu (mx_vt (S a (-2)) [(1, 49), (2, 58), (3, 49), (4, 37), (5, 49), (6, 58)]) d [(2, a), (0, x1), (2, x0)] 139 93 [l0, l1, l2, l3, l4, l5] [] S h n) ∧
  (∀ (d : Nat) (x : Int) (l0 l1 l2 l3 l4 l5 : Option mx_V) (S h : mx_H) (n : Int), mx_ex d 139 93 [l0, l1, l2, l3, l4, l5] [(0, x)] S h n = mx_ex d 139 95 [l0, l1, l2, l3, mx_nl l4, some (0, x)] [] S h n) ∧
  (∀ (d : Nat) (l0 l1 l2 l3 l4 l5 : Option mx_V) (S h : mx_H) (n : Int), mx_ex d 139 95 [l0, l1, l2, l3, l4, l5] [] S h n = mx_ex d 139 125 [l0, l1, l2, l3, l4, l5] [] S h n) ∧
  (∀ (d : Nat) (x : Int) (l0 l1 l2 l3 l5 : Option mx_V) (S h : mx_H) (n : Int), mx_ex d 139 98 [l0, l1, l2, l3, some (2, x), l5] [] S h n = mx_ex d 139 100 [l0, l1, l2, l3, some (2, x), l5] [(2, x)] S h n) ∧
  (∀ (d : Nat) (x : Int) (l0 l1 l2 l4 l5 : Option mx_V) (v0 : mx_V) (S h : mx_H) (n : Int), mx_ex d 139 100 [l0, l1, l2, some (0, x), l4, l5] [v0] S h n = mx_ex d 139 101 [l0, l1, l2, some (0, x), l4, l5] [(0, x), v0] S h n) ∧
  (∀ (d : Nat) (x : Int) (l1 l2 l3 l4 l5 : Option mx_V) (v0 v1 : mx_V) (S h : mx_H) (n : Int), mx_ex d 139 101 [some (2, x), l1, l2, l3, l4, l5] [v0, v1] S h n = mx_ex d 139 102 [some (2, x), l1, l2, l3, l4, l5] [(2, x), v0, v1] S h n) ∧
  (∀ (d : Nat) (a : Int) (l0 l1 l2 l3 l4 l5 : Option mx_V) (v1 v2 : mx_V) (S h : mx_H) (n : Int), mx_ex d 139 102 [l0, l1, l2, l3, l4, l5] [(2, a), v1, v2] S h n = mx_gd (7 ≤ S a (-2) ∧ S a (-2) ≤ 7) d 139 105 [l0, l1, l2, l3, l4, l5] [(2, S a 16), v1, v2] S h n) ∧
  (∀ (d : Nat) (x0 x1 a : Int) (l0 l1 l2 l3 l4 l5 : Option mx_V) (S h : mx_H) (n : Int), mx_ex (d + 1) 139 105 [l0, l1, l2, l3, l4, l5] [(2, x0), (0, x1), (2, a)] S h n = mx_cu (mx_vt (S a (-2)) [(1, 50), (2, 50), (3, 50), (4, 50), (5, 84), (6, 10)]) d [(2, a), (0, x1), (2, x0)] 139 108 [l0, l1, l2, l3, l4, l5] [] S h n) ∧
  (∀ (d : Nat) (x : Int) (l0 l1 l2 l3 l4 l5 : Option mx_V) (S h : mx_H) (n : Int), mx_ex d 139 108 [l0, l1, l2, l3, l4, l5] [(0, x)] S h n = mx_ex d 139 110 [l0, l1, l2, l3, mx_nl l4, some (0, x)] [] S h n) ∧
  (∀ (d : Nat) (l0 l1 l2 l3 l4 l5 : Option mx_V) (S h : mx_H) (n : Int), mx_ex d 139 110 [l0, l1, l2, l3, l4, l5] [] S h n = mx_ex d 139 125 [l0, l1, l2, l3, l4, l5] [] S h n) ∧
  (∀ (d : Nat) (x : Int) (l0 l1 l2 l3 l5 : Option mx_V) (S h : mx_H) (n : Int), mx_ex d 139 113 [l0, l1, l2, l3, some (2, x), l5] [] S h n = mx_ex d 139 115 [l0, l1, l2, l3, some (2, x), l5] [(2, x)] S h n) ∧
  (∀ (d : Nat) (x : Int) (l0 l1 l2 l4 l5 : Option mx_V) (v0 : mx_V) (S h : mx_H) (n : Int), mx_ex d 139 115 [l0, l1, l2, some (0, x), l4, l5] [v0] S h n = mx_ex d 139 116 [l0, l1, l2, some (0, x), l4, l5] [(0, x), v0] S h n) ∧
  (∀ (d : Nat) (x : Int) (l1 l2 l3 l4 l5 : Option mx_V) (v0 v1 : mx_V) (S h : mx_H) (n : Int), mx_ex d 139 116 [some (2, x), l1, l2, l3, l4, l5] [v0, v1] S h n = mx_ex d 139 117 [some (2, x), l1, l2, l3, l4, l5] [(2, x), v0, v1] S h n) ∧
  (∀ (d : Nat) (a : Int) (l0 l1 l2 l3 l4 l5 : Option mx_V) (v1 v2 : mx_V) (S h : mx_H) (n : Int), mx_ex d 139 117 [l0, l1, l2, l3, l4, l5] [(2, a), v1, v2] S h n = mx_gd (7 ≤ S a (-2) ∧ S a (-2) ≤ 7) d 139 120 [l0, l1, l2, l3, l4, l5] [(2, S a 16), v1, v2] S h n) ∧
  (∀ (d : Nat) (x0 x1 a : Int) (l0 l1 l2 l3 l4 l5 : Option mx_V) (S h : mx_H) (n : Int), mx_ex (d + 1) 139 120 [l0, l1, l2, l3, l4, l5] [(2, x0), (0, x1), (2, a)] S h n = mx_cu (mx_vt (S a (-2)) [(1, 51), (2, 51), (3, 6), (4, 6), (5, 83), (6, 51)]) d [(2, a), (0, x1), (2, x0)] 139 123 [l0, l1, l2, l3, l4, l5] [] S h n) ∧
  (∀ (d : Nat) (x : Int) (l0 l1 l2 l3 l4 l5 : Option mx_V) (S h : mx_H) (n : Int), mx_ex d 139 123 [l0, l1, l2, l3, l4, l5] [(0, x)] S h n = mx_ex d 139 125 [l0, l1, l2, l3, mx_nl l4, some (0, x)] [] S h n) ∧
  (∀ (d : Nat) (x : Int) (l1 l2 l3 l4 l5 : Option mx_V) (S h : mx_H) (n : Int), mx_ex d 139 125 [some (2, x), l1, l2, l3, l4, l5] [] S h n = mx_ex d 139 126 [some (2, x), l1, l2, l3, l4, l5] [(2, x)] S h n) ∧
  (∀ (d : Nat) (a : Int) (l0 l1 l2 l3 l4 l5 : Option mx_V) (S h : mx_H) (n : Int), mx_ex d 139 126 [l0, l1, l2, l3, l4, l5] [(2, a)] S h n = mx_gd (7 ≤ S a (-2) ∧ S a (-2) ≤ 7) d 139 129 [l0, l1, l2, l3, l4, l5] [(2, S a 16)] S h n) ∧
  (∀ (d : Nat) (a : Int) (l0 l1 l2 l3 l4 l5 : Option mx_V) (S h : mx_H) (n : Int), mx_ex (d + 1) 139 129 [l0, l1, l2, l3, l4, l5] [(2, a)] S h n = mx_cl (S a (-2) = 11) d 78 [(2, a)] 139 132 [l0, l1, l2, l3, l4, l5] [] S h n) ∧
  (∀ (d : Nat) (a : Int) (l0 l1 l2 l3 l4 l5 : Option mx_V) (S h : mx_H) (n : Int), mx_ex d 139 132 [l0, l1, l2, l3, l4, l5] [(0, a)] S h n = mx_br (a = 0) d 139 140 135 [l0, l1, l2, l3, l4, l5] [] S h n) ∧
  (∀ (d : Nat) (l0 l1 l2 l3 l4 l5 : Option mx_V) (S h : mx_H) (n : Int), mx_ex d 139 135 [l0, l1, l2, l3, l4, l5] [] S h n = mx_ex d 139 137 [l0, l1, l2, l3, l4, l5] [(0, (-15))] S h n) ∧
  (∀ (d : Nat) (l0 l1 l2 l3 l4 l5 : Option mx_V) (v0 : mx_V) (S h : mx_H) (n : Int), mx_ex d 139 137 [l0, l1, l2, l3, l4, l5] [v0] S h n = mx_ex d 139 142 [l0, l1, l2, l3, l4, l5] [v0] S h n) ∧
  (∀ (d : Nat) (x : Int) (l0 l1 l2 l3 l4 : Option mx_V) (S h : mx_H) (n : Int), mx_ex d 139 140 [l0, l1, l2, l3, l4, some (0, x)] [] S h n = mx_ex d 139 142 [l0, l1, l2, l3, l4, some (0, x)] [(0, x)] S h n) ∧
  (∀ (d : Nat) (x : Int) (l0 l1 l2 l3 l4 l5 : Option mx_V) (S h : mx_H) (n : Int), mx_ex d 139 142 [l0, l1, l2, l3, l4, l5] [(0, x)] S h n = some (some (0, x), S, h, n)) :=
  ⟨by intros; exact rfl,
   by intros; exact eq_ld rfl rfl,
   by intros; exact eq_gr rfl,
   by intros; exact eq_cv rfl (Nat.le_of_ble_eq_true rfl) rfl rfl rfl (Nat.le_of_ble_eq_true rfl),
   by intros; exact eq_ld rfl rfl,
   by intros; exact eq_cs rfl (Nat.le_of_ble_eq_true rfl) rfl rfl rfl (Nat.le_of_ble_eq_true rfl),
   by intros; exact eq_if0 rfl,
   by intros; exact eq_ld rfl rfl,
   by intros; exact eq_ld rfl rfl,
   by intros; exact eq_cv rfl (Nat.le_of_ble_eq_true rfl) rfl rfl rfl (Nat.le_of_ble_eq_true rfl),
   by intros; exact eq_go rfl,
   by intros; exact eq_push rfl,
   by intros; exact eq_st rfl (by decide) (Nat.le_of_ble_eq_true rfl) rfl,
   by intros; exact eq_ld rfl rfl,
   by intros; exact eq_nul rfl,
   by intros; exact eq_ld rfl rfl,
   by intros; exact eq_push rfl,
   by intros; exact eq_push rfl,
   by intros; exact eq_cs rfl (Nat.le_of_ble_eq_true rfl) rfl rfl rfl (Nat.le_of_ble_eq_true rfl),
   by intros; exact eq_if1 rfl,
   by intros; exact eq_push rfl,
   by intros; exact eq_ret rfl,
   by intros; exact eq_ld rfl rfl,
   by intros; exact eq_sw rfl,
   by intros; exact eq_ld rfl rfl,
   by intros; exact eq_ld rfl rfl,
   by intros; exact eq_ld rfl rfl,
   by intros; exact eq_gr rfl,
   by intros; exact eq_cu rfl (Nat.le_of_ble_eq_true rfl) rfl rfl rfl (Nat.le_of_ble_eq_true rfl),
   by intros; exact eq_st rfl (by decide) (Nat.le_of_ble_eq_true rfl) rfl,
   by intros; exact eq_go rfl,
   by intros; exact eq_ld rfl rfl,
   by intros; exact eq_ld rfl rfl,
   by intros; exact eq_ld rfl rfl,
   by intros; exact eq_gr rfl,
   by intros; exact eq_cu rfl (Nat.le_of_ble_eq_true rfl) rfl rfl rfl (Nat.le_of_ble_eq_true rfl),
   by intros; exact eq_st rfl (by decide) (Nat.le_of_ble_eq_true rfl) rfl,
   by intros; exact eq_go rfl,
   by intros; exact eq_ld rfl rfl,
   by intros; exact eq_ld rfl rfl,
   by intros; exact eq_ld rfl rfl,
   by intros; exact eq_gr rfl,
   by intros; exact eq_cu rfl (Nat.le_of_ble_eq_true rfl) rfl rfl rfl (Nat.le_of_ble_eq_true rfl),
   by intros; exact eq_st rfl (by decide) (Nat.le_of_ble_eq_true rfl) rfl,
   by intros; exact eq_go rfl,
   by intros; exact eq_ld rfl rfl,
   by intros; exact eq_ld rfl rfl,
   by intros; exact eq_ld rfl rfl,
   by intros; exact eq_gr rfl,
   by intros; exact eq_cu rfl (Nat.le_of_ble_eq_true rfl) rfl rfl rfl (Nat.le_of_ble_eq_true rfl),
   by intros; exact eq_st rfl (by decide) (Nat.le_of_ble_eq_true rfl) rfl,
   by intros; exact eq_ld rfl rfl,
   by intros; exact eq_gr rfl,
   by intros; exact eq_cv rfl (Nat.le_of_ble_eq_true rfl) rfl rfl rfl (Nat.le_of_ble_eq_true rfl),
   by intros; exact eq_if0 rfl,
   by intros; exact eq_push rfl,
   by intros; exact eq_go rfl,
   by intros; exact eq_ld rfl rfl,
   by intros; exact eq_ret rfl⟩
theorem rw_X11_trace :
  (∀ (d : Nat) (a0 a1 : Int) (S h : mx_H) (n : Int), mx_M d 140 [(2, a0), (0, a1)] S h n = mx_ex d 140 0 [some (2, a0), some (0, a1)] [] S h n) ∧
  (∀ (d : Nat) (x : Int) (l0 : Option mx_V) (S h : mx_H) (n : Int), mx_ex d 140 0 [l0, some (0, x)] [] S h n = mx_ex d 140 1 [l0, some (0, x)] [(0, x)] S h n) ∧
  (∀ (d : Nat) (l0 l1 : Option mx_V) (v0 : mx_V) (S h : mx_H) (n : Int), mx_ex d 140 1 [l0, l1] [v0] S h n = mx_ex d 140 2 [l0, l1] [(0, 0), v0] S h n) ∧
  (∀ (d : Nat) (x : Int) (l1 : Option mx_V) (v0 v1 : mx_V) (S h : mx_H) (n : Int), mx_ex d 140 2 [some (2, x), l1] [v0, v1] S h n = mx_ex d 140 3 [some (2, x), l1] [(2, x), v0, v1] S h n) ∧
  (∀ (d : Nat) (a : Int) (l0 l1 : Option mx_V) (v1 v2 : mx_V) (S h : mx_H) (n : Int), mx_ex d 140 3 [l0, l1] [(2, a), v1, v2] S h n = mx_gd (7 ≤ S a (-2) ∧ S a (-2) ≤ 7) d 140 6 [l0, l1] [(2, S a 16), v1, v2] S h n) ∧
  (∀ (d : Nat) (a : Int) (l0 l1 : Option mx_V) (v1 v2 : mx_V) (S h : mx_H) (n : Int), mx_ex (d + 1) 140 6 [l0, l1] [(2, a), v1, v2] S h n = mx_cl (S a (-2) = 11) d 79 [(2, a)] 140 9 [l0, l1] [v1, v2] S h n) ∧
  (∀ (d : Nat) (l0 l1 : Option mx_V) (v0 v1 v2 : mx_V) (S h : mx_H) (n : Int), mx_ex d 140 9 [l0, l1] [v0, v1, v2] S h n = mx_ex d 140 10 [l0, l1] [(0, 1), v0, v1, v2] S h n) ∧
  (∀ (d : Nat) (b a : Int) (l0 l1 : Option mx_V) (v2 v3 : mx_V) (S h : mx_H) (n : Int), mx_ex d 140 10 [l0, l1] [(0, b), (0, a), v2, v3] S h n = mx_ex d 140 11 [l0, l1] [(0, mx_w (a - b)), v2, v3] S h n) ∧
  (∀ (d : Nat) (x0 x1 x2 : Int) (l0 l1 : Option mx_V) (S h : mx_H) (n : Int), mx_ex (d + 1) 140 11 [l0, l1] [(0, x0), (0, x1), (0, x2)] S h n = mx_rt (mx_M d 147 [(0, x2), (0, x1), (0, x0)] S h n) (d + 1) 140 14 [l0, l1] []) ∧
  (∀ (d : Nat) (a : Int) (l0 l1 : Option mx_V) (S h : mx_H) (n : Int), mx_ex d 140 14 [l0, l1] [(0, a)] S h n = mx_br (a = 0) d 140 29 17 [l0, l1] [] S h n) ∧
  (∀ (d : Nat) (x : Int) (l1 : Option mx_V) (S h : mx_H) (n : Int), mx_ex d 140 17 [some (2, x), l1] [] S h n = mx_ex d 140 18 [some (2, x), l1] [(2, x)] S h n) ∧
  (∀ (d : Nat) (a : Int) (l0 l1 : Option mx_V) (S h : mx_H) (n : Int), mx_ex d 140 18 [l0, l1] [(2, a)] S h n = mx_gd (7 ≤ S a (-2) ∧ S a (-2) ≤ 7) d 140 21 [l0, l1] [(2, S a 16)] S h n) ∧
  (∀ (d : Nat) (a : Int) (l0 l1 : Option mx_V) (S h : mx_H) (n : Int), mx_ex d 140 21 [l0, l1] [(2, a)] S h n = mx_gd (11 ≤ S a (-2) ∧ S a (-2) ≤ 11) d 140 24 [l0, l1] [(2, S a 0)] S h n) ∧
  (∀ (d : Nat) (x : Int) (l0 : Option mx_V) (v0 : mx_V) (S h : mx_H) (n : Int), mx_ex d 140 24 [l0, some (0, x)] [v0] S h n = mx_ex d 140 25 [l0, some (0, x)] [(0, x), v0] S h n) ∧
  (∀ (d : Nat) (i a : Int) (l0 l1 : Option mx_V) (S h : mx_H) (n : Int), mx_ex d 140 25 [l0, l1] [(0, i), (2, a)] S h n = mx_gd ((S a (-2) = 20 ∨ S a (-2) = 24) ∧ 0 ≤ i ∧ i < S a (-1)) d 140 26 [l0, l1] [(0, h a i)] S h n) ∧
  (∀ (d : Nat) (l0 l1 : Option mx_V) (v0 : mx_V) (S h : mx_H) (n : Int), mx_ex d 140 26 [l0, l1] [v0] S h n = mx_ex d 140 31 [l0, l1] [v0] S h n) ∧
  (∀ (d : Nat) (l0 l1 : Option mx_V) (S h : mx_H) (n : Int), mx_ex d 140 29 [l0, l1] [] S h n = mx_ex d 140 31 [l0, l1] [(0, (-3))] S h n) ∧
  (∀ (d : Nat) (x : Int) (l0 l1 : Option mx_V) (S h : mx_H) (n : Int), mx_ex d 140 31 [l0, l1] [(0, x)] S h n = some (some (0, x), S, h, n)) :=
  ⟨by intros; exact rfl,
   by intros; exact eq_ld rfl rfl,
   by intros; exact eq_push rfl,
   by intros; exact eq_ld rfl rfl,
   by intros; exact eq_gr rfl,
   by intros; exact eq_cv rfl (Nat.le_of_ble_eq_true rfl) rfl rfl rfl (Nat.le_of_ble_eq_true rfl),
   by intros; exact eq_push rfl,
   by intros; exact eq_i2 (o := mx_sub) rfl,
   by intros; exact eq_cs rfl (Nat.le_of_ble_eq_true rfl) rfl rfl rfl (Nat.le_of_ble_eq_true rfl),
   by intros; exact eq_if0 rfl,
   by intros; exact eq_ld rfl rfl,
   by intros; exact eq_gr rfl,
   by intros; exact eq_gr rfl,
   by intros; exact eq_ld rfl rfl,
   by intros; exact eq_iald rfl,
   by intros; exact eq_go rfl,
   by intros; exact eq_push rfl,
   by intros; exact eq_ret rfl⟩
theorem rw_X11_many :
  (∀ (d : Nat) (a0 a1 : Int) (S h : mx_H) (n : Int), mx_M d 141 [(2, a0), (0, a1)] S h n = mx_ex d 141 0 [some (2, a0), some (0, a1)] [] S h n) ∧
  (∀ (d : Nat) (x : Int) (l0 : Option mx_V) (S h : mx_H) (n : Int), mx_ex d 141 0 [l0, some (0, x)] [] S h n = mx_ex d 141 1 [l0, some (0, x)] [(0, x)] S h n) ∧
  (∀ (d : Nat) (a : Int) (l0 l1 : Option mx_V) (S h : mx_H) (n : Int), mx_ex d 141 1 [l0, l1] [(0, a)] S h n = mx_sw a [(0, 36), (1, 44), (2, 52), (3, 57), (4, 62)] d 141 70 [l0, l1] [] S h n) ∧
  (∀ (d : Nat) (x : Int) (l1 : Option mx_V) (S h : mx_H) (n : Int), mx_ex d 141 36 [some (2, x), l1] [] S h n = mx_ex d 141 37 [some (2, x), l1] [(2, x)] S h n) ∧
  (∀ (d : Nat) (a : Int) (l0 l1 : Option mx_V) (S h : mx_H) (n : Int), mx_ex d 141 37 [l0, l1] [(2, a)] S h n = mx_gd (7 ≤ S a (-2) ∧ S a (-2) ≤ 7) d 141 40 [l0, l1] [(2, S a 3)] S h n) ∧
  (∀ (d : Nat) (a : Int) (l0 l1 : Option mx_V) (S h : mx_H) (n : Int), mx_ex d 141 40 [l0, l1] [(2, a)] S h n = mx_gd (8 ≤ S a (-2) ∧ S a (-2) ≤ 8) d 141 43 [l0, l1] [(0, h a 3)] S h n) ∧
  (∀ (d : Nat) (x : Int) (l0 l1 : Option mx_V) (S h : mx_H) (n : Int), mx_ex d 141 43 [l0, l1] [(0, x)] S h n = some (some (0, x), S, h, n)) ∧
  (∀ (d : Nat) (x : Int) (l1 : Option mx_V) (S h : mx_H) (n : Int), mx_ex d 141 44 [some (2, x), l1] [] S h n = mx_ex d 141 45 [some (2, x), l1] [(2, x)] S h n) ∧
  (∀ (d : Nat) (a : Int) (l0 l1 : Option mx_V) (S h : mx_H) (n : Int), mx_ex d 141 45 [l0, l1] [(2, a)] S h n = mx_gd (7 ≤ S a (-2) ∧ S a (-2) ≤ 7) d 141 48 [l0, l1] [(2, S a 3)] S h n) ∧
  (∀ (d : Nat) (a : Int) (l0 l1 : Option mx_V) (S h : mx_H) (n : Int), mx_ex d 141 48 [l0, l1] [(2, a)] S h n = mx_gd (8 ≤ S a (-2) ∧ S a (-2) ≤ 8) d 141 51 [l0, l1] [(0, h a 4)] S h n) ∧
  (∀ (d : Nat) (x : Int) (l0 l1 : Option mx_V) (S h : mx_H) (n : Int), mx_ex d 141 51 [l0, l1] [(0, x)] S h n = some (some (0, x), S, h, n)) ∧
  (∀ (d : Nat) (x : Int) (l1 : Option mx_V) (S h : mx_H) (n : Int), mx_ex d 141 52 [some (2, x), l1] [] S h n = mx_ex d 141 53 [some (2, x), l1] [(2, x)] S h n) ∧
  (∀ (d : Nat) (a : Int) (l0 l1 : Option mx_V) (S h : mx_H) (n : Int), mx_ex d 141 53 [l0, l1] [(2, a)] S h n = mx_gd (7 ≤ S a (-2) ∧ S a (-2) ≤ 7) d 141 56 [l0, l1] [(0, h a 10)] S h n) ∧
  (∀ (d : Nat) (x : Int) (l0 l1 : Option mx_V) (S h : mx_H) (n : Int), mx_ex d 141 56 [l0, l1] [(0, x)] S h n = some (some (0, x), S, h, n)) ∧
  (∀ (d : Nat) (x : Int) (l1 : Option mx_V) (S h : mx_H) (n : Int), mx_ex d 141 57 [some (2, x), l1] [] S h n = mx_ex d 141 58 [some (2, x), l1] [(2, x)] S h n) ∧
  (∀ (d : Nat) (a : Int) (l0 l1 : Option mx_V) (S h : mx_H) (n : Int), mx_ex d 141 58 [l0, l1] [(2, a)] S h n = mx_gd (7 ≤ S a (-2) ∧ S a (-2) ≤ 7) d 141 61 [l0, l1] [(0, h a 1)] S h n) ∧
  (∀ (d : Nat) (x : Int) (l0 l1 : Option mx_V) (S h : mx_H) (n : Int), mx_ex d 141 61 [l0, l1] [(0, x)] S h n = some (some (0, x), S, h, n)) ∧
  (∀ (d : Nat) (x : Int) (l1 : Option mx_V) (S h : mx_H) (n : Int), mx_ex d 141 62 [some (2, x), l1] [] S h n = mx_ex d 141 63 [some (2, x), l1] [(2, x)] S h n) ∧
  (∀ (d : Nat) (a : Int) (l0 l1 : Option mx_V) (S h : mx_H) (n : Int), mx_ex d 141 63 [l0, l1] [(2, a)] S h n = mx_gd (7 ≤ S a (-2) ∧ S a (-2) ≤ 7) d 141 66 [l0, l1] [(2, S a 16)] S h n) ∧
  (∀ (d : Nat) (a : Int) (l0 l1 : Option mx_V) (S h : mx_H) (n : Int), mx_ex (d + 1) 141 66 [l0, l1] [(2, a)] S h n = mx_cl (S a (-2) = 11) d 79 [(2, a)] 141 69 [l0, l1] [] S h n) ∧
  (∀ (d : Nat) (x : Int) (l0 l1 : Option mx_V) (S h : mx_H) (n : Int), mx_ex d 141 69 [l0, l1] [(0, x)] S h n = some (some (0, x), S, h, n)) ∧
  (∀ (d : Nat) (l0 l1 : Option mx_V) (S h : mx_H) (n : Int), mx_ex d 141 70 [l0, l1] [] S h n = mx_ex d 141 71 [l0, l1] [(0, (-1))] S h n) ∧
  (∀ (d : Nat) (x : Int) (l0 l1 : Option mx_V) (S h : mx_H) (n : Int), mx_ex d 141 71 [l0, l1] [(0, x)] S h n = some (some (0, x), S, h, n)) :=
  ⟨by intros; exact rfl,
   by intros; exact eq_ld rfl rfl,
   by intros; exact eq_sw rfl,
   by intros; exact eq_ld rfl rfl,
   by intros; exact eq_gr rfl,
   by intros; exact eq_gi rfl,
   by intros; exact eq_ret rfl,
   by intros; exact eq_ld rfl rfl,
   by intros; exact eq_gr rfl,
   by intros; exact eq_gi rfl,
   by intros; exact eq_ret rfl,
   by intros; exact eq_ld rfl rfl,
   by intros; exact eq_gi rfl,
   by intros; exact eq_ret rfl,
   by intros; exact eq_ld rfl rfl,
   by intros; exact eq_gi rfl,
   by intros; exact eq_ret rfl,
   by intros; exact eq_ld rfl rfl,
   by intros; exact eq_gr rfl,
   by intros; exact eq_cv rfl (Nat.le_of_ble_eq_true rfl) rfl rfl rfl (Nat.le_of_ble_eq_true rfl),
   by intros; exact eq_ret rfl,
   by intros; exact eq_push rfl,
   by intros; exact eq_ret rfl⟩
theorem rw_X11_keep :
  (∀ (d : Nat) (a0 : Int) (S h : mx_H) (n : Int), mx_M d 142 [(2, a0)] S h n = mx_ex d 142 0 [some (2, a0)] [] S h n) ∧
  (∀ (d : Nat) (x : Int) (S h : mx_H) (n : Int), mx_ex d 142 0 [some (2, x)] [] S h n = mx_ex d 142 1 [some (2, x)] [(2, x)] S h n) ∧
  (∀ (d : Nat) (a : Int) (l0 : Option mx_V) (S h : mx_H) (n : Int), mx_ex d 142 1 [l0] [(2, a)] S h n = mx_gd (7 ≤ S a (-2) ∧ S a (-2) ≤ 7) d 142 4 [l0] [(2, S a 4)] S h n) ∧
  (∀ (d : Nat) (x : Int) (v0 : mx_V) (S h : mx_H) (n : Int), mx_ex d 142 4 [some (2, x)] [v0] S h n = mx_ex d 142 5 [some (2, x)] [(2, x), v0] S h n) ∧
  (∀ (d : Nat) (a : Int) (l0 : Option mx_V) (v1 : mx_V) (S h : mx_H) (n : Int), mx_ex d 142 5 [l0] [(2, a), v1] S h n = mx_gd (7 ≤ S a (-2) ∧ S a (-2) ≤ 7) d 142 8 [l0] [(2, S a 3), v1] S h n) ∧
  (∀ (d : Nat) (x0 a : Int) (l0 : Option mx_V) (S h : mx_H) (n : Int), mx_ex (d + 1) 142 8 [l0] [(2, x0), (2, a)] S h n = mx_cl (S a (-2) = 8) d 87 [(2, a), (2, x0)] 142 11 [l0] [] S h n) ∧
  (∀ (d : Nat) (x : Int) (S h : mx_H) (n : Int), mx_ex d 142 11 [some (2, x)] [] S h n = mx_ex d 142 12 [some (2, x)] [(2, x)] S h n) ∧
  (∀ (d : Nat) (x : Int) (v0 : mx_V) (S h : mx_H) (n : Int), mx_ex d 142 12 [some (2, x)] [v0] S h n = mx_ex d 142 13 [some (2, x)] [(2, x), v0] S h n) ∧
  (∀ (d : Nat) (a : Int) (l0 : Option mx_V) (v1 : mx_V) (S h : mx_H) (n : Int), mx_ex d 142 13 [l0] [(2, a), v1] S h n = mx_gd (7 ≤ S a (-2) ∧ S a (-2) ≤ 7) d 142 16 [l0] [(0, h a 6), v1] S h n) ∧
  (∀ (d : Nat) (v a : Int) (l0 : Option mx_V) (S h : mx_H) (n : Int), mx_ex d 142 16 [l0] [(0, v), (2, a)] S h n = mx_gd (7 ≤ S a (-2) ∧ S a (-2) ≤ 7) d 142 19 [l0] [] S (mx_u h a 7 v) n) ∧
  (∀ (d : Nat) (x : Int) (S h : mx_H) (n : Int), mx_ex d 142 19 [some (2, x)] [] S h n = mx_ex d 142 20 [some (2, x)] [(2, x)] S h n) ∧
  (∀ (d : Nat) (l0 : Option mx_V) (v0 : mx_V) (S h : mx_H) (n : Int), mx_ex d 142 20 [l0] [v0] S h n = mx_ex d 142 21 [l0] [(0, 1), v0] S h n) ∧
  (∀ (d : Nat) (v a : Int) (l0 : Option mx_V) (S h : mx_H) (n : Int), mx_ex d 142 21 [l0] [(0, v), (2, a)] S h n = mx_gd (7 ≤ S a (-2) ∧ S a (-2) ≤ 7 ∧ 0 ≤ v ∧ v ≤ 1) d 142 24 [l0] [] S (mx_u h a 5 v) n) ∧
  (∀ (d : Nat) (l0 : Option mx_V) (S h : mx_H) (n : Int), mx_ex d 142 24 [l0] [] S h n = mx_ex d 142 25 [l0] [(0, 1)] S h n) ∧
  (∀ (d : Nat) (x : Int) (l0 : Option mx_V) (S h : mx_H) (n : Int), mx_ex d 142 25 [l0] [(0, x)] S h n = some (some (0, x), S, h, n)) :=
  ⟨by intros; exact rfl,
   by intros; exact eq_ld rfl rfl,
   by intros; exact eq_gr rfl,
   by intros; exact eq_ld rfl rfl,
   by intros; exact eq_gr rfl,
   by intros; exact eq_cv rfl (Nat.le_of_ble_eq_true rfl) rfl rfl rfl (Nat.le_of_ble_eq_true rfl),
   by intros; exact eq_ld rfl rfl,
   by intros; exact eq_ld rfl rfl,
   by intros; exact eq_gi rfl,
   by intros; exact eq_pi rfl,
   by intros; exact eq_ld rfl rfl,
   by intros; exact eq_push rfl,
   by intros; exact eq_pz rfl,
   by intros; exact eq_push rfl,
   by intros; exact eq_ret rfl⟩
theorem rw_X11_again :
  (∀ (d : Nat) (a0 : Int) (S h : mx_H) (n : Int), mx_M d 143 [(2, a0)] S h n = mx_ex d 143 0 [some (2, a0)] [] S h n) ∧
  (∀ (d : Nat) (x : Int) (S h : mx_H) (n : Int), mx_ex d 143 0 [some (2, x)] [] S h n = mx_ex d 143 1 [some (2, x)] [(2, x)] S h n) ∧
  (∀ (d : Nat) (a : Int) (l0 : Option mx_V) (S h : mx_H) (n : Int), mx_ex d 143 1 [l0] [(2, a)] S h n = mx_gd (7 ≤ S a (-2) ∧ S a (-2) ≤ 7) d 143 4 [l0] [(0, h a 5)] S h n) ∧
  (∀ (d : Nat) (a : Int) (l0 : Option mx_V) (S h : mx_H) (n : Int), mx_ex d 143 4 [l0] [(0, a)] S h n = mx_br (a = 0) d 143 7 10 [l0] [] S h n) ∧
  (∀ (d : Nat) (l0 : Option mx_V) (S h : mx_H) (n : Int), mx_ex d 143 7 [l0] [] S h n = mx_ex d 143 9 [l0] [(0, (-3))] S h n) ∧
  (∀ (d : Nat) (x : Int) (l0 : Option mx_V) (S h : mx_H) (n : Int), mx_ex d 143 9 [l0] [(0, x)] S h n = some (some (0, x), S, h, n)) ∧
  (∀ (d : Nat) (x : Int) (S h : mx_H) (n : Int), mx_ex d 143 10 [some (2, x)] [] S h n = mx_ex d 143 11 [some (2, x)] [(2, x)] S h n) ∧
  (∀ (d : Nat) (a : Int) (l0 : Option mx_V) (S h : mx_H) (n : Int), mx_ex d 143 11 [l0] [(2, a)] S h n = mx_gd (7 ≤ S a (-2) ∧ S a (-2) ≤ 7) d 143 14 [l0] [(2, S a 3)] S h n) ∧
  (∀ (d : Nat) (x : Int) (v0 : mx_V) (S h : mx_H) (n : Int), mx_ex d 143 14 [some (2, x)] [v0] S h n = mx_ex d 143 15 [some (2, x)] [(2, x), v0] S h n) ∧
  (∀ (d : Nat) (a : Int) (l0 : Option mx_V) (v1 : mx_V) (S h : mx_H) (n : Int), mx_ex d 143 15 [l0] [(2, a), v1] S h n = mx_gd (7 ≤ S a (-2) ∧ S a (-2) ≤ 7) d 143 18 [l0] [(2, S a 4), v1] S h n) ∧
  (∀ (d : Nat) (x0 a : Int) (l0 : Option mx_V) (S h : mx_H) (n : Int), mx_ex (d + 1) 143 18 [l0] [(2, x0), (2, a)] S h n = mx_cl (S a (-2) = 8) d 87 [(2, a), (2, x0)] 143 21 [l0] [] S h n) ∧
  (∀ (d : Nat) (x : Int) (S h : mx_H) (n : Int), mx_ex d 143 21 [some (2, x)] [] S h n = mx_ex d 143 22 [some (2, x)] [(2, x)] S h n) ∧
  (∀ (d : Nat) (x : Int) (v0 : mx_V) (S h : mx_H) (n : Int), mx_ex d 143 22 [some (2, x)] [v0] S h n = mx_ex d 143 23 [some (2, x)] [(2, x), v0] S h n) ∧
  (∀ (d : Nat) (a : Int) (l0 : Option mx_V) (v1 : mx_V) (S h : mx_H) (n : Int), mx_ex d 143 23 [l0] [(2, a), v1] S h n = mx_gd (7 ≤ S a (-2) ∧ S a (-2) ≤ 7) d 143 26 [l0] [(0, h a 7), v1] S h n) ∧
  (∀ (d : Nat) (v a : Int) (l0 : Option mx_V) (S h : mx_H) (n : Int), mx_ex d 143 26 [l0] [(0, v), (2, a)] S h n = mx_gd (7 ≤ S a (-2) ∧ S a (-2) ≤ 7) d 143 29 [l0] [] S (mx_u h a 6 v) n) ∧
  (∀ (d : Nat) (x : Int) (S h : mx_H) (n : Int), mx_ex d 143 29 [some (2, x)] [] S h n = mx_ex d 143 30 [some (2, x)] [(2, x)] S h n) ∧
  (∀ (d : Nat) (a : Int) (l0 : Option mx_V) (S h : mx_H) (n : Int), mx_ex d 143 30 [l0] [(2, a)] S h n = mx_gd (7 ≤ S a (-2) ∧ S a (-2) ≤ 7) d 143 33 [l0] [(2, S a 3)] S h n) ∧
  (∀ (d : Nat) (a : Int) (l0 : Option mx_V) (S h : mx_H) (n : Int), mx_ex d 143 33 [l0] [(2, a)] S h n = mx_gd (8 ≤ S a (-2) ∧ S a (-2) ≤ 8) d 143 36 [l0] [(0, h a 3)] S h n) ∧
  (∀ (d : Nat) (x : Int) (l0 : Option mx_V) (S h : mx_H) (n : Int), mx_ex d 143 36 [l0] [(0, x)] S h n = some (some (0, x), S, h, n)) :=
  ⟨by intros; exact rfl,
   by intros; exact eq_ld rfl rfl,
   by intros; exact eq_gi rfl,
   by intros; exact eq_if1 rfl,
   by intros; exact eq_push rfl,
   by intros; exact eq_ret rfl,
   by intros; exact eq_ld rfl rfl,
   by intros; exact eq_gr rfl,
   by intros; exact eq_ld rfl rfl,
   by intros; exact eq_gr rfl,
   by intros; exact eq_cv rfl (Nat.le_of_ble_eq_true rfl) rfl rfl rfl (Nat.le_of_ble_eq_true rfl),
   by intros; exact eq_ld rfl rfl,
   by intros; exact eq_ld rfl rfl,
   by intros; exact eq_gi rfl,
   by intros; exact eq_pi rfl,
   by intros; exact eq_ld rfl rfl,
   by intros; exact eq_gr rfl,
   by intros; exact eq_gi rfl,
   by intros; exact eq_ret rfl⟩
theorem rw_X11_hasRow :
  (∀ (d : Nat) (a0 a1 a2 : Int) (S h : mx_H) (n : Int), mx_M d 144 [(2, a0), (0, a1), (0, a2)] S h n = mx_ex d 144 0 [some (2, a0), some (0, a1), some (0, a2)] [] S h n) ∧
  (∀ (d : Nat) (x : Int) (l0 l2 : Option mx_V) (S h : mx_H) (n : Int), mx_ex d 144 0 [l0, some (0, x), l2] [] S h n = mx_ex d 144 1 [l0, some (0, x), l2] [(0, x)] S h n) ∧
  (∀ (d : Nat) (l0 l1 l2 : Option mx_V) (v0 : mx_V) (S h : mx_H) (n : Int), mx_ex d 144 1 [l0, l1, l2] [v0] S h n = mx_ex d 144 2 [l0, l1, l2] [(0, 0), v0] S h n) ∧
  (∀ (d : Nat) (x : Int) (l1 l2 : Option mx_V) (v0 v1 : mx_V) (S h : mx_H) (n : Int), mx_ex d 144 2 [some (2, x), l1, l2] [v0, v1] S h n = mx_ex d 144 3 [some (2, x), l1, l2] [(2, x), v0, v1] S h n) ∧
  (∀ (d : Nat) (a : Int) (l0 l1 l2 : Option mx_V) (v1 v2 : mx_V) (S h : mx_H) (n : Int), mx_ex d 144 3 [l0, l1, l2] [(2, a), v1, v2] S h n = mx_gd (7 ≤ S a (-2) ∧ S a (-2) ≤ 7) d 144 6 [l0, l1, l2] [(0, h a 10), v1, v2] S h n) ∧
  (∀ (d : Nat) (l0 l1 l2 : Option mx_V) (v0 v1 v2 : mx_V) (S h : mx_H) (n : Int), mx_ex d 144 6 [l0, l1, l2] [v0, v1, v2] S h n = mx_ex d 144 7 [l0, l1, l2] [(0, 1), v0, v1, v2] S h n) ∧
  (∀ (d : Nat) (b a : Int) (l0 l1 l2 : Option mx_V) (v2 v3 : mx_V) (S h : mx_H) (n : Int), mx_ex d 144 7 [l0, l1, l2] [(0, b), (0, a), v2, v3] S h n = mx_ex d 144 8 [l0, l1, l2] [(0, mx_w (a - b)), v2, v3] S h n) ∧
  (∀ (d : Nat) (x0 x1 x2 : Int) (l0 l1 l2 : Option mx_V) (S h : mx_H) (n : Int), mx_ex (d + 1) 144 8 [l0, l1, l2] [(0, x0), (0, x1), (0, x2)] S h n = mx_rt (mx_M d 147 [(0, x2), (0, x1), (0, x0)] S h n) (d + 1) 144 11 [l0, l1, l2] []) ∧
  (∀ (d : Nat) (a : Int) (l0 l1 l2 : Option mx_V) (S h : mx_H) (n : Int), mx_ex d 144 11 [l0, l1, l2] [(0, a)] S h n = mx_br (a = 0) d 144 27 14 [l0, l1, l2] [] S h n) ∧
  (∀ (d : Nat) (x : Int) (l0 l1 : Option mx_V) (S h : mx_H) (n : Int), mx_ex d 144 14 [l0, l1, some (0, x)] [] S h n = mx_ex d 144 15 [l0, l1, some (0, x)] [(0, x)] S h n) ∧
  (∀ (d : Nat) (l0 l1 l2 : Option mx_V) (v0 : mx_V) (S h : mx_H) (n : Int), mx_ex d 144 15 [l0, l1, l2] [v0] S h n = mx_ex d 144 16 [l0, l1, l2] [(0, 0), v0] S h n) ∧
  (∀ (d : Nat) (l0 l1 l2 : Option mx_V) (v0 v1 : mx_V) (S h : mx_H) (n : Int), mx_ex d 144 16 [l0, l1, l2] [v0, v1] S h n = mx_ex d 144 17 [l0, l1, l2] [(0, 2), v0, v1] S h n) ∧
  (∀ (d : Nat) (x0 x1 x2 : Int) (l0 l1 l2 : Option mx_V) (S h : mx_H) (n : Int), mx_ex (d + 1) 144 17 [l0, l1, l2] [(0, x0), (0, x1), (0, x2)] S h n = mx_rt (mx_M d 147 [(0, x2), (0, x1), (0, x0)] S h n) (d + 1) 144 20 [l0, l1, l2] []) ∧
  (∀ (d : Nat) (a : Int) (l0 l1 l2 : Option mx_V) (S h : mx_H) (n : Int), mx_ex d 144 20 [l0, l1, l2] [(0, a)] S h n = mx_br (a = 0) d 144 27 23 [l0, l1, l2] [] S h n) ∧
  (∀ (d : Nat) (l0 l1 l2 : Option mx_V) (S h : mx_H) (n : Int), mx_ex d 144 23 [l0, l1, l2] [] S h n = mx_ex d 144 24 [l0, l1, l2] [(0, 1)] S h n) ∧
  (∀ (d : Nat) (l0 l1 l2 : Option mx_V) (v0 : mx_V) (S h : mx_H) (n : Int), mx_ex d 144 24 [l0, l1, l2] [v0] S h n = mx_ex d 144 28 [l0, l1, l2] [v0] S h n) ∧
  (∀ (d : Nat) (l0 l1 l2 : Option mx_V) (S h : mx_H) (n : Int), mx_ex d 144 27 [l0, l1, l2] [] S h n = mx_ex d 144 28 [l0, l1, l2] [(0, 0)] S h n) ∧
  (∀ (d : Nat) (x : Int) (l0 l1 l2 : Option mx_V) (S h : mx_H) (n : Int), mx_ex d 144 28 [l0, l1, l2] [(0, x)] S h n = mx_re (0 ≤ x ∧ x ≤ 1) (some (0, x)) S h n) :=
  ⟨by intros; exact rfl,
   by intros; exact eq_ld rfl rfl,
   by intros; exact eq_push rfl,
   by intros; exact eq_ld rfl rfl,
   by intros; exact eq_gi rfl,
   by intros; exact eq_push rfl,
   by intros; exact eq_i2 (o := mx_sub) rfl,
   by intros; exact eq_cs rfl (Nat.le_of_ble_eq_true rfl) rfl rfl rfl (Nat.le_of_ble_eq_true rfl),
   by intros; exact eq_if0 rfl,
   by intros; exact eq_ld rfl rfl,
   by intros; exact eq_push rfl,
   by intros; exact eq_push rfl,
   by intros; exact eq_cs rfl (Nat.le_of_ble_eq_true rfl) rfl rfl rfl (Nat.le_of_ble_eq_true rfl),
   by intros; exact eq_if0 rfl,
   by intros; exact eq_push rfl,
   by intros; exact eq_go rfl,
   by intros; exact eq_push rfl,
   by intros; exact eq_rr rfl⟩
theorem rw_X11_isRightRow :
  (∀ (d : Nat) (a0 a1 : Int) (S h : mx_H) (n : Int), mx_M d 145 [(2, a0), (0, a1)] S h n = mx_ex d 145 0 [some (2, a0), some (0, a1), none, none, none, none] [] S h n) ∧
  (∀ (d : Nat) (x : Int) (l1 l2 l3 l4 l5 : Option mx_V) (S h : mx_H) (n : Int), mx_ex d 145 0 [some (2, x), l1, l2, l3, l4, l5] [] S h n = mx_ex d 145 1 [some (2, x), l1, l2, l3, l4, l5] [(2, x)] S h n) ∧
  (∀ (d : Nat) (a : Int) (l0 l1 l2 l3 l4 l5 : Option mx_V) (S h : mx_H) (n : Int), mx_ex d 145 1 [l0, l1, l2, l3, l4, l5] [(2, a)] S h n = mx_gd (7 ≤ S a (-2) ∧ S a (-2) ≤ 7) d 145 4 [l0, l1, l2, l3, l4, l5] [(2, S a 3)] S h n) ∧
  (∀ (d : Nat) (x : Int) (l0 l2 l3 l4 l5 : Option mx_V) (v0 : mx_V) (S h : mx_H) (n : Int), mx_ex d 145 4 [l0, some (0, x), l2, l3, l4, l5] [v0] S h n = mx_ex d 145 5 [l0, some (0, x), l2, l3, l4, l5] [(0, x), v0] S h n) ∧
  (∀ (d : Nat) (x0 a : Int) (l0 l1 l2 l3 l4 l5 : Option mx_V) (S h : mx_H) (n : Int), mx_ex (d + 1) 145 5 [l0, l1, l2, l3, l4, l5] [(0, x0), (2, a)] S h n = mx_cl (S a (-2) = 8) d 91 [(2, a), (0, x0)] 145 8 [l0, l1, l2, l3, l4, l5] [] S h n) ∧
  (∀ (d : Nat) (x : Int) (l0 l1 l2 l3 l4 l5 : Option mx_V) (S h : mx_H) (n : Int), mx_ex d 145 8 [l0, l1, l2, l3, l4, l5] [(2, x)] S h n = mx_ex d 145 9 [l0, mx_nl l1, some (2, x), l3, l4, l5] [] S h n) ∧
  (∀ (d : Nat) (x : Int) (l0 l1 l3 l4 l5 : Option mx_V) (S h : mx_H) (n : Int), mx_ex d 145 9 [l0, l1, some (2, x), l3, l4, l5] [] S h n = mx_ex d 145 10 [l0, l1, some (2, x), l3, l4, l5] [(2, x)] S h n) ∧
  (∀ (d : Nat) (a : Int) (l0 l1 l2 l3 l4 l5 : Option mx_V) (S h : mx_H) (n : Int), mx_ex d 145 10 [l0, l1, l2, l3, l4, l5] [(2, a)] S h n = mx_br (a = -1) d 145 27 13 [l0, l1, l2, l3, l4, l5] [] S h n) ∧
  (∀ (d : Nat) (x : Int) (l1 l2 l3 l4 l5 : Option mx_V) (S h : mx_H) (n : Int), mx_ex d 145 13 [some (2, x), l1, l2, l3, l4, l5] [] S h n = mx_ex d 145 14 [some (2, x), l1, l2, l3, l4, l5] [(2, x)] S h n) ∧
  (∀ (d : Nat) (a : Int) (l0 l1 l2 l3 l4 l5 : Option mx_V) (S h : mx_H) (n : Int), mx_ex d 145 14 [l0, l1, l2, l3, l4, l5] [(2, a)] S h n = mx_gd (7 ≤ S a (-2) ∧ S a (-2) ≤ 7) d 145 17 [l0, l1, l2, l3, l4, l5] [(2, S a 9)] S h n) ∧
  (∀ (d : Nat) (x : Int) (l0 l2 l3 l4 l5 : Option mx_V) (v0 : mx_V) (S h : mx_H) (n : Int), mx_ex d 145 17 [l0, some (0, x), l2, l3, l4, l5] [v0] S h n = mx_ex d 145 18 [l0, some (0, x), l2, l3, l4, l5] [(0, x), v0] S h n) ∧
  (∀ (d : Nat) (l0 l1 l2 l3 l4 l5 : Option mx_V) (v0 v1 : mx_V) (S h : mx_H) (n : Int), mx_ex d 145 18 [l0, l1, l2, l3, l4, l5] [v0, v1] S h n = mx_ex d 145 19 [l0, l1, l2, l3, l4, l5] [(0, 3), v0, v1] S h n) ∧
  (∀ (d : Nat) (b a : Int) (l0 l1 l2 l3 l4 l5 : Option mx_V) (v2 : mx_V) (S h : mx_H) (n : Int), mx_ex d 145 19 [l0, l1, l2, l3, l4, l5] [(0, b), (0, a), v2] S h n = mx_ex d 145 20 [l0, l1, l2, l3, l4, l5] [(0, mx_w (a * b)), v2] S h n) ∧
  (∀ (d : Nat) (i a : Int) (l0 l1 l2 l3 l4 l5 : Option mx_V) (S h : mx_H) (n : Int), mx_ex d 145 20 [l0, l1, l2, l3, l4, l5] [(0, i), (2, a)] S h n = mx_gd (S a (-2) = 21 ∧ 0 ≤ i ∧ i < S a (-1)) d 145 21 [l0, l1, l2, l3, l4, l5] [(1, h a i)] S h n) ∧
  (∀ (d : Nat) (x : Int) (l0 l2 l3 l4 l5 : Option mx_V) (v0 : mx_V) (S h : mx_H) (n : Int), mx_ex d 145 21 [l0, some (0, x), l2, l3, l4, l5] [v0] S h n = mx_ex d 145 22 [l0, some (0, x), l2, l3, l4, l5] [(0, x), v0] S h n) ∧
  (∀ (d : Nat) (a : Int) (l0 l1 l2 l3 l4 l5 : Option mx_V) (v1 : mx_V) (S h : mx_H) (n : Int), mx_ex d 145 22 [l0, l1, l2, l3, l4, l5] [(0, a), v1] S h n = mx_ex d 145 23 [l0, l1, l2, l3, l4, l5] [(1, a), v1] S h n) ∧
  (∀ (d : Nat) (b a : Int) (l0 l1 l2 l3 l4 l5 : Option mx_V) (S h : mx_H) (n : Int), mx_ex d 145 23 [l0, l1, l2, l3, l4, l5] [(1, b), (1, a)] S h n = mx_ex d 145 24 [l0, l1, l2, l3, l4, l5] [(0, mx_cmp a b)] S h n) ∧
  (∀ (d : Nat) (a : Int) (l0 l1 l2 l3 l4 l5 : Option mx_V) (S h : mx_H) (n : Int), mx_ex d 145 24 [l0, l1, l2, l3, l4, l5] [(0, a)] S h n = mx_br (a = 0) d 145 29 27 [l0, l1, l2, l3, l4, l5] [] S h n) ∧
  (∀ (d : Nat) (l0 l1 l2 l3 l4 l5 : Option mx_V) (S h : mx_H) (n : Int), mx_ex d 145 27 [l0, l1, l2, l3, l4, l5] [] S h n = mx_ex d 145 28 [l0, l1, l2, l3, l4, l5] [(0, 0)] S h n) ∧
  (∀ (d : Nat) (x : Int) (l0 l1 l2 l3 l4 l5 : Option mx_V) (S h : mx_H) (n : Int), mx_ex d 145 28 [l0, l1, l2, l3, l4, l5] [(0, x)] S h n = mx_re (0 ≤ x ∧ x ≤ 1) (some (0, x)) S h n) ∧
  (∀ (d : Nat) (x : Int) (l1 l2 l3 l4 l5 : Option mx_V) (S h : mx_H) (n : Int), mx_ex d 145 29 [some (2, x), l1, l2, l3, l4, l5] [] S h n = mx_ex d 145 30 [some (2, x), l1, l2, l3, l4, l5] [(2, x)] S h n) ∧
  (∀ (d : Nat) (a : Int) (l0 l1 l2 l3 l4 l5 : Option mx_V) (S h : mx_H) (n : Int), mx_ex d 145 30 [l0, l1, l2, l3, l4, l5] [(2, a)] S h n = mx_gd (7 ≤ S a (-2) ∧ S a (-2) ≤ 7) d 145 33 [l0, l1, l2, l3, l4, l5] [(2, S a 9)] S h n) ∧
  (∀ (d : Nat) (x : Int) (l0 l2 l3 l4 l5 : Option mx_V) (v0 : mx_V) (S h : mx_H) (n : Int), mx_ex d 145 33 [l0, some (0, x), l2, l3, l4, l5] [v0] S h n = mx_ex d 145 34 [l0, some (0, x), l2, l3, l4, l5] [(0, x), v0] S h n) ∧
  (∀ (d : Nat) (l0 l1 l2 l3 l4 l5 : Option mx_V) (v0 v1 : mx_V) (S h : mx_H) (n : Int), mx_ex d 145 34 [l0, l1, l2, l3, l4, l5] [v0, v1] S h n = mx_ex d 145 35 [l0, l1, l2, l3, l4, l5] [(0, 3), v0, v1] S h n) ∧
  (∀ (d : Nat) (b a : Int) (l0 l1 l2 l3 l4 l5 : Option mx_V) (v2 : mx_V) (S h : mx_H) (n : Int), mx_ex d 145 35 [l0, l1, l2, l3, l4, l5] [(0, b), (0, a), v2] S h n = mx_ex d 145 36 [l0, l1, l2, l3, l4, l5] [(0, mx_w (a * b)), v2] S h n) ∧
  (∀ (d : Nat) (l0 l1 l2 l3 l4 l5 : Option mx_V) (v0 v1 : mx_V) (S h : mx_H) (n : Int), mx_ex d 145 36 [l0, l1, l2, l3, l4, l5] [v0, v1] S h n = mx_ex d 145 37 [l0, l1, l2, l3, l4, l5] [(0, 1), v0, v1] S h n) ∧
  (∀ (d : Nat) (b a : Int) (l0 l1 l2 l3 l4 l5 : Option mx_V) (v2 : mx_V) (S h : mx_H) (n : Int), mx_ex d 145 37 [l0, l1, l2, l3, l4, l5] [(0, b), (0, a), v2] S h n = mx_ex d 145 38 [l0, l1, l2, l3, l4, l5] [(0, mx_w (a + b)), v2] S h n) ∧
  (∀ (d : Nat) (i a : Int) (l0 l1 l2 l3 l4 l5 : Option mx_V) (S h : mx_H) (n : Int), mx_ex d 145 38 [l0, l1, l2, l3, l4, l5] [(0, i), (2, a)] S h n = mx_gd (S a (-2) = 21 ∧ 0 ≤ i ∧ i < S a (-1)) d 145 39 [l0, l1, l2, l3, l4, l5] [(1, h a i)] S h n) ∧
  (∀ (d : Nat) (x : Int) (l0 l1 l2 l3 l4 l5 : Option mx_V) (S h : mx_H) (n : Int), mx_ex d 145 39 [l0, l1, l2, l3, l4, l5] [(1, x)] S h n = mx_ex d 145 40 [l0, l1, mx_nl l2, some (1, x), none, l5] [] S h n) ∧
  (∀ (d : Nat) (x : Int) (l0 l1 l2 l4 l5 : Option mx_V) (S h : mx_H) (n : Int), mx_ex d 145 40 [l0, l1, l2, some (1, x), l4, l5] [] S h n = mx_ex d 145 41 [l0, l1, l2, some (1, x), l4, l5] [(1, x)] S h n) ∧
  (∀ (d : Nat) (x : Int) (l1 l2 l3 l4 l5 : Option mx_V) (v0 : mx_V) (S h : mx_H) (n : Int), mx_ex d 145 41 [some (2, x), l1, l2, l3, l4, l5] [v0] S h n = mx_ex d 145 42 [some (2, x), l1, l2, l3, l4, l5] [(2, x), v0] S h n) ∧
  (∀ (d : Nat) (a : Int) (l0 l1 l2 l3 l4 l5 : Option mx_V) (v1 : mx_V) (S h : mx_H) (n : Int), mx_ex d 145 42 [l0, l1, l2, l3, l4, l5] [(2, a), v1] S h n = mx_gd (7 ≤ S a (-2) ∧ S a (-2) ≤ 7) d 145 45 [l0, l1, l2, l3, l4, l5] [(2, S a 3), v1] S h n) ∧
  (∀ (d : Nat) (a : Int) (l0 l1 l2 l3 l4 l5 : Option mx_V) (v1 : mx_V) (S h : mx_H) (n : Int), mx_ex d 145 45 [l0, l1, l2, l3, l4, l5] [(2, a), v1] S h n = mx_gd (8 ≤ S a (-2) ∧ S a (-2) ≤ 8) d 145 48 [l0, l1, l2, l3, l4, l5] [(2, S a 0), v1] S h n) ∧
  (∀ (d : Nat) (x : Int) (l0 l1 l3 l4 l5 : Option mx_V) (v0 v1 : mx_V) (S h : mx_H) (n : Int), mx_ex d 145 48 [l0, l1, some (2, x), l3, l4, l5] [v0, v1] S h n = mx_ex d 145 49 [l0, l1, some (2, x), l3, l4, l5] [(2, x), v0, v1] S h n) ∧
  (∀ (d : Nat) (a : Int) (l0 l1 l2 l3 l4 l5 : Option mx_V) (v1 v2 : mx_V) (S h : mx_H) (n : Int), mx_ex d 145 49 [l0, l1, l2, l3, l4, l5] [(2, a), v1, v2] S h n = mx_gd (1 ≤ S a (-2) ∧ S a (-2) ≤ 6) d 145 52 [l0, l1, l2, l3, l4, l5] [(0, h a 3), v1, v2] S h n) ∧
  (∀ (d : Nat) (i a : Int) (l0 l1 l2 l3 l4 l5 : Option mx_V) (v2 : mx_V) (S h : mx_H) (n : Int), mx_ex d 145 52 [l0, l1, l2, l3, l4, l5] [(0, i), (2, a), v2] S h n = mx_gd ((S a (-2) = 20 ∨ S a (-2) = 24) ∧ 0 ≤ i ∧ i < S a (-1)) d 145 53 [l0, l1, l2, l3, l4, l5] [(0, h a i), v2] S h n) ∧
  (∀ (d : Nat) (a : Int) (l0 l1 l2 l3 l4 l5 : Option mx_V) (v1 : mx_V) (S h : mx_H) (n : Int), mx_ex d 145 53 [l0, l1, l2, l3, l4, l5] [(0, a), v1] S h n = mx_ex d 145 54 [l0, l1, l2, l3, l4, l5] [(1, a), v1] S h n) ∧
  (∀ (d : Nat) (b a : Int) (l0 l1 l2 l3 l4 l5 : Option mx_V) (S h : mx_H) (n : Int), mx_ex d 145 54 [l0, l1, l2, l3, l4, l5] [(1, b), (1, a)] S h n = mx_ex d 145 55 [l0, l1, l2, l3, l4, l5] [(0, mx_cmp a b)] S h n) ∧
  (∀ (d : Nat) (a : Int) (l0 l1 l2 l3 l4 l5 : Option mx_V) (S h : mx_H) (n : Int), mx_ex d 145 55 [l0, l1, l2, l3, l4, l5] [(0, a)] S h n = mx_br (a < 0) d 145 76 58 [l0, l1, l2, l3, l4, l5] [] S h n) ∧
  (∀ (d : Nat) (x : Int) (l0 l1 l2 l4 l5 : Option mx_V) (S h : mx_H) (n : Int), mx_ex d 145 58 [l0, l1, l2, some (1, x), l4, l5] [] S h n = mx_ex d 145 59 [l0, l1, l2, some (1, x), l4, l5] [(1, x)] S h n) ∧
  (∀ (d : Nat) (x : Int) (l1 l2 l3 l4 l5 : Option mx_V) (v0 : mx_V) (S h : mx_H) (n : Int), mx_ex d 145 59 [some (2, x), l1, l2, l3, l4, l5] [v0] S h n = mx_ex d 145 60 [some (2, x), l1, l2, l3, l4, l5] [(2, x), v0] S h n) ∧
  (∀ (d : Nat) (a : Int) (l0 l1 l2 l3 l4 l5 : Option mx_V) (v1 : mx_V) (S h : mx_H) (n : Int), mx_ex d 145 60 [l0, l1, l2, l3, l4, l5] [(2, a), v1] S h n = mx_gd (7 ≤ S a (-2) ∧ S a (-2) ≤ 7) d 145 63 [l0, l1, l2, l3, l4, l5] [(2, S a 3), v1] S h n) ∧
  (∀ (d : Nat) (a : Int) (l0 l1 l2 l3 l4 l5 : Option mx_V) (v1 : mx_V) (S h : mx_H) (n : Int), mx_ex d 145 63 [l0, l1, l2, l3, l4, l5] [(2, a), v1] S h n = mx_gd (8 ≤ S a (-2) ∧ S a (-2) ≤ 8) d 145 66 [l0, l1, l2, l3, l4, l5] [(2, S a 1), v1] S h n) ∧
  (∀ (d : Nat) (x : Int) (l0 l1 l3 l4 l5 : Option mx_V) (v0 v1 : mx_V) (S h : mx_H) (n : Int), mx_ex d 145 66 [l0, l1, some (2, x), l3, l4, l5] [v0, v1] S h n = mx_ex d 145 67 [l0, l1, some (2, x), l3, l4, l5] [(2, x), v0, v1] S h n) ∧
  (∀ (d : Nat) (a : Int) (l0 l1 l2 l3 l4 l5 : Option mx_V) (v1 v2 : mx_V) (S h : mx_H) (n : Int), mx_ex d 145 67 [l0, l1, l2, l3, l4, l5] [(2, a), v1, v2] S h n = mx_gd (1 ≤ S a (-2) ∧ S a (-2) ≤ 6) d 145 70 [l0, l1, l2, l3, l4, l5] [(0, h a 3), v1, v2] S h n) ∧
  (∀ (d : Nat) (i a : Int) (l0 l1 l2 l3 l4 l5 : Option mx_V) (v2 : mx_V) (S h : mx_H) (n : Int), mx_ex d 145 70 [l0, l1, l2, l3, l4, l5] [(0, i), (2, a), v2] S h n = mx_gd ((S a (-2) = 20 ∨ S a (-2) = 24) ∧ 0 ≤ i ∧ i < S a (-1)) d 145 71 [l0, l1, l2, l3, l4, l5] [(0, h a i), v2] S h n) ∧
  (∀ (d : Nat) (a : Int) (l0 l1 l2 l3 l4 l5 : Option mx_V) (v1 : mx_V) (S h : mx_H) (n : Int), mx_ex d 145 71 [l0, l1, l2, l3, l4, l5] [(0, a), v1] S h n = mx_ex d 145 72 [l0, l1, l2, l3, l4, l5] [(1, a), v1] S h n) ∧
  (∀ (d : Nat) (b a : Int) (l0 l1 l2 l3 l4 l5 : Option mx_V) (S h : mx_H) (n : Int), mx_ex d 145 72 [l0, l1, l2, l3, l4, l5] [(1, b), (1, a)] S h n = mx_ex d 145 73 [l0, l1, l2, l3, l4, l5] [(0, mx_cmp a b)] S h n) ∧
  (∀ (d : Nat) (a : Int) (l0 l1 l2 l3 l4 l5 : Option mx_V) (S h : mx_H) (n : Int), mx_ex d 145 73 [l0, l1, l2, l3, l4, l5] [(0, a)] S h n = mx_br (0 < a) d 145 76 78 [l0, l1, l2, l3, l4, l5] [] S h n) ∧
  (∀ (d : Nat) (l0 l1 l2 l3 l4 l5 : Option mx_V) (S h : mx_H) (n : Int), mx_ex d 145 76 [l0, l1, l2, l3, l4, l5] [] S h n = mx_ex d 145 77 [l0, l1, l2, l3, l4, l5] [(0, 0)] S h n) ∧
  (∀ (d : Nat) (x : Int) (l0 l1 l2 l3 l4 l5 : Option mx_V) (S h : mx_H) (n : Int), mx_ex d 145 77 [l0, l1, l2, l3, l4, l5] [(0, x)] S h n = mx_re (0 ≤ x ∧ x ≤ 1) (some (0, x)) S h n) ∧
  (∀ (d : Nat) (x : Int) (l0 l1 l2 l4 l5 : Option mx_V) (S h : mx_H) (n : Int), mx_ex d 145 78 [l0, l1, l2, some (1, x), l4, l5] [] S h n = mx_ex d 145 79 [l0, l1, l2, some (1, x), l4, l5] [(1, x)] S h n) ∧
  (∀ (d : Nat) (a : Int) (l0 l1 l2 l3 l4 l5 : Option mx_V) (S h : mx_H) (n : Int), mx_ex d 145 79 [l0, l1, l2, l3, l4, l5] [(1, a)] S h n = mx_ex d 145 80 [l0, l1, l2, l3, l4, l5] [(0, mx_w a)] S h n) ∧
  (∀ (d : Nat) (x : Int) (l0 l1 l2 l3 l4 l5 : Option mx_V) (S h : mx_H) (n : Int), mx_ex d 145 80 [l0, l1, l2, l3, l4, l5] [(0, x)] S h n = mx_ex d 145 82 [l0, l1, l2, l3, mx_nl l4, some (0, x)] [] S h n) ∧
  (∀ (d : Nat) (x : Int) (l1 l2 l3 l4 l5 : Option mx_V) (S h : mx_H) (n : Int), mx_ex d 145 82 [some (2, x), l1, l2, l3, l4, l5] [] S h n = mx_ex d 145 83 [some (2, x), l1, l2, l3, l4, l5] [(2, x)] S h n) ∧
  (∀ (d : Nat) (a : Int) (l0 l1 l2 l3 l4 l5 : Option mx_V) (S h : mx_H) (n : Int), mx_ex d 145 83 [l0, l1, l2, l3, l4, l5] [(2, a)] S h n = mx_gd (7 ≤ S a (-2) ∧ S a (-2) ≤ 7) d 145 86 [l0, l1, l2, l3, l4, l5] [(2, S a 11)] S h n) ∧
  (∀ (d : Nat) (x : Int) (l0 l1 l3 l4 l5 : Option mx_V) (v0 : mx_V) (S h : mx_H) (n : Int), mx_ex d 145 86 [l0, l1, some (2, x), l3, l4, l5] [v0] S h n = mx_ex d 145 87 [l0, l1, some (2, x), l3, l4, l5] [(2, x), v0] S h n) ∧
  (∀ (d : Nat) (a : Int) (l0 l1 l2 l3 l4 l5 : Option mx_V) (v1 : mx_V) (S h : mx_H) (n : Int), mx_ex d 145 87 [l0, l1, l2, l3, l4, l5] [(2, a), v1] S h n = mx_gd (1 ≤ S a (-2) ∧ S a (-2) ≤ 6) d 145 90 [l0, l1, l2, l3, l4, l5] [(0, h a 3), v1] S h n) ∧
  (∀ (d : Nat) (i a : Int) (l0 l1 l2 l3 l4 l5 : Option mx_V) (S h : mx_H) (n : Int), mx_ex d 145 90 [l0, l1, l2, l3, l4, l5] [(0, i), (2, a)] S h n = mx_gd ((S a (-2) = 20 ∨ S a (-2) = 24) ∧ 0 ≤ i ∧ i < S a (-1)) d 145 91 [l0, l1, l2, l3, l4, l5] [(0, h a i)] S h n) ∧
  (∀ (d : Nat) (a : Int) (l0 l1 l2 l3 l4 l5 : Option mx_V) (S h : mx_H) (n : Int), mx_ex d 145 91 [l0, l1, l2, l3, l4, l5] [(0, a)] S h n = mx_br (a = 0) d 145 110 94 [l0, l1, l2, l3, l4, l5] [] S h n) ∧
  (∀ (d : Nat) (x : Int) (l1 l2 l3 l4 l5 : Option mx_V) (S h : mx_H) (n : Int), mx_ex d 145 94 [some (2, x), l1, l2, l3, l4, l5] [] S h n = mx_ex d 145 95 [some (2, x), l1, l2, l3, l4, l5] [(2, x)] S h n) ∧
  (∀ (d : Nat) (a : Int) (l0 l1 l2 l3 l4 l5 : Option mx_V) (S h : mx_H) (n : Int), mx_ex d 145 95 [l0, l1, l2, l3, l4, l5] [(2, a)] S h n = mx_gd (7 ≤ S a (-2) ∧ S a (-2) ≤ 7) d 145 98 [l0, l1, l2, l3, l4, l5] [(2, S a 11)] S h n) ∧
  (∀ (d : Nat) (x : Int) (l0 l1 l3 l4 l5 : Option mx_V) (v0 : mx_V) (S h : mx_H) (n : Int), mx_ex d 145 98 [l0, l1, some (2, x), l3, l4, l5] [v0] S h n = mx_ex d 145 99 [l0, l1, some (2, x), l3, l4, l5] [(2, x), v0] S h n) ∧
  (∀ (d : Nat) (a : Int) (l0 l1 l2 l3 l4 l5 : Option mx_V) (v1 : mx_V) (S h : mx_H) (n : Int), mx_ex d 145 99 [l0, l1, l2, l3, l4, l5] [(2, a), v1] S h n = mx_gd (1 ≤ S a (-2) ∧ S a (-2) ≤ 6) d 145 102 [l0, l1, l2, l3, l4, l5] [(0, h a 3), v1] S h n) ∧
  (∀ (d : Nat) (i a : Int) (l0 l1 l2 l3 l4 l5 : Option mx_V) (S h : mx_H) (n : Int), mx_ex d 145 102 [l0, l1, l2, l3, l4, l5] [(0, i), (2, a)] S h n = mx_gd ((S a (-2) = 20 ∨ S a (-2) = 24) ∧ 0 ≤ i ∧ i < S a (-1)) d 145 103 [l0, l1, l2, l3, l4, l5] [(0, h a i)] S h n) ∧
  (∀ (d : Nat) (x : Int) (l0 l1 l2 l3 l4 : Option mx_V) (v0 : mx_V) (S h : mx_H) (n : Int), mx_ex d 145 103 [l0, l1, l2, l3, l4, some (0, x)] [v0] S h n = mx_ex d 145 105 [l0, l1, l2, l3, l4, some (0, x)] [(0, x), v0] S h n) ∧
  (∀ (d : Nat) (b a : Int) (l0 l1 l2 l3 l4 l5 : Option mx_V) (S h : mx_H) (n : Int), mx_ex d 145 105 [l0, l1, l2, l3, l4, l5] [(0, b), (0, a)] S h n = mx_br (a = b) d 145 110 108 [l0, l1, l2, l3, l4, l5] [] S h n) ∧
  (∀ (d : Nat) (l0 l1 l2 l3 l4 l5 : Option mx_V) (S h : mx_H) (n : Int), mx_ex d 145 108 [l0, l1, l2, l3, l4, l5] [] S h n = mx_ex d 145 109 [l0, l1, l2, l3, l4, l5] [(0, 0)] S h n) ∧
  (∀ (d : Nat) (x : Int) (l0 l1 l2 l3 l4 l5 : Option mx_V) (S h : mx_H) (n : Int), mx_ex d 145 109 [l0, l1, l2, l3, l4, l5] [(0, x)] S h n = mx_re (0 ≤ x ∧ x ≤ 1) (some (0, x)) S h n) ∧
  (∀ (d : Nat) (x : Int) (l1 l2 l3 l4 l5 : Option mx_V) (S h : mx_H) (n : Int), mx_ex d 145 110 [some (2, x), l1, l2, l3, l4, l5] [] S h n = mx_ex d 145 111 [some (2, x), l1, l2, l3, l4, l5] [(2, x)] S h n) :=
  ⟨by intros; exact rfl,
   by intros; exact eq_ld rfl rfl,
   by intros; exact eq_gr rfl,
   by intros; exact eq_ld rfl rfl,
   by intros; exact eq_cv rfl (Nat.le_of_ble_eq_true rfl) rfl rfl rfl (Nat.le_of_ble_eq_true rfl),
   by intros; exact eq_st rfl (by decide) (Nat.le_of_ble_eq_true rfl) rfl,
   by intros; exact eq_ld rfl rfl,
   by intros; exact eq_nul rfl,
   by intros; exact eq_ld rfl rfl,
   by intros; exact eq_gr rfl,
   by intros; exact eq_ld rfl rfl,
   by intros; exact eq_push rfl,
   by intros; exact eq_i2 (o := mx_mul) rfl,
   by intros; exact eq_lald rfl,
   by intros; exact eq_ld rfl rfl,
   by intros; exact eq_i2l rfl,
   by intros; exact eq_lcmp rfl,
   by intros; exact eq_if0 rfl,
   by intros; exact eq_push rfl,
   by intros; exact eq_rr rfl,
   by intros; exact eq_ld rfl rfl,
   by intros; exact eq_gr rfl,
   by intros; exact eq_ld rfl rfl,
   by intros; exact eq_push rfl,
   by intros; exact eq_i2 (o := mx_mul) rfl,
   by intros; exact eq_push rfl,
   by intros; exact eq_i2 (o := mx_add) rfl,
   by intros; exact eq_lald rfl,
   by intros; exact eq_st2 rfl (Nat.le_of_ble_eq_true rfl) rfl,
   by intros; exact eq_ld rfl rfl,
   by intros; exact eq_ld rfl rfl,
   by intros; exact eq_gr rfl,
   by intros; exact eq_gr rfl,
   by intros; exact eq_ld rfl rfl,
   by intros; exact eq_gi rfl,
   by intros; exact eq_iald rfl,
   by intros; exact eq_i2l rfl,
   by intros; exact eq_lcmp rfl,
   by intros; exact eq_if2 rfl,
   by intros; exact eq_ld rfl rfl,
   by intros; exact eq_ld rfl rfl,
   by intros; exact eq_gr rfl,
   by intros; exact eq_gr rfl,
   by intros; exact eq_ld rfl rfl,
   by intros; exact eq_gi rfl,
   by intros; exact eq_iald rfl,
   by intros; exact eq_i2l rfl,
   by intros; exact eq_lcmp rfl,
   by intros; exact eq_if5 rfl,
   by intros; exact eq_push rfl,
   by intros; exact eq_rr rfl,
   by intros; exact eq_ld rfl rfl,
   by intros; exact eq_l2i rfl,
   by intros; exact eq_st rfl (by decide) (Nat.le_of_ble_eq_true rfl) rfl,
   by intros; exact eq_ld rfl rfl,
   by intros; exact eq_gr rfl,
   by intros; exact eq_ld rfl rfl,
   by intros; exact eq_gi rfl,
   by intros; exact eq_iald rfl,
   by intros; exact eq_if0 rfl,
   by intros; exact eq_ld rfl rfl,
   by intros; exact eq_gr rfl,
   by intros; exact eq_ld rfl rfl,
   by intros; exact eq_gi rfl,
   by intros; exact eq_iald rfl,
   by intros; exact eq_ld rfl rfl,
   by intros; exact eq_ic0 rfl,
   by intros; exact eq_push rfl,
   by intros; exact eq_rr rfl,
   by intros; exact eq_ld rfl rfl⟩
theorem rw_X11_isRightRow_1 :
  (∀ (d : Nat) (a : Int) (l0 l1 l2 l3 l4 l5 : Option mx_V) (S h : mx_H) (n : Int), mx_ex d 145 111 [l0, l1, l2, l3, l4, l5] [(2, a)] S h n = mx_gd (7 ≤ S a (-2) ∧ S a (-2) ≤ 7) d 145 114 [l0, l1, l2, l3, l4, l5] [(2, S a 11)] S h n) ∧
  (∀ (d : Nat) (x : Int) (l0 l1 l3 l4 l5 : Option mx_V) (v0 : mx_V) (S h : mx_H) (n : Int), mx_ex d 145 114 [l0, l1, some (2, x), l3, l4, l5] [v0] S h n = mx_ex d 145 115 [l0, l1, some (2, x), l3, l4, l5] [(2, x), v0] S h n) ∧
  (∀ (d : Nat) (a : Int) (l0 l1 l2 l3 l4 l5 : Option mx_V) (v1 : mx_V) (S h : mx_H) (n : Int), mx_ex d 145 115 [l0, l1, l2, l3, l4, l5] [(2, a), v1] S h n = mx_gd (1 ≤ S a (-2) ∧ S a (-2) ≤ 6) d 145 118 [l0, l1, l2, l3, l4, l5] [(0, h a 3), v1] S h n) ∧
  (∀ (d : Nat) (x : Int) (l0 l1 l2 l3 l4 : Option mx_V) (v0 v1 : mx_V) (S h : mx_H) (n : Int), mx_ex d 145 118 [l0, l1, l2, l3, l4, some (0, x)] [v0, v1] S h n = mx_ex d 145 120 [l0, l1, l2, l3, l4, some (0, x)] [(0, x), v0, v1] S h n) ∧
  (∀ (d : Nat) (v i a : Int) (l0 l1 l2 l3 l4 l5 : Option mx_V) (S h : mx_H) (n : Int), mx_ex d 145 120 [l0, l1, l2, l3, l4, l5] [(0, v), (0, i), (2, a)] S h n = mx_gd (S a (-2) = 20 ∧ 0 ≤ i ∧ i < S a (-1)) d 145 121 [l0, l1, l2, l3, l4, l5] [] S (mx_u h a i v) n) ∧
  (∀ (d : Nat) (x : Int) (l0 l1 l3 l4 l5 : Option mx_V) (S h : mx_H) (n : Int), mx_ex d 145 121 [l0, l1, some (2, x), l3, l4, l5] [] S h n = mx_ex d 145 122 [l0, l1, some (2, x), l3, l4, l5] [(2, x)] S h n) ∧
  (∀ (d : Nat) (x : Int) (l0 l1 l2 l3 l4 : Option mx_V) (v0 : mx_V) (S h : mx_H) (n : Int), mx_ex d 145 122 [l0, l1, l2, l3, l4, some (0, x)] [v0] S h n = mx_ex d 145 124 [l0, l1, l2, l3, l4, some (0, x)] [(0, x), v0] S h n) ∧
  (∀ (d : Nat) (x0 a : Int) (l0 l1 l2 l3 l4 l5 : Option mx_V) (S h : mx_H) (n : Int), mx_ex (d + 1) 145 124 [l0, l1, l2, l3, l4, l5] [(0, x0), (2, a)] S h n = mx_cu (mx_vt (S a (-2)) [(1, 44), (2, 57), (3, 4), (4, 4), (5, 44), (6, 57)]) d [(2, a), (0, x0)] 145 127 [l0, l1, l2, l3, l4, l5] [] S h n) ∧
  (∀ (d : Nat) (a : Int) (l0 l1 l2 l3 l4 l5 : Option mx_V) (S h : mx_H) (n : Int), mx_ex d 145 127 [l0, l1, l2, l3, l4, l5] [(0, a)] S h n = mx_br (a = 0) d 145 155 130 [l0, l1, l2, l3, l4, l5] [] S h n) ∧
  (∀ (d : Nat) (x : Int) (l0 l1 l3 l4 l5 : Option mx_V) (S h : mx_H) (n : Int), mx_ex d 145 130 [l0, l1, some (2, x), l3, l4, l5] [] S h n = mx_ex d 145 131 [l0, l1, some (2, x), l3, l4, l5] [(2, x)] S h n) ∧
  (∀ (d : Nat) (x : Int) (l0 l1 l2 l3 l4 : Option mx_V) (v0 : mx_V) (S h : mx_H) (n : Int), mx_ex d 145 131 [l0, l1, l2, l3, l4, some (0, x)] [v0] S h n = mx_ex d 145 133 [l0, l1, l2, l3, l4, some (0, x)] [(0, x), v0] S h n) ∧
  (∀ (d : Nat) (x0 a : Int) (l0 l1 l2 l3 l4 l5 : Option mx_V) (S h : mx_H) (n : Int), mx_ex (d + 1) 145 133 [l0, l1, l2, l3, l4, l5] [(0, x0), (2, a)] S h n = mx_cu (mx_vt (S a (-2)) [(1, 43), (2, 56), (3, 3), (4, 3), (5, 82), (6, 9)]) d [(2, a), (0, x0)] 145 136 [l0, l1, l2, l3, l4, l5] [] S h n) ∧
  (∀ (d : Nat) (a : Int) (l0 l1 l2 l3 l4 l5 : Option mx_V) (S h : mx_H) (n : Int), mx_ex d 145 136 [l0, l1, l2, l3, l4, l5] [(0, a)] S h n = mx_ex d 145 137 [l0, l1, l2, l3, l4, l5] [(1, a)] S h n) ∧
  (∀ (d : Nat) (x : Int) (l1 l2 l3 l4 l5 : Option mx_V) (v0 : mx_V) (S h : mx_H) (n : Int), mx_ex d 145 137 [some (2, x), l1, l2, l3, l4, l5] [v0] S h n = mx_ex d 145 138 [some (2, x), l1, l2, l3, l4, l5] [(2, x), v0] S h n) ∧
  (∀ (d : Nat) (a : Int) (l0 l1 l2 l3 l4 l5 : Option mx_V) (v1 : mx_V) (S h : mx_H) (n : Int), mx_ex d 145 138 [l0, l1, l2, l3, l4, l5] [(2, a), v1] S h n = mx_gd (7 ≤ S a (-2) ∧ S a (-2) ≤ 7) d 145 141 [l0, l1, l2, l3, l4, l5] [(2, S a 9), v1] S h n) ∧
  (∀ (d : Nat) (x : Int) (l0 l2 l3 l4 l5 : Option mx_V) (v0 v1 : mx_V) (S h : mx_H) (n : Int), mx_ex d 145 141 [l0, some (0, x), l2, l3, l4, l5] [v0, v1] S h n = mx_ex d 145 142 [l0, some (0, x), l2, l3, l4, l5] [(0, x), v0, v1] S h n) ∧
  (∀ (d : Nat) (l0 l1 l2 l3 l4 l5 : Option mx_V) (v0 v1 v2 : mx_V) (S h : mx_H) (n : Int), mx_ex d 145 142 [l0, l1, l2, l3, l4, l5] [v0, v1, v2] S h n = mx_ex d 145 143 [l0, l1, l2, l3, l4, l5] [(0, 3), v0, v1, v2] S h n) ∧
  (∀ (d : Nat) (b a : Int) (l0 l1 l2 l3 l4 l5 : Option mx_V) (v2 v3 : mx_V) (S h : mx_H) (n : Int), mx_ex d 145 143 [l0, l1, l2, l3, l4, l5] [(0, b), (0, a), v2, v3] S h n = mx_ex d 145 144 [l0, l1, l2, l3, l4, l5] [(0, mx_w (a * b)), v2, v3] S h n) ∧
  (∀ (d : Nat) (l0 l1 l2 l3 l4 l5 : Option mx_V) (v0 v1 v2 : mx_V) (S h : mx_H) (n : Int), mx_ex d 145 144 [l0, l1, l2, l3, l4, l5] [v0, v1, v2] S h n = mx_ex d 145 145 [l0, l1, l2, l3, l4, l5] [(0, 2), v0, v1, v2] S h n) ∧
  (∀ (d : Nat) (b a : Int) (l0 l1 l2 l3 l4 l5 : Option mx_V) (v2 v3 : mx_V) (S h : mx_H) (n : Int), mx_ex d 145 145 [l0, l1, l2, l3, l4, l5] [(0, b), (0, a), v2, v3] S h n = mx_ex d 145 146 [l0, l1, l2, l3, l4, l5] [(0, mx_w (a + b)), v2, v3] S h n) ∧
  (∀ (d : Nat) (i a : Int) (l0 l1 l2 l3 l4 l5 : Option mx_V) (v2 : mx_V) (S h : mx_H) (n : Int), mx_ex d 145 146 [l0, l1, l2, l3, l4, l5] [(0, i), (2, a), v2] S h n = mx_gd (S a (-2) = 21 ∧ 0 ≤ i ∧ i < S a (-1)) d 145 147 [l0, l1, l2, l3, l4, l5] [(1, h a i), v2] S h n) ∧
  (∀ (d : Nat) (b a : Int) (l0 l1 l2 l3 l4 l5 : Option mx_V) (S h : mx_H) (n : Int), mx_ex d 145 147 [l0, l1, l2, l3, l4, l5] [(1, b), (1, a)] S h n = mx_ex d 145 148 [l0, l1, l2, l3, l4, l5] [(0, mx_cmp a b)] S h n) ∧
  (∀ (d : Nat) (a : Int) (l0 l1 l2 l3 l4 l5 : Option mx_V) (S h : mx_H) (n : Int), mx_ex d 145 148 [l0, l1, l2, l3, l4, l5] [(0, a)] S h n = mx_br (a = 0) d 145 151 155 [l0, l1, l2, l3, l4, l5] [] S h n) ∧
  (∀ (d : Nat) (l0 l1 l2 l3 l4 l5 : Option mx_V) (S h : mx_H) (n : Int), mx_ex d 145 151 [l0, l1, l2, l3, l4, l5] [] S h n = mx_ex d 145 152 [l0, l1, l2, l3, l4, l5] [(0, 1)] S h n) ∧
  (∀ (d : Nat) (l0 l1 l2 l3 l4 l5 : Option mx_V) (v0 : mx_V) (S h : mx_H) (n : Int), mx_ex d 145 152 [l0, l1, l2, l3, l4, l5] [v0] S h n = mx_ex d 145 156 [l0, l1, l2, l3, l4, l5] [v0] S h n) ∧
  (∀ (d : Nat) (l0 l1 l2 l3 l4 l5 : Option mx_V) (S h : mx_H) (n : Int), mx_ex d 145 155 [l0, l1, l2, l3, l4, l5] [] S h n = mx_ex d 145 156 [l0, l1, l2, l3, l4, l5] [(0, 0)] S h n) ∧
  (∀ (d : Nat) (x : Int) (l0 l1 l2 l3 l4 l5 : Option mx_V) (S h : mx_H) (n : Int), mx_ex d 145 156 [l0, l1, l2, l3, l4, l5] [(0, x)] S h n = mx_re (0 ≤ x ∧ x ≤ 1) (some (0, x)) S h n) :=
  ⟨by intros; exact eq_gr rfl,
   by intros; exact eq_ld rfl rfl,
   by intros; exact eq_gi rfl,
   by intros; exact eq_ld rfl rfl,
   by intros; exact eq_iast rfl,
   by intros; exact eq_ld rfl rfl,
   by intros; exact eq_ld rfl rfl,
   by intros; exact eq_cu rfl (Nat.le_of_ble_eq_true rfl) rfl rfl rfl (Nat.le_of_ble_eq_true rfl),
   by intros; exact eq_if0 rfl,
   by intros; exact eq_ld rfl rfl,
   by intros; exact eq_ld rfl rfl,
   by intros; exact eq_cu rfl (Nat.le_of_ble_eq_true rfl) rfl rfl rfl (Nat.le_of_ble_eq_true rfl),
   by intros; exact eq_i2l rfl,
   by intros; exact eq_ld rfl rfl,
   by intros; exact eq_gr rfl,
   by intros; exact eq_ld rfl rfl,
   by intros; exact eq_push rfl,
   by intros; exact eq_i2 (o := mx_mul) rfl,
   by intros; exact eq_push rfl,
   by intros; exact eq_i2 (o := mx_add) rfl,
   by intros; exact eq_lald rfl,
   by intros; exact eq_lcmp rfl,
   by intros; exact eq_if1 rfl,
   by intros; exact eq_push rfl,
   by intros; exact eq_go rfl,
   by intros; exact eq_push rfl,
   by intros; exact eq_rr rfl⟩
theorem rw_X11_noteOn :
  (∀ (d : Nat) (a0 a1 : Int) (S h : mx_H) (n : Int), mx_M d 146 [(2, a0), (0, a1)] S h n = mx_ex d 146 0 [some (2, a0), some (0, a1)] [] S h n) ∧
  (∀ (d : Nat) (x : Int) (l1 : Option mx_V) (S h : mx_H) (n : Int), mx_ex d 146 0 [some (2, x), l1] [] S h n = mx_ex d 146 1 [some (2, x), l1] [(2, x)] S h n) ∧
  (∀ (d : Nat) (a : Int) (l0 l1 : Option mx_V) (S h : mx_H) (n : Int), mx_ex d 146 1 [l0, l1] [(2, a)] S h n = mx_gd (7 ≤ S a (-2) ∧ S a (-2) ≤ 7) d 146 4 [l0, l1] [(2, S a 13)] S h n) ∧
  (∀ (d : Nat) (x : Int) (l0 : Option mx_V) (v0 : mx_V) (S h : mx_H) (n : Int), mx_ex d 146 4 [l0, some (0, x)] [v0] S h n = mx_ex d 146 5 [l0, some (0, x)] [(0, x), v0] S h n) ∧
  (∀ (d : Nat) (i a : Int) (l0 l1 : Option mx_V) (S h : mx_H) (n : Int), mx_ex d 146 5 [l0, l1] [(0, i), (2, a)] S h n = mx_gd ((S a (-2) = 20 ∨ S a (-2) = 24) ∧ 0 ≤ i ∧ i < S a (-1)) d 146 6 [l0, l1] [(0, h a i)] S h n) ∧
  (∀ (d : Nat) (a : Int) (l0 l1 : Option mx_V) (S h : mx_H) (n : Int), mx_ex d 146 6 [l0, l1] [(0, a)] S h n = mx_br (a = 0) d 146 9 25 [l0, l1] [] S h n) ∧
  (∀ (d : Nat) (x : Int) (l1 : Option mx_V) (S h : mx_H) (n : Int), mx_ex d 146 9 [some (2, x), l1] [] S h n = mx_ex d 146 10 [some (2, x), l1] [(2, x)] S h n) ∧
  (∀ (d : Nat) (a : Int) (l0 l1 : Option mx_V) (S h : mx_H) (n : Int), mx_ex d 146 10 [l0, l1] [(2, a)] S h n = mx_gd (7 ≤ S a (-2) ∧ S a (-2) ≤ 7) d 146 13 [l0, l1] [(2, S a 3)] S h n) ∧
  (∀ (d : Nat) (x : Int) (l1 : Option mx_V) (v0 : mx_V) (S h : mx_H) (n : Int), mx_ex d 146 13 [some (2, x), l1] [v0] S h n = mx_ex d 146 14 [some (2, x), l1] [(2, x), v0] S h n) ∧
  (∀ (d : Nat) (a : Int) (l0 l1 : Option mx_V) (v1 : mx_V) (S h : mx_H) (n : Int), mx_ex d 146 14 [l0, l1] [(2, a), v1] S h n = mx_gd (7 ≤ S a (-2) ∧ S a (-2) ≤ 7) d 146 17 [l0, l1] [(2, S a 14), v1] S h n) ∧
  (∀ (d : Nat) (x : Int) (l0 : Option mx_V) (v0 v1 : mx_V) (S h : mx_H) (n : Int), mx_ex d 146 17 [l0, some (0, x)] [v0, v1] S h n = mx_ex d 146 18 [l0, some (0, x)] [(0, x), v0, v1] S h n) ∧
  (∀ (d : Nat) (i a : Int) (l0 l1 : Option mx_V) (v2 : mx_V) (S h : mx_H) (n : Int), mx_ex d 146 18 [l0, l1] [(0, i), (2, a), v2] S h n = mx_gd ((S a (-2) = 20 ∨ S a (-2) = 24) ∧ 0 ≤ i ∧ i < S a (-1)) d 146 19 [l0, l1] [(0, h a i), v2] S h n) ∧
  (∀ (d : Nat) (x0 a : Int) (l0 l1 : Option mx_V) (S h : mx_H) (n : Int), mx_ex (d + 1) 146 19 [l0, l1] [(0, x0), (2, a)] S h n = mx_cl (S a (-2) = 8) d 91 [(2, a), (0, x0)] 146 22 [l0, l1] [] S h n) ∧
  (∀ (d : Nat) (l0 l1 : Option mx_V) (v0 : mx_V) (S h : mx_H) (n : Int), mx_ex d 146 22 [l0, l1] [v0] S h n = mx_ex d 146 26 [l0, l1] [v0] S h n) ∧
  (∀ (d : Nat) (l0 l1 : Option mx_V) (S h : mx_H) (n : Int), mx_ex d 146 25 [l0, l1] [] S h n = mx_ex d 146 26 [l0, l1] [(2, (-1))] S h n) ∧
  (∀ (d : Nat) (x : Int) (l0 l1 : Option mx_V) (S h : mx_H) (n : Int), mx_ex d 146 26 [l0, l1] [(2, x)] S h n = some (some (2, x), S, h, n)) :=
  ⟨by intros; exact rfl,
   by intros; exact eq_ld rfl rfl,
   by intros; exact eq_gr rfl,
   by intros; exact eq_ld rfl rfl,
   by intros; exact eq_iald rfl,
   by intros; exact eq_if1 rfl,
   by intros; exact eq_ld rfl rfl,
   by intros; exact eq_gr rfl,
   by intros; exact eq_ld rfl rfl,
   by intros; exact eq_gr rfl,
   by intros; exact eq_ld rfl rfl,
   by intros; exact eq_iald rfl,
   by intros; exact eq_cv rfl (Nat.le_of_ble_eq_true rfl) rfl rfl rfl (Nat.le_of_ble_eq_true rfl),
   by intros; exact eq_go rfl,
   by intros; exact eq_push rfl,
   by intros; exact eq_ret rfl⟩
theorem rw_X11_within :
  (∀ (d : Nat) (a0 a1 a2 : Int) (S h : mx_H) (n : Int), mx_M d 147 [(0, a0), (0, a1), (0, a2)] S h n = mx_ex d 147 0 [some (0, a0), some (0, a1), some (0, a2)] [] S h n) ∧
  (∀ (d : Nat) (x : Int) (l1 l2 : Option mx_V) (S h : mx_H) (n : Int), mx_ex d 147 0 [some (0, x), l1, l2] [] S h n = mx_ex d 147 1 [some (0, x), l1, l2] [(0, x)] S h n) ∧
  (∀ (d : Nat) (x : Int) (l0 l2 : Option mx_V) (v0 : mx_V) (S h : mx_H) (n : Int), mx_ex d 147 1 [l0, some (0, x), l2] [v0] S h n = mx_ex d 147 2 [l0, some (0, x), l2] [(0, x), v0] S h n) ∧
  (∀ (d : Nat) (b a : Int) (l0 l1 l2 : Option mx_V) (S h : mx_H) (n : Int), mx_ex d 147 2 [l0, l1, l2] [(0, b), (0, a)] S h n = mx_br (a < b) d 147 14 5 [l0, l1, l2] [] S h n) ∧
  (∀ (d : Nat) (x : Int) (l1 l2 : Option mx_V) (S h : mx_H) (n : Int), mx_ex d 147 5 [some (0, x), l1, l2] [] S h n = mx_ex d 147 6 [some (0, x), l1, l2] [(0, x)] S h n) ∧
  (∀ (d : Nat) (x : Int) (l0 l1 : Option mx_V) (v0 : mx_V) (S h : mx_H) (n : Int), mx_ex d 147 6 [l0, l1, some (0, x)] [v0] S h n = mx_ex d 147 7 [l0, l1, some (0, x)] [(0, x), v0] S h n) ∧
  (∀ (d : Nat) (b a : Int) (l0 l1 l2 : Option mx_V) (S h : mx_H) (n : Int), mx_ex d 147 7 [l0, l1, l2] [(0, b), (0, a)] S h n = mx_br (b < a) d 147 14 10 [l0, l1, l2] [] S h n) ∧
  (∀ (d : Nat) (l0 l1 l2 : Option mx_V) (S h : mx_H) (n : Int), mx_ex d 147 10 [l0, l1, l2] [] S h n = mx_ex d 147 11 [l0, l1, l2] [(0, 1)] S h n) ∧
  (∀ (d : Nat) (l0 l1 l2 : Option mx_V) (v0 : mx_V) (S h : mx_H) (n : Int), mx_ex d 147 11 [l0, l1, l2] [v0] S h n = mx_ex d 147 15 [l0, l1, l2] [v0] S h n) ∧
  (∀ (d : Nat) (l0 l1 l2 : Option mx_V) (S h : mx_H) (n : Int), mx_ex d 147 14 [l0, l1, l2] [] S h n = mx_ex d 147 15 [l0, l1, l2] [(0, 0)] S h n) ∧
  (∀ (d : Nat) (x : Int) (l0 l1 l2 : Option mx_V) (S h : mx_H) (n : Int), mx_ex d 147 15 [l0, l1, l2] [(0, x)] S h n = mx_re (0 ≤ x ∧ x ≤ 1) (some (0, x)) S h n) :=
  ⟨by intros; exact rfl,
   by intros; exact eq_ld rfl rfl,
   by intros; exact eq_ld rfl rfl,
   by intros; exact eq_ic2 rfl,
   by intros; exact eq_ld rfl rfl,
   by intros; exact eq_ld rfl rfl,
   by intros; exact eq_ic4 rfl,
   by intros; exact eq_push rfl,
   by intros; exact eq_go rfl,
   by intros; exact eq_push rfl,
   by intros; exact eq_rr rfl⟩
theorem rw_X11_isEvening :
  (∀ (d : Nat) (a0 : Int) (S h : mx_H) (n : Int), mx_M d 148 [(0, a0)] S h n = mx_ex d 148 0 [some (0, a0)] [] S h n) ∧
  (∀ (d : Nat) (x : Int) (S h : mx_H) (n : Int), mx_ex d 148 0 [some (0, x)] [] S h n = mx_ex d 148 1 [some (0, x)] [(0, x)] S h n) ∧
  (∀ (d : Nat) (l0 : Option mx_V) (v0 : mx_V) (S h : mx_H) (n : Int), mx_ex d 148 1 [l0] [v0] S h n = mx_ex d 148 2 [l0] [(0, 0), v0] S h n) ∧
  (∀ (d : Nat) (l0 : Option mx_V) (v0 v1 : mx_V) (S h : mx_H) (n : Int), mx_ex d 148 2 [l0] [v0, v1] S h n = mx_ex d 148 3 [l0] [(0, 2), v0, v1] S h n) ∧
  (∀ (d : Nat) (x0 x1 x2 : Int) (l0 : Option mx_V) (S h : mx_H) (n : Int), mx_ex (d + 1) 148 3 [l0] [(0, x0), (0, x1), (0, x2)] S h n = mx_rt (mx_M d 147 [(0, x2), (0, x1), (0, x0)] S h n) (d + 1) 148 6 [l0] []) ∧
  (∀ (d : Nat) (x : Int) (l0 : Option mx_V) (S h : mx_H) (n : Int), mx_ex d 148 6 [l0] [(0, x)] S h n = mx_re (0 ≤ x ∧ x ≤ 1) (some (0, x)) S h n) :=
  ⟨by intros; exact rfl,
   by intros; exact eq_ld rfl rfl,
   by intros; exact eq_push rfl,
   by intros; exact eq_push rfl,
   by intros; exact eq_cs rfl (Nat.le_of_ble_eq_true rfl) rfl rfl rfl (Nat.le_of_ble_eq_true rfl),
   by intros; exact eq_rr rfl⟩
theorem rw_X11_isBase :
  (∀ (d : Nat) (a0 : Int) (S h : mx_H) (n : Int), mx_M d 149 [(0, a0)] S h n = mx_ex d 149 0 [some (0, a0)] [] S h n) ∧
  (∀ (d : Nat) (x : Int) (S h : mx_H) (n : Int), mx_ex d 149 0 [some (0, x)] [] S h n = mx_ex d 149 1 [some (0, x)] [(0, x)] S h n) ∧
  (∀ (d : Nat) (l0 : Option mx_V) (v0 : mx_V) (S h : mx_H) (n : Int), mx_ex d 149 1 [l0] [v0] S h n = mx_ex d 149 2 [l0] [(0, 2), v0] S h n) ∧
  (∀ (d : Nat) (l0 : Option mx_V) (v0 v1 : mx_V) (S h : mx_H) (n : Int), mx_ex d 149 2 [l0] [v0, v1] S h n = mx_ex d 149 4 [l0] [(0, 16), v0, v1] S h n) ∧
  (∀ (d : Nat) (x0 x1 x2 : Int) (l0 : Option mx_V) (S h : mx_H) (n : Int), mx_ex (d + 1) 149 4 [l0] [(0, x0), (0, x1), (0, x2)] S h n = mx_rt (mx_M d 147 [(0, x2), (0, x1), (0, x0)] S h n) (d + 1) 149 7 [l0] []) ∧
  (∀ (d : Nat) (x : Int) (l0 : Option mx_V) (S h : mx_H) (n : Int), mx_ex d 149 7 [l0] [(0, x)] S h n = mx_re (0 ≤ x ∧ x ≤ 1) (some (0, x)) S h n) :=
  ⟨by intros; exact rfl,
   by intros; exact eq_ld rfl rfl,
   by intros; exact eq_push rfl,
   by intros; exact eq_push rfl,
   by intros; exact eq_cs rfl (Nat.le_of_ble_eq_true rfl) rfl rfl rfl (Nat.le_of_ble_eq_true rfl),
   by intros; exact eq_rr rfl⟩
theorem rw_X11_isSheet :
  (∀ (d : Nat) (a0 : Int) (S h : mx_H) (n : Int), mx_M d 150 [(0, a0)] S h n = mx_ex d 150 0 [some (0, a0)] [] S h n) ∧
  (∀ (d : Nat) (x : Int) (S h : mx_H) (n : Int), mx_ex d 150 0 [some (0, x)] [] S h n = mx_ex d 150 1 [some (0, x)] [(0, x)] S h n) ∧
  (∀ (d : Nat) (l0 : Option mx_V) (v0 : mx_V) (S h : mx_H) (n : Int), mx_ex d 150 1 [l0] [v0] S h n = mx_ex d 150 2 [l0] [(0, 0), v0] S h n) ∧
  (∀ (d : Nat) (l0 : Option mx_V) (v0 v1 : mx_V) (S h : mx_H) (n : Int), mx_ex d 150 2 [l0] [v0, v1] S h n = mx_ex d 150 3 [l0] [(0, 3), v0, v1] S h n) ∧
  (∀ (d : Nat) (x0 x1 x2 : Int) (l0 : Option mx_V) (S h : mx_H) (n : Int), mx_ex (d + 1) 150 3 [l0] [(0, x0), (0, x1), (0, x2)] S h n = mx_rt (mx_M d 147 [(0, x2), (0, x1), (0, x0)] S h n) (d + 1) 150 6 [l0] []) ∧
  (∀ (d : Nat) (x : Int) (l0 : Option mx_V) (S h : mx_H) (n : Int), mx_ex d 150 6 [l0] [(0, x)] S h n = mx_re (0 ≤ x ∧ x ≤ 1) (some (0, x)) S h n) :=
  ⟨by intros; exact rfl,
   by intros; exact eq_ld rfl rfl,
   by intros; exact eq_push rfl,
   by intros; exact eq_push rfl,
   by intros; exact eq_cs rfl (Nat.le_of_ble_eq_true rfl) rfl rfl rfl (Nat.le_of_ble_eq_true rfl),
   by intros; exact eq_rr rfl⟩
theorem rw_X11_isShelf :
  (∀ (d : Nat) (a0 : Int) (S h : mx_H) (n : Int), mx_M d 151 [(0, a0)] S h n = mx_ex d 151 0 [some (0, a0)] [] S h n) ∧
  (∀ (d : Nat) (x : Int) (S h : mx_H) (n : Int), mx_ex d 151 0 [some (0, x)] [] S h n = mx_ex d 151 1 [some (0, x)] [(0, x)] S h n) ∧
  (∀ (d : Nat) (l0 : Option mx_V) (v0 : mx_V) (S h : mx_H) (n : Int), mx_ex d 151 1 [l0] [v0] S h n = mx_ex d 151 2 [l0] [(0, 0), v0] S h n) ∧
  (∀ (d : Nat) (l0 : Option mx_V) (v0 v1 : mx_V) (S h : mx_H) (n : Int), mx_ex d 151 2 [l0] [v0, v1] S h n = mx_ex d 151 3 [l0] [(0, 3), v0, v1] S h n) ∧
  (∀ (d : Nat) (x0 x1 x2 : Int) (l0 : Option mx_V) (S h : mx_H) (n : Int), mx_ex (d + 1) 151 3 [l0] [(0, x0), (0, x1), (0, x2)] S h n = mx_rt (mx_M d 147 [(0, x2), (0, x1), (0, x0)] S h n) (d + 1) 151 6 [l0] []) ∧
  (∀ (d : Nat) (x : Int) (l0 : Option mx_V) (S h : mx_H) (n : Int), mx_ex d 151 6 [l0] [(0, x)] S h n = mx_re (0 ≤ x ∧ x ≤ 1) (some (0, x)) S h n) :=
  ⟨by intros; exact rfl,
   by intros; exact eq_ld rfl rfl,
   by intros; exact eq_push rfl,
   by intros; exact eq_push rfl,
   by intros; exact eq_cs rfl (Nat.le_of_ble_eq_true rfl) rfl rfl rfl (Nat.le_of_ble_eq_true rfl),
   by intros; exact eq_rr rfl⟩
theorem rw_X11_isSetOfBases :
  (∀ (d : Nat) (a0 : Int) (S h : mx_H) (n : Int), mx_M d 152 [(0, a0)] S h n = mx_ex d 152 0 [some (0, a0)] [] S h n) ∧
  (∀ (d : Nat) (x : Int) (S h : mx_H) (n : Int), mx_ex d 152 0 [some (0, x)] [] S h n = mx_ex d 152 1 [some (0, x)] [(0, x)] S h n) ∧
  (∀ (d : Nat) (a : Int) (l0 : Option mx_V) (S h : mx_H) (n : Int), mx_ex d 152 1 [l0] [(0, a)] S h n = mx_br (a = 0) d 152 16 4 [l0] [] S h n) ∧
  (∀ (d : Nat) (x : Int) (S h : mx_H) (n : Int), mx_ex d 152 4 [some (0, x)] [] S h n = mx_ex d 152 5 [some (0, x)] [(0, x)] S h n) ∧
  (∀ (d : Nat) (l0 : Option mx_V) (v0 : mx_V) (S h : mx_H) (n : Int), mx_ex d 152 5 [l0] [v0] S h n = mx_ex d 152 8 [l0] [(0, (-131069)), v0] S h n) ∧
  (∀ (d : Nat) (b a : Int) (l0 : Option mx_V) (S h : mx_H) (n : Int), mx_ex d 152 8 [l0] [(0, b), (0, a)] S h n = mx_ex d 152 9 [l0] [(0, mx_and a b)] S h n) ∧
  (∀ (d : Nat) (a : Int) (l0 : Option mx_V) (S h : mx_H) (n : Int), mx_ex d 152 9 [l0] [(0, a)] S h n = mx_br (a = 0) d 152 12 16 [l0] [] S h n) ∧
  (∀ (d : Nat) (l0 : Option mx_V) (S h : mx_H) (n : Int), mx_ex d 152 12 [l0] [] S h n = mx_ex d 152 13 [l0] [(0, 1)] S h n) ∧
  (∀ (d : Nat) (l0 : Option mx_V) (v0 : mx_V) (S h : mx_H) (n : Int), mx_ex d 152 13 [l0] [v0] S h n = mx_ex d 152 17 [l0] [v0] S h n) ∧
  (∀ (d : Nat) (l0 : Option mx_V) (S h : mx_H) (n : Int), mx_ex d 152 16 [l0] [] S h n = mx_ex d 152 17 [l0] [(0, 0)] S h n) ∧
  (∀ (d : Nat) (x : Int) (l0 : Option mx_V) (S h : mx_H) (n : Int), mx_ex d 152 17 [l0] [(0, x)] S h n = mx_re (0 ≤ x ∧ x ≤ 1) (some (0, x)) S h n) :=
  ⟨by intros; exact rfl,
   by intros; exact eq_ld rfl rfl,
   by intros; exact eq_if0 rfl,
   by intros; exact eq_ld rfl rfl,
   by intros; exact eq_push rfl,
   by intros; exact eq_i2 (o := mx_and) rfl,
   by intros; exact eq_if1 rfl,
   by intros; exact eq_push rfl,
   by intros; exact eq_go rfl,
   by intros; exact eq_push rfl,
   by intros; exact eq_rr rfl⟩
theorem rh_X11_baseAt_4 : ∀ (d : Nat) (x : Int) (l0 l1 l2 : Option mx_V) (S h : mx_H) (n : Int), mx_ex d 153 4 [l0, l1, l2, some (0, x)] [] S h n = mx_ex d 153 5 [l0, l1, l2, some (0, x)] [(0, x)] S h n := by intros; exact eq_ld rfl rfl
theorem rw_X11_baseAt :
  (∀ (d : Nat) (a0 a1 : Int) (S h : mx_H) (n : Int), mx_M d 153 [(0, a0), (0, a1)] S h n = mx_ex d 153 0 [some (0, a0), some (0, a1), none, none] [] S h n) ∧
  (∀ (d : Nat) (x : Int) (l0 l2 l3 : Option mx_V) (S h : mx_H) (n : Int), mx_ex d 153 0 [l0, some (0, x), l2, l3] [] S h n = mx_ex d 153 1 [l0, some (0, x), l2, l3] [(0, x)] S h n) ∧
  (∀ (d : Nat) (x : Int) (l0 l1 l2 l3 : Option mx_V) (S h : mx_H) (n : Int), mx_ex d 153 1 [l0, l1, l2, l3] [(0, x)] S h n = mx_ex d 153 2 [l0, mx_nl l1, some (0, x), l3] [] S h n) ∧
  (∀ (d : Nat) (l0 l1 l2 l3 : Option mx_V) (S h : mx_H) (n : Int), mx_ex d 153 2 [l0, l1, l2, l3] [] S h n = mx_ex d 153 3 [l0, l1, l2, l3] [(0, 2)] S h n) ∧
  (∀ (d : Nat) (x : Int) (l0 l1 l2 l3 : Option mx_V) (S h : mx_H) (n : Int), mx_ex d 153 3 [l0, l1, l2, l3] [(0, x)] S h n = mx_ex d 153 4 [l0, l1, mx_nl l2, some (0, x)] [] S h n) ∧
  (∀ (d : Nat) (l0 l1 l2 l3 : Option mx_V) (v0 : mx_V) (S h : mx_H) (n : Int), mx_ex d 153 5 [l0, l1, l2, l3] [v0] S h n = mx_ex d 153 7 [l0, l1, l2, l3] [(0, 16), v0] S h n) ∧
  (∀ (d : Nat) (b a : Int) (l0 l1 l2 l3 : Option mx_V) (S h : mx_H) (n : Int), mx_ex d 153 7 [l0, l1, l2, l3] [(0, b), (0, a)] S h n = mx_br (b < a) d 153 36 10 [l0, l1, l2, l3] [] S h n) ∧
  (∀ (d : Nat) (x : Int) (l1 l2 l3 : Option mx_V) (S h : mx_H) (n : Int), mx_ex d 153 10 [some (0, x), l1, l2, l3] [] S h n = mx_ex d 153 11 [some (0, x), l1, l2, l3] [(0, x)] S h n) ∧
  (∀ (d : Nat) (x : Int) (l0 l1 l2 : Option mx_V) (v0 : mx_V) (S h : mx_H) (n : Int), mx_ex d 153 11 [l0, l1, l2, some (0, x)] [v0] S h n = mx_ex d 153 12 [l0, l1, l2, some (0, x)] [(0, x), v0] S h n) ∧
  (∀ (d : Nat) (b a : Int) (l0 l1 l2 l3 : Option mx_V) (S h : mx_H) (n : Int), mx_ex d 153 12 [l0, l1, l2, l3] [(0, b), (0, a)] S h n = mx_ex d 153 13 [l0, l1, l2, l3] [(0, mx_shr a b)] S h n) ∧
  (∀ (d : Nat) (l0 l1 l2 l3 : Option mx_V) (v0 : mx_V) (S h : mx_H) (n : Int), mx_ex d 153 13 [l0, l1, l2, l3] [v0] S h n = mx_ex d 153 14 [l0, l1, l2, l3] [(0, 1), v0] S h n) ∧
  (∀ (d : Nat) (b a : Int) (l0 l1 l2 l3 : Option mx_V) (S h : mx_H) (n : Int), mx_ex d 153 14 [l0, l1, l2, l3] [(0, b), (0, a)] S h n = mx_ex d 153 15 [l0, l1, l2, l3] [(0, mx_and a b)] S h n) ∧
  (∀ (d : Nat) (a : Int) (l0 l1 l2 l3 : Option mx_V) (S h : mx_H) (n : Int), mx_ex d 153 15 [l0, l1, l2, l3] [(0, a)] S h n = mx_br (a = 0) d 153 18 21 [l0, l1, l2, l3] [] S h n) ∧
  (∀ (d : Nat) (l0 l1 l2 l3 : Option mx_V) (S h : mx_H) (n : Int), mx_ex d 153 18 [l0, l1, l2, l3] [] S h n = mx_ex d 153 30 [l0, l1, l2, l3] [] S h n) ∧
  (∀ (d : Nat) (x : Int) (l0 l1 l3 : Option mx_V) (S h : mx_H) (n : Int), mx_ex d 153 21 [l0, l1, some (0, x), l3] [] S h n = mx_ex d 153 22 [l0, l1, some (0, x), l3] [(0, x)] S h n) ∧
  (∀ (d : Nat) (a : Int) (l0 l1 l2 l3 : Option mx_V) (S h : mx_H) (n : Int), mx_ex d 153 22 [l0, l1, l2, l3] [(0, a)] S h n = mx_br (a = 0) d 153 25 27 [l0, l1, l2, l3] [] S h n) ∧
  (∀ (d : Nat) (x : Int) (l0 l1 l2 : Option mx_V) (S h : mx_H) (n : Int), mx_ex d 153 25 [l0, l1, l2, some (0, x)] [] S h n = mx_ex d 153 26 [l0, l1, l2, some (0, x)] [(0, x)] S h n) ∧
  (∀ (d : Nat) (x : Int) (l0 l1 l2 l3 : Option mx_V) (S h : mx_H) (n : Int), mx_ex d 153 26 [l0, l1, l2, l3] [(0, x)] S h n = some (some (0, x), S, h, n)) ∧
  (∀ (d : Nat) (x : Int) (l0 l1 l3 : Option mx_V) (S h : mx_H) (n : Int), mx_ex d 153 27 [l0, l1, some (0, x), l3] [] S h n = mx_ex d 153 30 [l0, mx_nl l1, some (0, mx_w (x + (-1))), l3] [] S h n) ∧
  (∀ (d : Nat) (x : Int) (l0 l1 l2 : Option mx_V) (S h : mx_H) (n : Int), mx_ex d 153 30 [l0, l1, l2, some (0, x)] [] S h n = mx_ex d 153 33 [l0, l1, mx_nl l2, some (0, mx_w (x + 1))] [] S h n) ∧
  (∀ (d : Nat) (l0 l1 l2 l3 : Option mx_V) (S h : mx_H) (n : Int), mx_ex d 153 33 [l0, l1, l2, l3] [] S h n = mx_ex d 153 4 [l0, l1, l2, l3] [] S h n) ∧
  (∀ (d : Nat) (l0 l1 l2 l3 : Option mx_V) (S h : mx_H) (n : Int), mx_ex d 153 36 [l0, l1, l2, l3] [] S h n = mx_ex d 153 37 [l0, l1, l2, l3] [(0, 0)] S h n) ∧
  (∀ (d : Nat) (x : Int) (l0 l1 l2 l3 : Option mx_V) (S h : mx_H) (n : Int), mx_ex d 153 37 [l0, l1, l2, l3] [(0, x)] S h n = some (some (0, x), S, h, n)) :=
  ⟨by intros; exact rfl,
   by intros; exact eq_ld rfl rfl,
   by intros; exact eq_st rfl (by decide) (Nat.le_of_ble_eq_true rfl) rfl,
   by intros; exact eq_push rfl,
   by intros; exact eq_st rfl (by decide) (Nat.le_of_ble_eq_true rfl) rfl,
   by intros; exact eq_push rfl,
   by intros; exact eq_ic4 rfl,
   by intros; exact eq_ld rfl rfl,
   by intros; exact eq_ld rfl rfl,
   by intros; exact eq_i2 (o := mx_shr) rfl,
   by intros; exact eq_push rfl,
   by intros; exact eq_i2 (o := mx_and) rfl,
   by intros; exact eq_if1 rfl,
   by intros; exact eq_go rfl,
   by intros; exact eq_ld rfl rfl,
   by intros; exact eq_if1 rfl,
   by intros; exact eq_ld rfl rfl,
   by intros; exact eq_ret rfl,
   by intros; exact eq_inc rfl rfl rfl,
   by intros; exact eq_inc rfl rfl rfl,
   by intros; exact eq_go rfl,
   by intros; exact eq_push rfl,
   by intros; exact eq_ret rfl⟩
theorem rh_X11_howLong_15 : ∀ (d : Nat) (x : Int) (l0 l1 l2 : Option mx_V) (S h : mx_H) (n : Int), mx_ex d 154 15 [l0, l1, l2, some (0, x)] [] S h n = mx_ex d 154 16 [l0, l1, l2, some (0, x)] [(0, x)] S h n := by intros; exact eq_ld rfl rfl
theorem rw_X11_howLong :
  (∀ (d : Nat) (a0 a1 : Int) (S h : mx_H) (n : Int), mx_M d 154 [(0, a0), (0, a1)] S h n = mx_ex d 154 0 [some (0, a0), some (0, a1), none, none] [] S h n) ∧
  (∀ (d : Nat) (l0 l1 l2 l3 : Option mx_V) (S h : mx_H) (n : Int), mx_ex d 154 0 [l0, l1, l2, l3] [] S h n = mx_ex d 154 1 [l0, l1, l2, l3] [(0, 1)] S h n) ∧
  (∀ (d : Nat) (x : Int) (l0 l1 l2 l3 : Option mx_V) (S h : mx_H) (n : Int), mx_ex d 154 1 [l0, l1, l2, l3] [(0, x)] S h n = mx_ex d 154 2 [l0, mx_nl l1, some (0, x), l3] [] S h n) ∧
  (∀ (d : Nat) (x : Int) (l0 l2 l3 : Option mx_V) (S h : mx_H) (n : Int), mx_ex d 154 2 [l0, some (0, x), l2, l3] [] S h n = mx_ex d 154 3 [l0, some (0, x), l2, l3] [(0, x)] S h n) ∧
  (∀ (d : Nat) (l0 l1 l2 l3 : Option mx_V) (v0 : mx_V) (S h : mx_H) (n : Int), mx_ex d 154 3 [l0, l1, l2, l3] [v0] S h n = mx_ex d 154 4 [l0, l1, l2, l3] [(0, 2), v0] S h n) ∧
  (∀ (d : Nat) (b a : Int) (l0 l1 l2 l3 : Option mx_V) (S h : mx_H) (n : Int), mx_ex d 154 4 [l0, l1, l2, l3] [(0, b), (0, a)] S h n = mx_br (a < b) d 154 7 11 [l0, l1, l2, l3] [] S h n) ∧
  (∀ (d : Nat) (l0 l1 l2 l3 : Option mx_V) (S h : mx_H) (n : Int), mx_ex d 154 7 [l0, l1, l2, l3] [] S h n = mx_ex d 154 8 [l0, l1, l2, l3] [(0, 0)] S h n) ∧
  (∀ (d : Nat) (l0 l1 l2 l3 : Option mx_V) (v0 : mx_V) (S h : mx_H) (n : Int), mx_ex d 154 8 [l0, l1, l2, l3] [v0] S h n = mx_ex d 154 14 [l0, l1, l2, l3] [v0] S h n) ∧
  (∀ (d : Nat) (x : Int) (l1 l2 l3 : Option mx_V) (S h : mx_H) (n : Int), mx_ex d 154 11 [some (0, x), l1, l2, l3] [] S h n = mx_ex d 154 12 [some (0, x), l1, l2, l3] [(0, x)] S h n) ∧
  (∀ (d : Nat) (x : Int) (l0 l2 l3 : Option mx_V) (v0 : mx_V) (S h : mx_H) (n : Int), mx_ex d 154 12 [l0, some (0, x), l2, l3] [v0] S h n = mx_ex d 154 13 [l0, some (0, x), l2, l3] [(0, x), v0] S h n) ∧
  (∀ (d : Nat) (b a : Int) (l0 l1 l2 l3 : Option mx_V) (S h : mx_H) (n : Int), mx_ex d 154 13 [l0, l1, l2, l3] [(0, b), (0, a)] S h n = mx_gd (¬ b = 0) d 154 14 [l0, l1, l2, l3] [(0, mx_w (Int.tdiv a b))] S h n) ∧
  (∀ (d : Nat) (x : Int) (l0 l1 l2 l3 : Option mx_V) (S h : mx_H) (n : Int), mx_ex d 154 14 [l0, l1, l2, l3] [(0, x)] S h n = mx_ex d 154 15 [l0, l1, mx_nl l2, some (0, x)] [] S h n) ∧
  (∀ (d : Nat) (a : Int) (l0 l1 l2 l3 : Option mx_V) (S h : mx_H) (n : Int), mx_ex d 154 16 [l0, l1, l2, l3] [(0, a)] S h n = mx_br (0 < a) d 154 19 35 [l0, l1, l2, l3] [] S h n) ∧
  (∀ (d : Nat) (x : Int) (l0 l1 l3 : Option mx_V) (S h : mx_H) (n : Int), mx_ex d 154 19 [l0, l1, some (0, x), l3] [] S h n = mx_ex d 154 20 [l0, l1, some (0, x), l3] [(0, x)] S h n) ∧
  (∀ (d : Nat) (l0 l1 l2 l3 : Option mx_V) (v0 : mx_V) (S h : mx_H) (n : Int), mx_ex d 154 20 [l0, l1, l2, l3] [v0] S h n = mx_ex d 154 22 [l0, l1, l2, l3] [(0, 32), v0] S h n) ∧
  (∀ (d : Nat) (b a : Int) (l0 l1 l2 l3 : Option mx_V) (S h : mx_H) (n : Int), mx_ex d 154 22 [l0, l1, l2, l3] [(0, b), (0, a)] S h n = mx_br (a < b) d 154 25 35 [l0, l1, l2, l3] [] S h n) ∧
  (∀ (d : Nat) (x : Int) (l0 l1 l2 : Option mx_V) (S h : mx_H) (n : Int), mx_ex d 154 25 [l0, l1, l2, some (0, x)] [] S h n = mx_ex d 154 26 [l0, l1, l2, some (0, x)] [(0, x)] S h n) ∧
  (∀ (d : Nat) (x : Int) (l0 l2 l3 : Option mx_V) (v0 : mx_V) (S h : mx_H) (n : Int), mx_ex d 154 26 [l0, some (0, x), l2, l3] [v0] S h n = mx_ex d 154 27 [l0, some (0, x), l2, l3] [(0, x), v0] S h n) ∧
  (∀ (d : Nat) (b a : Int) (l0 l1 l2 l3 : Option mx_V) (S h : mx_H) (n : Int), mx_ex d 154 27 [l0, l1, l2, l3] [(0, b), (0, a)] S h n = mx_gd (¬ b = 0) d 154 28 [l0, l1, l2, l3] [(0, mx_w (Int.tdiv a b))] S h n) ∧
  (∀ (d : Nat) (x : Int) (l0 l1 l2 l3 : Option mx_V) (S h : mx_H) (n : Int), mx_ex d 154 28 [l0, l1, l2, l3] [(0, x)] S h n = mx_ex d 154 29 [l0, l1, mx_nl l2, some (0, x)] [] S h n) ∧
  (∀ (d : Nat) (x : Int) (l0 l1 l3 : Option mx_V) (S h : mx_H) (n : Int), mx_ex d 154 29 [l0, l1, some (0, x), l3] [] S h n = mx_ex d 154 32 [l0, mx_nl l1, some (0, mx_w (x + 1)), l3] [] S h n) ∧
  (∀ (d : Nat) (l0 l1 l2 l3 : Option mx_V) (S h : mx_H) (n : Int), mx_ex d 154 32 [l0, l1, l2, l3] [] S h n = mx_ex d 154 15 [l0, l1, l2, l3] [] S h n) ∧
  (∀ (d : Nat) (x : Int) (l0 l1 l3 : Option mx_V) (S h : mx_H) (n : Int), mx_ex d 154 35 [l0, l1, some (0, x), l3] [] S h n = mx_ex d 154 36 [l0, l1, some (0, x), l3] [(0, x)] S h n) ∧
  (∀ (d : Nat) (x : Int) (l0 l1 l2 l3 : Option mx_V) (S h : mx_H) (n : Int), mx_ex d 154 36 [l0, l1, l2, l3] [(0, x)] S h n = some (some (0, x), S, h, n)) :=
  ⟨by intros; exact rfl,
   by intros; exact eq_push rfl,
   by intros; exact eq_st rfl (by decide) (Nat.le_of_ble_eq_true rfl) rfl,
   by intros; exact eq_ld rfl rfl,
   by intros; exact eq_push rfl,
   by intros; exact eq_ic3 rfl,
   by intros; exact eq_push rfl,
   by intros; exact eq_go rfl,
   by intros; exact eq_ld rfl rfl,
   by intros; exact eq_ld rfl rfl,
   by intros; exact eq_i2d (o := mx_div) rfl,
   by intros; exact eq_st rfl (by decide) (Nat.le_of_ble_eq_true rfl) rfl,
   by intros; exact eq_if5 rfl,
   by intros; exact eq_ld rfl rfl,
   by intros; exact eq_push rfl,
   by intros; exact eq_ic3 rfl,
   by intros; exact eq_ld rfl rfl,
   by intros; exact eq_ld rfl rfl,
   by intros; exact eq_i2d (o := mx_div) rfl,
   by intros; exact eq_st rfl (by decide) (Nat.le_of_ble_eq_true rfl) rfl,
   by intros; exact eq_inc rfl rfl rfl,
   by intros; exact eq_go rfl,
   by intros; exact eq_ld rfl rfl,
   by intros; exact eq_ret rfl⟩
theorem rw_X11_sortHolds :
  (∀ (d : Nat) (a0 a1 a2 a3 : Int) (S h : mx_H) (n : Int), mx_M d 155 [(0, a0), (0, a1), (0, a2), (0, a3)] S h n = mx_ex d 155 0 [some (0, a0), some (0, a1), some (0, a2), some (0, a3)] [] S h n) ∧
  (∀ (d : Nat) (x : Int) (l1 l2 l3 : Option mx_V) (S h : mx_H) (n : Int), mx_ex d 155 0 [some (0, x), l1, l2, l3] [] S h n = mx_ex d 155 1 [some (0, x), l1, l2, l3] [(0, x)] S h n) ∧
  (∀ (d : Nat) (a : Int) (l0 l1 l2 l3 : Option mx_V) (S h : mx_H) (n : Int), mx_ex d 155 1 [l0, l1, l2, l3] [(0, a)] S h n = mx_sw a [(0, 28), (1, 39), (2, 50)] d 155 63 [l0, l1, l2, l3] [] S h n) ∧
  (∀ (d : Nat) (x : Int) (l0 l2 l3 : Option mx_V) (S h : mx_H) (n : Int), mx_ex d 155 28 [l0, some (0, x), l2, l3] [] S h n = mx_ex d 155 29 [l0, some (0, x), l2, l3] [(0, x)] S h n) ∧
  (∀ (d : Nat) (x : Int) (l0 l1 l3 : Option mx_V) (v0 : mx_V) (S h : mx_H) (n : Int), mx_ex d 155 29 [l0, l1, some (0, x), l3] [v0] S h n = mx_ex d 155 30 [l0, l1, some (0, x), l3] [(0, x), v0] S h n) ∧
  (∀ (d : Nat) (b a : Int) (l0 l1 l2 l3 : Option mx_V) (S h : mx_H) (n : Int), mx_ex d 155 30 [l0, l1, l2, l3] [(0, b), (0, a)] S h n = mx_br (a = b) d 155 33 37 [l0, l1, l2, l3] [] S h n) ∧
  (∀ (d : Nat) (l0 l1 l2 l3 : Option mx_V) (S h : mx_H) (n : Int), mx_ex d 155 33 [l0, l1, l2, l3] [] S h n = mx_ex d 155 34 [l0, l1, l2, l3] [(0, 1)] S h n) ∧
  (∀ (d : Nat) (l0 l1 l2 l3 : Option mx_V) (v0 : mx_V) (S h : mx_H) (n : Int), mx_ex d 155 34 [l0, l1, l2, l3] [v0] S h n = mx_ex d 155 38 [l0, l1, l2, l3] [v0] S h n) ∧
  (∀ (d : Nat) (l0 l1 l2 l3 : Option mx_V) (S h : mx_H) (n : Int), mx_ex d 155 37 [l0, l1, l2, l3] [] S h n = mx_ex d 155 38 [l0, l1, l2, l3] [(0, 0)] S h n) ∧
  (∀ (d : Nat) (x : Int) (l0 l1 l2 l3 : Option mx_V) (S h : mx_H) (n : Int), mx_ex d 155 38 [l0, l1, l2, l3] [(0, x)] S h n = mx_re (0 ≤ x ∧ x ≤ 1) (some (0, x)) S h n) ∧
  (∀ (d : Nat) (x : Int) (l0 l2 l3 : Option mx_V) (S h : mx_H) (n : Int), mx_ex d 155 39 [l0, some (0, x), l2, l3] [] S h n = mx_ex d 155 40 [l0, some (0, x), l2, l3] [(0, x)] S h n) ∧
  (∀ (d : Nat) (x : Int) (l0 l1 l3 : Option mx_V) (v0 : mx_V) (S h : mx_H) (n : Int), mx_ex d 155 40 [l0, l1, some (0, x), l3] [v0] S h n = mx_ex d 155 41 [l0, l1, some (0, x), l3] [(0, x), v0] S h n) ∧
  (∀ (d : Nat) (b a : Int) (l0 l1 l2 l3 : Option mx_V) (S h : mx_H) (n : Int), mx_ex d 155 41 [l0, l1, l2, l3] [(0, b), (0, a)] S h n = mx_br (b < a) d 155 44 48 [l0, l1, l2, l3] [] S h n) ∧
  (∀ (d : Nat) (l0 l1 l2 l3 : Option mx_V) (S h : mx_H) (n : Int), mx_ex d 155 44 [l0, l1, l2, l3] [] S h n = mx_ex d 155 45 [l0, l1, l2, l3] [(0, 1)] S h n) ∧
  (∀ (d : Nat) (l0 l1 l2 l3 : Option mx_V) (v0 : mx_V) (S h : mx_H) (n : Int), mx_ex d 155 45 [l0, l1, l2, l3] [v0] S h n = mx_ex d 155 49 [l0, l1, l2, l3] [v0] S h n) ∧
  (∀ (d : Nat) (l0 l1 l2 l3 : Option mx_V) (S h : mx_H) (n : Int), mx_ex d 155 48 [l0, l1, l2, l3] [] S h n = mx_ex d 155 49 [l0, l1, l2, l3] [(0, 0)] S h n) ∧
  (∀ (d : Nat) (x : Int) (l0 l1 l2 l3 : Option mx_V) (S h : mx_H) (n : Int), mx_ex d 155 49 [l0, l1, l2, l3] [(0, x)] S h n = mx_re (0 ≤ x ∧ x ≤ 1) (some (0, x)) S h n) ∧
  (∀ (d : Nat) (x : Int) (l0 l2 l3 : Option mx_V) (S h : mx_H) (n : Int), mx_ex d 155 50 [l0, some (0, x), l2, l3] [] S h n = mx_ex d 155 51 [l0, some (0, x), l2, l3] [(0, x)] S h n) ∧
  (∀ (d : Nat) (x : Int) (l0 l1 l3 : Option mx_V) (v0 : mx_V) (S h : mx_H) (n : Int), mx_ex d 155 51 [l0, l1, some (0, x), l3] [v0] S h n = mx_ex d 155 52 [l0, l1, some (0, x), l3] [(0, x), v0] S h n) ∧
  (∀ (d : Nat) (b a : Int) (l0 l1 l2 l3 : Option mx_V) (S h : mx_H) (n : Int), mx_ex d 155 52 [l0, l1, l2, l3] [(0, b), (0, a)] S h n = mx_ex d 155 53 [l0, l1, l2, l3] [(0, mx_w (a + b))] S h n) ∧
  (∀ (d : Nat) (x : Int) (l0 l1 l2 : Option mx_V) (v0 : mx_V) (S h : mx_H) (n : Int), mx_ex d 155 53 [l0, l1, l2, some (0, x)] [v0] S h n = mx_ex d 155 54 [l0, l1, l2, some (0, x)] [(0, x), v0] S h n) ∧
  (∀ (d : Nat) (b a : Int) (l0 l1 l2 l3 : Option mx_V) (S h : mx_H) (n : Int), mx_ex d 155 54 [l0, l1, l2, l3] [(0, b), (0, a)] S h n = mx_br (a = b) d 155 57 61 [l0, l1, l2, l3] [] S h n) ∧
  (∀ (d : Nat) (l0 l1 l2 l3 : Option mx_V) (S h : mx_H) (n : Int), mx_ex d 155 57 [l0, l1, l2, l3] [] S h n = mx_ex d 155 58 [l0, l1, l2, l3] [(0, 1)] S h n) ∧
  (∀ (d : Nat) (l0 l1 l2 l3 : Option mx_V) (v0 : mx_V) (S h : mx_H) (n : Int), mx_ex d 155 58 [l0, l1, l2, l3] [v0] S h n = mx_ex d 155 62 [l0, l1, l2, l3] [v0] S h n) ∧
  (∀ (d : Nat) (l0 l1 l2 l3 : Option mx_V) (S h : mx_H) (n : Int), mx_ex d 155 61 [l0, l1, l2, l3] [] S h n = mx_ex d 155 62 [l0, l1, l2, l3] [(0, 0)] S h n) ∧
  (∀ (d : Nat) (x : Int) (l0 l1 l2 l3 : Option mx_V) (S h : mx_H) (n : Int), mx_ex d 155 62 [l0, l1, l2, l3] [(0, x)] S h n = mx_re (0 ≤ x ∧ x ≤ 1) (some (0, x)) S h n) ∧
  (∀ (d : Nat) (x : Int) (l0 l1 l2 : Option mx_V) (S h : mx_H) (n : Int), mx_ex d 155 63 [l0, l1, l2, some (0, x)] [] S h n = mx_ex d 155 64 [l0, l1, l2, some (0, x)] [(0, x)] S h n) ∧
  (∀ (d : Nat) (a : Int) (l0 l1 l2 l3 : Option mx_V) (S h : mx_H) (n : Int), mx_ex d 155 64 [l0, l1, l2, l3] [(0, a)] S h n = mx_br (a = 0) d 155 77 67 [l0, l1, l2, l3] [] S h n) ∧
  (∀ (d : Nat) (x : Int) (l0 l2 l3 : Option mx_V) (S h : mx_H) (n : Int), mx_ex d 155 67 [l0, some (0, x), l2, l3] [] S h n = mx_ex d 155 68 [l0, some (0, x), l2, l3] [(0, x)] S h n) ∧
  (∀ (d : Nat) (x : Int) (l0 l1 l2 : Option mx_V) (v0 : mx_V) (S h : mx_H) (n : Int), mx_ex d 155 68 [l0, l1, l2, some (0, x)] [v0] S h n = mx_ex d 155 69 [l0, l1, l2, some (0, x)] [(0, x), v0] S h n) ∧
  (∀ (d : Nat) (b a : Int) (l0 l1 l2 l3 : Option mx_V) (S h : mx_H) (n : Int), mx_ex d 155 69 [l0, l1, l2, l3] [(0, b), (0, a)] S h n = mx_gd (¬ b = 0) d 155 70 [l0, l1, l2, l3] [(0, Int.tmod a b)] S h n) ∧
  (∀ (d : Nat) (a : Int) (l0 l1 l2 l3 : Option mx_V) (S h : mx_H) (n : Int), mx_ex d 155 70 [l0, l1, l2, l3] [(0, a)] S h n = mx_br (a = 0) d 155 73 77 [l0, l1, l2, l3] [] S h n) ∧
  (∀ (d : Nat) (l0 l1 l2 l3 : Option mx_V) (S h : mx_H) (n : Int), mx_ex d 155 73 [l0, l1, l2, l3] [] S h n = mx_ex d 155 74 [l0, l1, l2, l3] [(0, 1)] S h n) ∧
  (∀ (d : Nat) (l0 l1 l2 l3 : Option mx_V) (v0 : mx_V) (S h : mx_H) (n : Int), mx_ex d 155 74 [l0, l1, l2, l3] [v0] S h n = mx_ex d 155 78 [l0, l1, l2, l3] [v0] S h n) ∧
  (∀ (d : Nat) (l0 l1 l2 l3 : Option mx_V) (S h : mx_H) (n : Int), mx_ex d 155 77 [l0, l1, l2, l3] [] S h n = mx_ex d 155 78 [l0, l1, l2, l3] [(0, 0)] S h n) ∧
  (∀ (d : Nat) (x : Int) (l0 l1 l2 l3 : Option mx_V) (S h : mx_H) (n : Int), mx_ex d 155 78 [l0, l1, l2, l3] [(0, x)] S h n = mx_re (0 ≤ x ∧ x ≤ 1) (some (0, x)) S h n) :=
  ⟨by intros; exact rfl,
   by intros; exact eq_ld rfl rfl,
   by intros; exact eq_sw rfl,
   by intros; exact eq_ld rfl rfl,
   by intros; exact eq_ld rfl rfl,
   by intros; exact eq_ic1 rfl,
   by intros; exact eq_push rfl,
   by intros; exact eq_go rfl,
   by intros; exact eq_push rfl,
   by intros; exact eq_rr rfl,
   by intros; exact eq_ld rfl rfl,
   by intros; exact eq_ld rfl rfl,
   by intros; exact eq_ic5 rfl,
   by intros; exact eq_push rfl,
   by intros; exact eq_go rfl,
   by intros; exact eq_push rfl,
   by intros; exact eq_rr rfl,
   by intros; exact eq_ld rfl rfl,
   by intros; exact eq_ld rfl rfl,
   by intros; exact eq_i2 (o := mx_add) rfl,
   by intros; exact eq_ld rfl rfl,
   by intros; exact eq_ic1 rfl,
   by intros; exact eq_push rfl,
   by intros; exact eq_go rfl,
   by intros; exact eq_push rfl,
   by intros; exact eq_rr rfl,
   by intros; exact eq_ld rfl rfl,
   by intros; exact eq_if0 rfl,
   by intros; exact eq_ld rfl rfl,
   by intros; exact eq_ld rfl rfl,
   by intros; exact eq_i2d (o := mx_rem) rfl,
   by intros; exact eq_if1 rfl,
   by intros; exact eq_push rfl,
   by intros; exact eq_go rfl,
   by intros; exact eq_push rfl,
   by intros; exact eq_rr rfl⟩
