/-! PRINTED (gen_rows.py): a row an instruction -/
theorem rw_X11_init :
  (∀ (d : Nat) (a0 : Int) (S h : mx_H) (n : Int), mx_M d 98 [(2, a0)] S h n = mx_ex d 98 0 [some (2, a0)] [] S h n) ∧
  (∀ (d : Nat) (x : Int) (S h : mx_H) (n : Int), mx_ex d 98 0 [some (2, x)] [] S h n = mx_ex d 98 1 [some (2, x)] [(2, x)] S h n) ∧
  (∀ (d : Nat) (a : Int) (l0 : Option mx_V) (S h : mx_H) (n : Int), mx_ex d 98 1 [l0] [(2, a)] S h n = mx_gd (0 ≤ a) d 98 4 [l0] [] S h n) ∧
  (∀ (d : Nat) (x : Int) (S h : mx_H) (n : Int), mx_ex d 98 4 [some (2, x)] [] S h n = mx_ex d 98 5 [some (2, x)] [(2, x)] S h n) ∧
  (∀ (d : Nat) (l0 : Option mx_V) (v0 : mx_V) (S h : mx_H) (n : Int), mx_ex d 98 5 [l0] [v0] S h n = mx_ex d 98 8 [l0] [(0, 200), v0] S h n) ∧
  (∀ (d : Nat) (x : Int) (l0 : Option mx_V) (v1 : mx_V) (S h : mx_H) (n : Int), mx_ex d 98 8 [l0] [(0, x), v1] S h n = mx_gd (0 ≤ x ∧ x ≤ 300) d 98 10 [l0] [(2, n), v1] (mx_t S n 20 x) (mx_z h n) (n + 1)) ∧
  (∀ (d : Nat) (v a : Int) (l0 : Option mx_V) (S h : mx_H) (n : Int), mx_ex d 98 10 [l0] [(2, v), (2, a)] S h n = mx_gd (7 ≤ S a (-2) ∧ S a (-2) ≤ 7) d 98 13 [l0] [] (mx_u S a 0 v) h n) ∧
  (∀ (d : Nat) (x : Int) (S h : mx_H) (n : Int), mx_ex d 98 13 [some (2, x)] [] S h n = mx_ex d 98 14 [some (2, x)] [(2, x)] S h n) ∧
  (∀ (d : Nat) (l0 : Option mx_V) (v0 : mx_V) (S h : mx_H) (n : Int), mx_ex d 98 14 [l0] [v0] S h n = mx_ex d 98 15 [l0] [(0, 0), v0] S h n) ∧
  (∀ (d : Nat) (v a : Int) (l0 : Option mx_V) (S h : mx_H) (n : Int), mx_ex d 98 15 [l0] [(0, v), (2, a)] S h n = mx_gd (7 ≤ S a (-2) ∧ S a (-2) ≤ 7) d 98 18 [l0] [] S (mx_u h a 1 v) n) ∧
  (∀ (d : Nat) (x : Int) (S h : mx_H) (n : Int), mx_ex d 98 18 [some (2, x)] [] S h n = mx_ex d 98 19 [some (2, x)] [(2, x)] S h n) ∧
  (∀ (d : Nat) (l0 : Option mx_V) (v0 : mx_V) (S h : mx_H) (n : Int), mx_ex d 98 19 [l0] [v0] S h n = mx_ex d 98 22 [l0] [(2, n), v0] (mx_t S n 9 0) (mx_z h n) (n + 1)) ∧
  (∀ (d : Nat) (a : Int) (l0 : Option mx_V) (v1 : mx_V) (S h : mx_H) (n : Int), mx_ex d 98 22 [l0] [(2, a), v1] S h n = mx_ex d 98 23 [l0] [(2, a), (2, a), v1] S h n) ∧
  (∀ (d : Nat) (a : Int) (l0 : Option mx_V) (v1 v2 : mx_V) (S h : mx_H) (n : Int), mx_ex (d + 1) 98 23 [l0] [(2, a), v1, v2] S h n = mx_cl (9 ≤ S a (-2) ∧ S a (-2) ≤ 9) d 12 [(2, a)] 98 26 [l0] [v1, v2] S h n) ∧
  (∀ (d : Nat) (v a : Int) (l0 : Option mx_V) (S h : mx_H) (n : Int), mx_ex d 98 26 [l0] [(2, v), (2, a)] S h n = mx_gd (7 ≤ S a (-2) ∧ S a (-2) ≤ 7) d 98 29 [l0] [] (mx_u S a 2 v) h n) ∧
  (∀ (d : Nat) (x : Int) (S h : mx_H) (n : Int), mx_ex d 98 29 [some (2, x)] [] S h n = mx_ex d 98 30 [some (2, x)] [(2, x)] S h n) ∧
  (∀ (d : Nat) (x : Int) (v0 : mx_V) (S h : mx_H) (n : Int), mx_ex d 98 30 [some (2, x)] [v0] S h n = mx_ex d 98 31 [some (2, x)] [(2, x), v0] S h n) ∧
  (∀ (d : Nat) (a : Int) (l0 : Option mx_V) (v1 : mx_V) (S h : mx_H) (n : Int), mx_ex d 98 31 [l0] [(2, a), v1] S h n = mx_gd (7 ≤ S a (-2) ∧ S a (-2) ≤ 7) d 98 34 [l0] [(2, S a 2), v1] S h n) ∧
  (∀ (d : Nat) (a : Int) (l0 : Option mx_V) (v1 : mx_V) (S h : mx_H) (n : Int), mx_ex d 98 34 [l0] [(2, a), v1] S h n = mx_gd (9 ≤ S a (-2) ∧ S a (-2) ≤ 9) d 98 37 [l0] [(2, S a 0), v1] S h n) ∧
  (∀ (d : Nat) (v a : Int) (l0 : Option mx_V) (S h : mx_H) (n : Int), mx_ex d 98 37 [l0] [(2, v), (2, a)] S h n = mx_gd (7 ≤ S a (-2) ∧ S a (-2) ≤ 7) d 98 40 [l0] [] (mx_u S a 3 v) h n) ∧
  (∀ (d : Nat) (x : Int) (S h : mx_H) (n : Int), mx_ex d 98 40 [some (2, x)] [] S h n = mx_ex d 98 41 [some (2, x)] [(2, x)] S h n) ∧
  (∀ (d : Nat) (l0 : Option mx_V) (v0 : mx_V) (S h : mx_H) (n : Int), mx_ex d 98 41 [l0] [v0] S h n = mx_ex d 98 44 [l0] [(2, n), v0] (mx_t S n 8 0) (mx_z h n) (n + 1)) ∧
  (∀ (d : Nat) (a : Int) (l0 : Option mx_V) (v1 : mx_V) (S h : mx_H) (n : Int), mx_ex d 98 44 [l0] [(2, a), v1] S h n = mx_ex d 98 45 [l0] [(2, a), (2, a), v1] S h n) ∧
  (∀ (d : Nat) (a : Int) (l0 : Option mx_V) (v1 v2 : mx_V) (S h : mx_H) (n : Int), mx_ex (d + 1) 98 45 [l0] [(2, a), v1, v2] S h n = mx_cl (8 ≤ S a (-2) ∧ S a (-2) ≤ 8) d 84 [(2, a)] 98 48 [l0] [v1, v2] S h n) ∧
  (∀ (d : Nat) (v a : Int) (l0 : Option mx_V) (S h : mx_H) (n : Int), mx_ex d 98 48 [l0] [(2, v), (2, a)] S h n = mx_gd (7 ≤ S a (-2) ∧ S a (-2) ≤ 7) d 98 51 [l0] [] (mx_u S a 4 v) h n) ∧
  (∀ (d : Nat) (x : Int) (S h : mx_H) (n : Int), mx_ex d 98 51 [some (2, x)] [] S h n = mx_ex d 98 52 [some (2, x)] [(2, x)] S h n) ∧
  (∀ (d : Nat) (l0 : Option mx_V) (v0 : mx_V) (S h : mx_H) (n : Int), mx_ex d 98 52 [l0] [v0] S h n = mx_ex d 98 53 [l0] [(0, 0), v0] S h n) ∧
  (∀ (d : Nat) (v a : Int) (l0 : Option mx_V) (S h : mx_H) (n : Int), mx_ex d 98 53 [l0] [(0, v), (2, a)] S h n = mx_gd (7 ≤ S a (-2) ∧ S a (-2) ≤ 7 ∧ 0 ≤ v ∧ v ≤ 1) d 98 56 [l0] [] S (mx_u h a 5 v) n) ∧
  (∀ (d : Nat) (x : Int) (S h : mx_H) (n : Int), mx_ex d 98 56 [some (2, x)] [] S h n = mx_ex d 98 57 [some (2, x)] [(2, x)] S h n) ∧
  (∀ (d : Nat) (l0 : Option mx_V) (v0 : mx_V) (S h : mx_H) (n : Int), mx_ex d 98 57 [l0] [v0] S h n = mx_ex d 98 58 [l0] [(0, 1), v0] S h n) ∧
  (∀ (d : Nat) (v a : Int) (l0 : Option mx_V) (S h : mx_H) (n : Int), mx_ex d 98 58 [l0] [(0, v), (2, a)] S h n = mx_gd (7 ≤ S a (-2) ∧ S a (-2) ≤ 7) d 98 61 [l0] [] S (mx_u h a 6 v) n) ∧
  (∀ (d : Nat) (x : Int) (S h : mx_H) (n : Int), mx_ex d 98 61 [some (2, x)] [] S h n = mx_ex d 98 62 [some (2, x)] [(2, x)] S h n) ∧
  (∀ (d : Nat) (l0 : Option mx_V) (v0 : mx_V) (S h : mx_H) (n : Int), mx_ex d 98 62 [l0] [v0] S h n = mx_ex d 98 63 [l0] [(0, 1), v0] S h n) ∧
  (∀ (d : Nat) (v a : Int) (l0 : Option mx_V) (S h : mx_H) (n : Int), mx_ex d 98 63 [l0] [(0, v), (2, a)] S h n = mx_gd (7 ≤ S a (-2) ∧ S a (-2) ≤ 7) d 98 66 [l0] [] S (mx_u h a 7 v) n) ∧
  (∀ (d : Nat) (x : Int) (S h : mx_H) (n : Int), mx_ex d 98 66 [some (2, x)] [] S h n = mx_ex d 98 67 [some (2, x)] [(2, x)] S h n) ∧
  (∀ (d : Nat) (l0 : Option mx_V) (v0 : mx_V) (S h : mx_H) (n : Int), mx_ex d 98 67 [l0] [v0] S h n = mx_ex d 98 70 [l0] [(2, n), v0] (mx_t S n 10 0) (mx_z h n) (n + 1)) ∧
  (∀ (d : Nat) (a : Int) (l0 : Option mx_V) (v1 : mx_V) (S h : mx_H) (n : Int), mx_ex d 98 70 [l0] [(2, a), v1] S h n = mx_ex d 98 71 [l0] [(2, a), (2, a), v1] S h n) ∧
  (∀ (d : Nat) (a : Int) (l0 : Option mx_V) (v1 v2 : mx_V) (S h : mx_H) (n : Int), mx_ex (d + 1) 98 71 [l0] [(2, a), v1, v2] S h n = mx_cl (10 ≤ S a (-2) ∧ S a (-2) ≤ 10) d 59 [(2, a)] 98 74 [l0] [v1, v2] S h n) ∧
  (∀ (d : Nat) (v a : Int) (l0 : Option mx_V) (S h : mx_H) (n : Int), mx_ex d 98 74 [l0] [(2, v), (2, a)] S h n = mx_gd (7 ≤ S a (-2) ∧ S a (-2) ≤ 7) d 98 77 [l0] [] (mx_u S a 8 v) h n) ∧
  (∀ (d : Nat) (x : Int) (S h : mx_H) (n : Int), mx_ex d 98 77 [some (2, x)] [] S h n = mx_ex d 98 78 [some (2, x)] [(2, x)] S h n) ∧
  (∀ (d : Nat) (l0 : Option mx_V) (v0 : mx_V) (S h : mx_H) (n : Int), mx_ex d 98 78 [l0] [v0] S h n = mx_ex d 98 80 [l0] [(0, 18), v0] S h n) ∧
  (∀ (d : Nat) (x : Int) (l0 : Option mx_V) (v1 : mx_V) (S h : mx_H) (n : Int), mx_ex d 98 80 [l0] [(0, x), v1] S h n = mx_gd (0 ≤ x ∧ x ≤ 300) d 98 82 [l0] [(2, n), v1] (mx_t S n 21 x) (mx_z h n) (n + 1)) ∧
  (∀ (d : Nat) (v a : Int) (l0 : Option mx_V) (S h : mx_H) (n : Int), mx_ex d 98 82 [l0] [(2, v), (2, a)] S h n = mx_gd (7 ≤ S a (-2) ∧ S a (-2) ≤ 7) d 98 85 [l0] [] (mx_u S a 9 v) h n) ∧
  (∀ (d : Nat) (x : Int) (S h : mx_H) (n : Int), mx_ex d 98 85 [some (2, x)] [] S h n = mx_ex d 98 86 [some (2, x)] [(2, x)] S h n) ∧
  (∀ (d : Nat) (l0 : Option mx_V) (v0 : mx_V) (S h : mx_H) (n : Int), mx_ex d 98 86 [l0] [v0] S h n = mx_ex d 98 87 [l0] [(0, 0), v0] S h n) ∧
  (∀ (d : Nat) (v a : Int) (l0 : Option mx_V) (S h : mx_H) (n : Int), mx_ex d 98 87 [l0] [(0, v), (2, a)] S h n = mx_gd (7 ≤ S a (-2) ∧ S a (-2) ≤ 7) d 98 90 [l0] [] S (mx_u h a 10 v) n) ∧
  (∀ (d : Nat) (x : Int) (S h : mx_H) (n : Int), mx_ex d 98 90 [some (2, x)] [] S h n = mx_ex d 98 91 [some (2, x)] [(2, x)] S h n) ∧
  (∀ (d : Nat) (l0 : Option mx_V) (v0 : mx_V) (S h : mx_H) (n : Int), mx_ex d 98 91 [l0] [v0] S h n = mx_ex d 98 92 [l0] [(0, 3), v0] S h n) ∧
  (∀ (d : Nat) (x : Int) (l0 : Option mx_V) (v1 : mx_V) (S h : mx_H) (n : Int), mx_ex d 98 92 [l0] [(0, x), v1] S h n = mx_gd (0 ≤ x ∧ x ≤ 300) d 98 94 [l0] [(2, n), v1] (mx_t S n 20 x) (mx_z h n) (n + 1)) ∧
  (∀ (d : Nat) (v a : Int) (l0 : Option mx_V) (S h : mx_H) (n : Int), mx_ex d 98 94 [l0] [(2, v), (2, a)] S h n = mx_gd (7 ≤ S a (-2) ∧ S a (-2) ≤ 7) d 98 97 [l0] [] (mx_u S a 11 v) h n) ∧
  (∀ (d : Nat) (x : Int) (S h : mx_H) (n : Int), mx_ex d 98 97 [some (2, x)] [] S h n = mx_ex d 98 98 [some (2, x)] [(2, x)] S h n) ∧
  (∀ (d : Nat) (l0 : Option mx_V) (v0 : mx_V) (S h : mx_H) (n : Int), mx_ex d 98 98 [l0] [v0] S h n = mx_ex d 98 99 [l0] [(0, 4), v0] S h n) ∧
  (∀ (d : Nat) (x : Int) (l0 : Option mx_V) (v1 : mx_V) (S h : mx_H) (n : Int), mx_ex d 98 99 [l0] [(0, x), v1] S h n = mx_gd (0 ≤ x ∧ x ≤ 300) d 98 102 [l0] [(2, n), v1] (mx_t S n 23 x) (mx_z h n) (n + 1)) ∧
  (∀ (d : Nat) (v a : Int) (l0 : Option mx_V) (S h : mx_H) (n : Int), mx_ex d 98 102 [l0] [(2, v), (2, a)] S h n = mx_gd (7 ≤ S a (-2) ∧ S a (-2) ≤ 7) d 98 105 [l0] [] (mx_u S a 12 v) h n) ∧
  (∀ (d : Nat) (x : Int) (S h : mx_H) (n : Int), mx_ex d 98 105 [some (2, x)] [] S h n = mx_ex d 98 106 [some (2, x)] [(2, x)] S h n) ∧
  (∀ (d : Nat) (l0 : Option mx_V) (v0 : mx_V) (S h : mx_H) (n : Int), mx_ex d 98 106 [l0] [v0] S h n = mx_ex d 98 107 [l0] [(0, 4), v0] S h n) ∧
  (∀ (d : Nat) (x : Int) (l0 : Option mx_V) (v1 : mx_V) (S h : mx_H) (n : Int), mx_ex d 98 107 [l0] [(0, x), v1] S h n = mx_gd (0 ≤ x ∧ x ≤ 300) d 98 109 [l0] [(2, n), v1] (mx_t S n 20 x) (mx_z h n) (n + 1)) ∧
  (∀ (d : Nat) (v a : Int) (l0 : Option mx_V) (S h : mx_H) (n : Int), mx_ex d 98 109 [l0] [(2, v), (2, a)] S h n = mx_gd (7 ≤ S a (-2) ∧ S a (-2) ≤ 7) d 98 112 [l0] [] (mx_u S a 13 v) h n) ∧
  (∀ (d : Nat) (x : Int) (S h : mx_H) (n : Int), mx_ex d 98 112 [some (2, x)] [] S h n = mx_ex d 98 113 [some (2, x)] [(2, x)] S h n) ∧
  (∀ (d : Nat) (l0 : Option mx_V) (v0 : mx_V) (S h : mx_H) (n : Int), mx_ex d 98 113 [l0] [v0] S h n = mx_ex d 98 114 [l0] [(0, 4), v0] S h n) ∧
  (∀ (d : Nat) (x : Int) (l0 : Option mx_V) (v1 : mx_V) (S h : mx_H) (n : Int), mx_ex d 98 114 [l0] [(0, x), v1] S h n = mx_gd (0 ≤ x ∧ x ≤ 300) d 98 116 [l0] [(2, n), v1] (mx_t S n 20 x) (mx_z h n) (n + 1)) ∧
  (∀ (d : Nat) (v a : Int) (l0 : Option mx_V) (S h : mx_H) (n : Int), mx_ex d 98 116 [l0] [(2, v), (2, a)] S h n = mx_gd (7 ≤ S a (-2) ∧ S a (-2) ≤ 7) d 98 119 [l0] [] (mx_u S a 14 v) h n) ∧
  (∀ (d : Nat) (x : Int) (S h : mx_H) (n : Int), mx_ex d 98 119 [some (2, x)] [] S h n = mx_ex d 98 120 [some (2, x)] [(2, x)] S h n) ∧
  (∀ (d : Nat) (l0 : Option mx_V) (v0 : mx_V) (S h : mx_H) (n : Int), mx_ex d 98 120 [l0] [v0] S h n = mx_ex d 98 121 [l0] [(0, 4), v0] S h n) ∧
  (∀ (d : Nat) (x : Int) (l0 : Option mx_V) (v1 : mx_V) (S h : mx_H) (n : Int), mx_ex d 98 121 [l0] [(0, x), v1] S h n = mx_gd (0 ≤ x ∧ x ≤ 300) d 98 124 [l0] [(2, n), v1] (mx_t S n 23 x) (mx_z h n) (n + 1)) ∧
  (∀ (d : Nat) (v a : Int) (l0 : Option mx_V) (S h : mx_H) (n : Int), mx_ex d 98 124 [l0] [(2, v), (2, a)] S h n = mx_gd (7 ≤ S a (-2) ∧ S a (-2) ≤ 7) d 98 127 [l0] [] (mx_u S a 15 v) h n) ∧
  (∀ (d : Nat) (x : Int) (S h : mx_H) (n : Int), mx_ex d 98 127 [some (2, x)] [] S h n = mx_ex d 98 128 [some (2, x)] [(2, x)] S h n) ∧
  (∀ (d : Nat) (l0 : Option mx_V) (v0 : mx_V) (S h : mx_H) (n : Int), mx_ex d 98 128 [l0] [v0] S h n = mx_ex d 98 131 [l0] [(2, n), v0] (mx_t S n 11 0) (mx_z h n) (n + 1)) ∧
  (∀ (d : Nat) (a : Int) (l0 : Option mx_V) (v1 : mx_V) (S h : mx_H) (n : Int), mx_ex d 98 131 [l0] [(2, a), v1] S h n = mx_ex d 98 132 [l0] [(2, a), (2, a), v1] S h n) ∧
  (∀ (d : Nat) (a : Int) (l0 : Option mx_V) (v1 v2 : mx_V) (S h : mx_H) (n : Int), mx_ex (d + 1) 98 132 [l0] [(2, a), v1, v2] S h n = mx_cl (11 ≤ S a (-2) ∧ S a (-2) ≤ 11) d 74 [(2, a)] 98 135 [l0] [v1, v2] S h n) :=
  ⟨by intros; exact rfl,
   by intros; exact eq_ld rfl rfl,
   by intros; exact eq_oini rfl (Nat.le_of_ble_eq_true rfl),
   by intros; exact eq_ld rfl rfl,
   by intros; exact eq_push rfl,
   by intros; exact eq_newa rfl,
   by intros; exact eq_pr rfl,
   by intros; exact eq_ld rfl rfl,
   by intros; exact eq_push rfl,
   by intros; exact eq_pi rfl,
   by intros; exact eq_ld rfl rfl,
   by intros; exact eq_new rfl,
   by intros; exact eq_dup rfl (by decide),
   by intros; exact eq_ci rfl (Nat.le_of_ble_eq_true rfl) rfl rfl rfl (Nat.le_of_ble_eq_true rfl),
   by intros; exact eq_pr rfl,
   by intros; exact eq_ld rfl rfl,
   by intros; exact eq_ld rfl rfl,
   by intros; exact eq_gr rfl,
   by intros; exact eq_gr rfl,
   by intros; exact eq_pr rfl,
   by intros; exact eq_ld rfl rfl,
   by intros; exact eq_new rfl,
   by intros; exact eq_dup rfl (by decide),
   by intros; exact eq_ci rfl (Nat.le_of_ble_eq_true rfl) rfl rfl rfl (Nat.le_of_ble_eq_true rfl),
   by intros; exact eq_pr rfl,
   by intros; exact eq_ld rfl rfl,
   by intros; exact eq_push rfl,
   by intros; exact eq_pz rfl,
   by intros; exact eq_ld rfl rfl,
   by intros; exact eq_push rfl,
   by intros; exact eq_pi rfl,
   by intros; exact eq_ld rfl rfl,
   by intros; exact eq_push rfl,
   by intros; exact eq_pi rfl,
   by intros; exact eq_ld rfl rfl,
   by intros; exact eq_new rfl,
   by intros; exact eq_dup rfl (by decide),
   by intros; exact eq_ci rfl (Nat.le_of_ble_eq_true rfl) rfl rfl rfl (Nat.le_of_ble_eq_true rfl),
   by intros; exact eq_pr rfl,
   by intros; exact eq_ld rfl rfl,
   by intros; exact eq_push rfl,
   by intros; exact eq_newa rfl,
   by intros; exact eq_pr rfl,
   by intros; exact eq_ld rfl rfl,
   by intros; exact eq_push rfl,
   by intros; exact eq_pi rfl,
   by intros; exact eq_ld rfl rfl,
   by intros; exact eq_push rfl,
   by intros; exact eq_newa rfl,
   by intros; exact eq_pr rfl,
   by intros; exact eq_ld rfl rfl,
   by intros; exact eq_push rfl,
   by intros; exact eq_newa rfl,
   by intros; exact eq_pr rfl,
   by intros; exact eq_ld rfl rfl,
   by intros; exact eq_push rfl,
   by intros; exact eq_newa rfl,
   by intros; exact eq_pr rfl,
   by intros; exact eq_ld rfl rfl,
   by intros; exact eq_push rfl,
   by intros; exact eq_newa rfl,
   by intros; exact eq_pr rfl,
   by intros; exact eq_ld rfl rfl,
   by intros; exact eq_push rfl,
   by intros; exact eq_newa rfl,
   by intros; exact eq_pr rfl,
   by intros; exact eq_ld rfl rfl,
   by intros; exact eq_new rfl,
   by intros; exact eq_dup rfl (by decide),
   by intros; exact eq_ci rfl (Nat.le_of_ble_eq_true rfl) rfl rfl rfl (Nat.le_of_ble_eq_true rfl)⟩
theorem rw_X11_init_1 :
  (∀ (d : Nat) (v a : Int) (l0 : Option mx_V) (S h : mx_H) (n : Int), mx_ex d 98 135 [l0] [(2, v), (2, a)] S h n = mx_gd (7 ≤ S a (-2) ∧ S a (-2) ≤ 7) d 98 138 [l0] [] (mx_u S a 16 v) h n) ∧
  (∀ (d : Nat) (x : Int) (S h : mx_H) (n : Int), mx_ex d 98 138 [some (2, x)] [] S h n = mx_ex d 98 139 [some (2, x)] [(2, x)] S h n) ∧
  (∀ (d : Nat) (a : Int) (l0 : Option mx_V) (S h : mx_H) (n : Int), mx_ex d 98 139 [l0] [(2, a)] S h n = mx_gd (7 ≤ S a (-2) ∧ S a (-2) ≤ 7) d 98 142 [l0] [(2, S a 13)] S h n) ∧
  (∀ (d : Nat) (l0 : Option mx_V) (v0 : mx_V) (S h : mx_H) (n : Int), mx_ex d 98 142 [l0] [v0] S h n = mx_ex d 98 143 [l0] [(0, 2), v0] S h n) ∧
  (∀ (d : Nat) (x0 x1 : Int) (l0 : Option mx_V) (S h : mx_H) (n : Int), mx_ex (d + 1) 98 143 [l0] [(0, x0), (2, x1)] S h n = mx_rt (mx_M d 255 [(2, x1), (0, x0)] S h n) (d + 1) 98 146 [l0] []) ∧
  (∀ (d : Nat) (l0 : Option mx_V) (S h : mx_H) (n : Int), mx_ex d 98 146 [l0] [] S h n = some (none, S, h, n)) :=
  ⟨by intros; exact eq_pr rfl,
   by intros; exact eq_ld rfl rfl,
   by intros; exact eq_gr rfl,
   by intros; exact eq_push rfl,
   by intros; exact eq_cs rfl (Nat.le_of_ble_eq_true rfl) rfl rfl rfl (Nat.le_of_ble_eq_true rfl),
   by intros; exact eq_retv rfl⟩
theorem rh_X11_feed_30 : ∀ (d : Nat) (x : Int) (l0 l1 l2 l3 : Option mx_V) (S h : mx_H) (n : Int), mx_ex d 99 30 [l0, l1, l2, l3, some (0, x)] [] S h n = mx_ex d 99 32 [l0, l1, l2, l3, some (0, x)] [(0, x)] S h n := by intros; exact eq_ld rfl rfl
theorem rw_X11_feed :
  (∀ (d : Nat) (a0 a1 a2 : Int) (S h : mx_H) (n : Int), mx_M d 99 [(2, a0), (1, a1), (0, a2)] S h n = mx_ex d 99 0 [some (2, a0), some (1, a1), none, some (0, a2), none] [] S h n) ∧
  (∀ (d : Nat) (x : Int) (l0 l1 l2 l4 : Option mx_V) (S h : mx_H) (n : Int), mx_ex d 99 0 [l0, l1, l2, some (0, x), l4] [] S h n = mx_ex d 99 1 [l0, l1, l2, some (0, x), l4] [(0, x)] S h n) ∧
  (∀ (d : Nat) (l0 l1 l2 l3 l4 : Option mx_V) (v0 : mx_V) (S h : mx_H) (n : Int), mx_ex d 99 1 [l0, l1, l2, l3, l4] [v0] S h n = mx_ex d 99 2 [l0, l1, l2, l3, l4] [(0, 1), v0] S h n) ∧
  (∀ (d : Nat) (l0 l1 l2 l3 l4 : Option mx_V) (v0 v1 : mx_V) (S h : mx_H) (n : Int), mx_ex d 99 2 [l0, l1, l2, l3, l4] [v0, v1] S h n = mx_ex d 99 4 [l0, l1, l2, l3, l4] [(0, 8), v0, v1] S h n) ∧
  (∀ (d : Nat) (x0 x1 x2 : Int) (l0 l1 l2 l3 l4 : Option mx_V) (S h : mx_H) (n : Int), mx_ex (d + 1) 99 4 [l0, l1, l2, l3, l4] [(0, x0), (0, x1), (0, x2)] S h n = mx_rt (mx_M d 145 [(0, x2), (0, x1), (0, x0)] S h n) (d + 1) 99 7 [l0, l1, l2, l3, l4] []) ∧
  (∀ (d : Nat) (a : Int) (l0 l1 l2 l3 l4 : Option mx_V) (S h : mx_H) (n : Int), mx_ex d 99 7 [l0, l1, l2, l3, l4] [(0, a)] S h n = mx_br (a = 0) d 99 10 12 [l0, l1, l2, l3, l4] [] S h n) ∧
  (∀ (d : Nat) (l0 l1 l2 l3 l4 : Option mx_V) (S h : mx_H) (n : Int), mx_ex d 99 10 [l0, l1, l2, l3, l4] [] S h n = mx_ex d 99 11 [l0, l1, l2, l3, l4] [(0, (-1))] S h n) ∧
  (∀ (d : Nat) (x : Int) (l0 l1 l2 l3 l4 : Option mx_V) (S h : mx_H) (n : Int), mx_ex d 99 11 [l0, l1, l2, l3, l4] [(0, x)] S h n = some (some (0, x), S, h, n)) ∧
  (∀ (d : Nat) (x : Int) (l1 l2 l3 l4 : Option mx_V) (S h : mx_H) (n : Int), mx_ex d 99 12 [some (2, x), l1, l2, l3, l4] [] S h n = mx_ex d 99 13 [some (2, x), l1, l2, l3, l4] [(2, x)] S h n) ∧
  (∀ (d : Nat) (a : Int) (l0 l1 l2 l3 l4 : Option mx_V) (S h : mx_H) (n : Int), mx_ex d 99 13 [l0, l1, l2, l3, l4] [(2, a)] S h n = mx_gd (7 ≤ S a (-2) ∧ S a (-2) ≤ 7) d 99 16 [l0, l1, l2, l3, l4] [(0, h a 1)] S h n) ∧
  (∀ (d : Nat) (x : Int) (l0 l1 l2 l4 : Option mx_V) (v0 : mx_V) (S h : mx_H) (n : Int), mx_ex d 99 16 [l0, l1, l2, some (0, x), l4] [v0] S h n = mx_ex d 99 17 [l0, l1, l2, some (0, x), l4] [(0, x), v0] S h n) ∧
  (∀ (d : Nat) (b a : Int) (l0 l1 l2 l3 l4 : Option mx_V) (S h : mx_H) (n : Int), mx_ex d 99 17 [l0, l1, l2, l3, l4] [(0, b), (0, a)] S h n = mx_ex d 99 18 [l0, l1, l2, l3, l4] [(0, mx_w (a + b))] S h n) ∧
  (∀ (d : Nat) (l0 l1 l2 l3 l4 : Option mx_V) (v0 : mx_V) (S h : mx_H) (n : Int), mx_ex d 99 18 [l0, l1, l2, l3, l4] [v0] S h n = mx_ex d 99 21 [l0, l1, l2, l3, l4] [(0, 200), v0] S h n) ∧
  (∀ (d : Nat) (b a : Int) (l0 l1 l2 l3 l4 : Option mx_V) (S h : mx_H) (n : Int), mx_ex d 99 21 [l0, l1, l2, l3, l4] [(0, b), (0, a)] S h n = mx_br (b < a) d 99 24 27 [l0, l1, l2, l3, l4] [] S h n) ∧
  (∀ (d : Nat) (l0 l1 l2 l3 l4 : Option mx_V) (S h : mx_H) (n : Int), mx_ex d 99 24 [l0, l1, l2, l3, l4] [] S h n = mx_ex d 99 26 [l0, l1, l2, l3, l4] [(0, (-2))] S h n) ∧
  (∀ (d : Nat) (x : Int) (l0 l1 l2 l3 l4 : Option mx_V) (S h : mx_H) (n : Int), mx_ex d 99 26 [l0, l1, l2, l3, l4] [(0, x)] S h n = some (some (0, x), S, h, n)) ∧
  (∀ (d : Nat) (l0 l1 l2 l3 l4 : Option mx_V) (S h : mx_H) (n : Int), mx_ex d 99 27 [l0, l1, l2, l3, l4] [] S h n = mx_ex d 99 28 [l0, l1, l2, l3, l4] [(0, 0)] S h n) ∧
  (∀ (d : Nat) (x : Int) (l0 l1 l2 l3 l4 : Option mx_V) (S h : mx_H) (n : Int), mx_ex d 99 28 [l0, l1, l2, l3, l4] [(0, x)] S h n = mx_ex d 99 30 [l0, l1, l2, mx_nl l3, some (0, x)] [] S h n) ∧
  (∀ (d : Nat) (x : Int) (l0 l1 l2 l4 : Option mx_V) (v0 : mx_V) (S h : mx_H) (n : Int), mx_ex d 99 32 [l0, l1, l2, some (0, x), l4] [v0] S h n = mx_ex d 99 33 [l0, l1, l2, some (0, x), l4] [(0, x), v0] S h n) ∧
  (∀ (d : Nat) (b a : Int) (l0 l1 l2 l3 l4 : Option mx_V) (S h : mx_H) (n : Int), mx_ex d 99 33 [l0, l1, l2, l3, l4] [(0, b), (0, a)] S h n = mx_br (a < b) d 99 36 66 [l0, l1, l2, l3, l4] [] S h n) ∧
  (∀ (d : Nat) (x : Int) (l1 l2 l3 l4 : Option mx_V) (S h : mx_H) (n : Int), mx_ex d 99 36 [some (2, x), l1, l2, l3, l4] [] S h n = mx_ex d 99 37 [some (2, x), l1, l2, l3, l4] [(2, x)] S h n) ∧
  (∀ (d : Nat) (a : Int) (l0 l1 l2 l3 l4 : Option mx_V) (S h : mx_H) (n : Int), mx_ex d 99 37 [l0, l1, l2, l3, l4] [(2, a)] S h n = mx_gd (7 ≤ S a (-2) ∧ S a (-2) ≤ 7) d 99 40 [l0, l1, l2, l3, l4] [(2, S a 0)] S h n) ∧
  (∀ (d : Nat) (x : Int) (l1 l2 l3 l4 : Option mx_V) (v0 : mx_V) (S h : mx_H) (n : Int), mx_ex d 99 40 [some (2, x), l1, l2, l3, l4] [v0] S h n = mx_ex d 99 41 [some (2, x), l1, l2, l3, l4] [(2, x), v0] S h n) ∧
  (∀ (d : Nat) (a : Int) (l0 l1 l2 l3 l4 : Option mx_V) (v1 : mx_V) (S h : mx_H) (n : Int), mx_ex d 99 41 [l0, l1, l2, l3, l4] [(2, a), v1] S h n = mx_gd (7 ≤ S a (-2) ∧ S a (-2) ≤ 7) d 99 44 [l0, l1, l2, l3, l4] [(0, h a 1), v1] S h n) ∧
  (∀ (d : Nat) (x : Int) (l0 l1 l2 l3 : Option mx_V) (v0 v1 : mx_V) (S h : mx_H) (n : Int), mx_ex d 99 44 [l0, l1, l2, l3, some (0, x)] [v0, v1] S h n = mx_ex d 99 46 [l0, l1, l2, l3, some (0, x)] [(0, x), v0, v1] S h n) ∧
  (∀ (d : Nat) (b a : Int) (l0 l1 l2 l3 l4 : Option mx_V) (v2 : mx_V) (S h : mx_H) (n : Int), mx_ex d 99 46 [l0, l1, l2, l3, l4] [(0, b), (0, a), v2] S h n = mx_ex d 99 47 [l0, l1, l2, l3, l4] [(0, mx_w (a + b)), v2] S h n) ∧
  (∀ (d : Nat) (x : Int) (l0 l2 l3 l4 : Option mx_V) (v0 v1 : mx_V) (S h : mx_H) (n : Int), mx_ex d 99 47 [l0, some (1, x), l2, l3, l4] [v0, v1] S h n = mx_ex d 99 48 [l0, some (1, x), l2, l3, l4] [(1, x), v0, v1] S h n) ∧
  (∀ (d : Nat) (l0 l1 l2 l3 l4 : Option mx_V) (v0 v1 v2 : mx_V) (S h : mx_H) (n : Int), mx_ex d 99 48 [l0, l1, l2, l3, l4] [v0, v1, v2] S h n = mx_ex d 99 50 [l0, l1, l2, l3, l4] [(0, 8), v0, v1, v2] S h n) ∧
  (∀ (d : Nat) (x : Int) (l0 l1 l2 l3 : Option mx_V) (v0 v1 v2 v3 : mx_V) (S h : mx_H) (n : Int), mx_ex d 99 50 [l0, l1, l2, l3, some (0, x)] [v0, v1, v2, v3] S h n = mx_ex d 99 52 [l0, l1, l2, l3, some (0, x)] [(0, x), v0, v1, v2, v3] S h n) ∧
  (∀ (d : Nat) (b a : Int) (l0 l1 l2 l3 l4 : Option mx_V) (v2 v3 v4 : mx_V) (S h : mx_H) (n : Int), mx_ex d 99 52 [l0, l1, l2, l3, l4] [(0, b), (0, a), v2, v3, v4] S h n = mx_ex d 99 53 [l0, l1, l2, l3, l4] [(0, mx_w (a * b)), v2, v3, v4] S h n) ∧
  (∀ (d : Nat) (b a : Int) (l0 l1 l2 l3 l4 : Option mx_V) (v2 v3 : mx_V) (S h : mx_H) (n : Int), mx_ex d 99 53 [l0, l1, l2, l3, l4] [(0, b), (1, a), v2, v3] S h n = mx_ex d 99 54 [l0, l1, l2, l3, l4] [(1, ml_ush a b), v2, v3] S h n) ∧
  (∀ (d : Nat) (a : Int) (l0 l1 l2 l3 l4 : Option mx_V) (v1 v2 : mx_V) (S h : mx_H) (n : Int), mx_ex d 99 54 [l0, l1, l2, l3, l4] [(1, a), v1, v2] S h n = mx_ex d 99 55 [l0, l1, l2, l3, l4] [(0, mx_w a), v1, v2] S h n) ∧
  (∀ (d : Nat) (l0 l1 l2 l3 l4 : Option mx_V) (v0 v1 v2 : mx_V) (S h : mx_H) (n : Int), mx_ex d 99 55 [l0, l1, l2, l3, l4] [v0, v1, v2] S h n = mx_ex d 99 58 [l0, l1, l2, l3, l4] [(0, 255), v0, v1, v2] S h n) ∧
  (∀ (d : Nat) (b a : Int) (l0 l1 l2 l3 l4 : Option mx_V) (v2 v3 : mx_V) (S h : mx_H) (n : Int), mx_ex d 99 58 [l0, l1, l2, l3, l4] [(0, b), (0, a), v2, v3] S h n = mx_ex d 99 59 [l0, l1, l2, l3, l4] [(0, mx_and a b), v2, v3] S h n) ∧
  (∀ (d : Nat) (v i a : Int) (l0 l1 l2 l3 l4 : Option mx_V) (S h : mx_H) (n : Int), mx_ex d 99 59 [l0, l1, l2, l3, l4] [(0, v), (0, i), (2, a)] S h n = mx_gd (S a (-2) = 20 ∧ 0 ≤ i ∧ i < S a (-1)) d 99 60 [l0, l1, l2, l3, l4] [] S (mx_u h a i v) n) ∧
  (∀ (d : Nat) (x : Int) (l0 l1 l2 l3 : Option mx_V) (S h : mx_H) (n : Int), mx_ex d 99 60 [l0, l1, l2, l3, some (0, x)] [] S h n = mx_ex d 99 63 [l0, l1, l2, mx_nl l3, some (0, mx_w (x + 1))] [] S h n) ∧
  (∀ (d : Nat) (l0 l1 l2 l3 l4 : Option mx_V) (S h : mx_H) (n : Int), mx_ex d 99 63 [l0, l1, l2, l3, l4] [] S h n = mx_ex d 99 30 [l0, l1, l2, l3, l4] [] S h n) ∧
  (∀ (d : Nat) (x : Int) (l1 l2 l3 l4 : Option mx_V) (S h : mx_H) (n : Int), mx_ex d 99 66 [some (2, x), l1, l2, l3, l4] [] S h n = mx_ex d 99 67 [some (2, x), l1, l2, l3, l4] [(2, x)] S h n) ∧
  (∀ (d : Nat) (a : Int) (l0 l1 l2 l3 l4 : Option mx_V) (S h : mx_H) (n : Int), mx_ex d 99 67 [l0, l1, l2, l3, l4] [(2, a)] S h n = mx_ex d 99 68 [l0, l1, l2, l3, l4] [(2, a), (2, a)] S h n) ∧
  (∀ (d : Nat) (a : Int) (l0 l1 l2 l3 l4 : Option mx_V) (v1 : mx_V) (S h : mx_H) (n : Int), mx_ex d 99 68 [l0, l1, l2, l3, l4] [(2, a), v1] S h n = mx_gd (7 ≤ S a (-2) ∧ S a (-2) ≤ 7) d 99 71 [l0, l1, l2, l3, l4] [(0, h a 1), v1] S h n) ∧
  (∀ (d : Nat) (x : Int) (l0 l1 l2 l4 : Option mx_V) (v0 v1 : mx_V) (S h : mx_H) (n : Int), mx_ex d 99 71 [l0, l1, l2, some (0, x), l4] [v0, v1] S h n = mx_ex d 99 72 [l0, l1, l2, some (0, x), l4] [(0, x), v0, v1] S h n) ∧
  (∀ (d : Nat) (b a : Int) (l0 l1 l2 l3 l4 : Option mx_V) (v2 : mx_V) (S h : mx_H) (n : Int), mx_ex d 99 72 [l0, l1, l2, l3, l4] [(0, b), (0, a), v2] S h n = mx_ex d 99 73 [l0, l1, l2, l3, l4] [(0, mx_w (a + b)), v2] S h n) ∧
  (∀ (d : Nat) (v a : Int) (l0 l1 l2 l3 l4 : Option mx_V) (S h : mx_H) (n : Int), mx_ex d 99 73 [l0, l1, l2, l3, l4] [(0, v), (2, a)] S h n = mx_gd (7 ≤ S a (-2) ∧ S a (-2) ≤ 7) d 99 76 [l0, l1, l2, l3, l4] [] S (mx_u h a 1 v) n) ∧
  (∀ (d : Nat) (x : Int) (l1 l2 l3 l4 : Option mx_V) (S h : mx_H) (n : Int), mx_ex d 99 76 [some (2, x), l1, l2, l3, l4] [] S h n = mx_ex d 99 77 [some (2, x), l1, l2, l3, l4] [(2, x)] S h n) ∧
  (∀ (d : Nat) (a : Int) (l0 l1 l2 l3 l4 : Option mx_V) (S h : mx_H) (n : Int), mx_ex d 99 77 [l0, l1, l2, l3, l4] [(2, a)] S h n = mx_gd (7 ≤ S a (-2) ∧ S a (-2) ≤ 7) d 99 80 [l0, l1, l2, l3, l4] [(0, h a 1)] S h n) ∧
  (∀ (d : Nat) (x : Int) (l0 l1 l2 l3 l4 : Option mx_V) (S h : mx_H) (n : Int), mx_ex d 99 80 [l0, l1, l2, l3, l4] [(0, x)] S h n = some (some (0, x), S, h, n)) :=
  ⟨by intros; exact rfl,
   by intros; exact eq_ld rfl rfl,
   by intros; exact eq_push rfl,
   by intros; exact eq_push rfl,
   by intros; exact eq_cs rfl (Nat.le_of_ble_eq_true rfl) rfl rfl rfl (Nat.le_of_ble_eq_true rfl),
   by intros; exact eq_if1 rfl,
   by intros; exact eq_push rfl,
   by intros; exact eq_ret rfl,
   by intros; exact eq_ld rfl rfl,
   by intros; exact eq_gi rfl,
   by intros; exact eq_ld rfl rfl,
   by intros; exact eq_i2 (o := mx_add) rfl,
   by intros; exact eq_push rfl,
   by intros; exact eq_ic5 rfl,
   by intros; exact eq_push rfl,
   by intros; exact eq_ret rfl,
   by intros; exact eq_push rfl,
   by intros; exact eq_st rfl (by decide) (Nat.le_of_ble_eq_true rfl) rfl,
   by intros; exact eq_ld rfl rfl,
   by intros; exact eq_ic3 rfl,
   by intros; exact eq_ld rfl rfl,
   by intros; exact eq_gr rfl,
   by intros; exact eq_ld rfl rfl,
   by intros; exact eq_gi rfl,
   by intros; exact eq_ld rfl rfl,
   by intros; exact eq_i2 (o := mx_add) rfl,
   by intros; exact eq_ld rfl rfl,
   by intros; exact eq_push rfl,
   by intros; exact eq_ld rfl rfl,
   by intros; exact eq_i2 (o := mx_mul) rfl,
   by intros; exact eq_ls (o := ml_ush) rfl,
   by intros; exact eq_l2i rfl,
   by intros; exact eq_push rfl,
   by intros; exact eq_i2 (o := mx_and) rfl,
   by intros; exact eq_iast rfl,
   by intros; exact eq_inc rfl rfl rfl,
   by intros; exact eq_go rfl,
   by intros; exact eq_ld rfl rfl,
   by intros; exact eq_dup rfl (by decide),
   by intros; exact eq_gi rfl,
   by intros; exact eq_ld rfl rfl,
   by intros; exact eq_i2 (o := mx_add) rfl,
   by intros; exact eq_pi rfl,
   by intros; exact eq_ld rfl rfl,
   by intros; exact eq_gi rfl,
   by intros; exact eq_ret rfl⟩
theorem rw_X11_valley :
  (∀ (d : Nat) (a0 : Int) (S h : mx_H) (n : Int), mx_M d 100 [(2, a0)] S h n = mx_ex d 100 0 [some (2, a0), none] [] S h n) ∧
  (∀ (d : Nat) (x : Int) (l1 : Option mx_V) (S h : mx_H) (n : Int), mx_ex d 100 0 [some (2, x), l1] [] S h n = mx_ex d 100 1 [some (2, x), l1] [(2, x)] S h n) ∧
  (∀ (d : Nat) (a : Int) (l0 l1 : Option mx_V) (S h : mx_H) (n : Int), mx_ex d 100 1 [l0, l1] [(2, a)] S h n = mx_gd (7 ≤ S a (-2) ∧ S a (-2) ≤ 7) d 100 4 [l0, l1] [(0, h a 1)] S h n) ∧
  (∀ (d : Nat) (x : Int) (l0 l1 : Option mx_V) (S h : mx_H) (n : Int), mx_ex d 100 4 [l0, l1] [(0, x)] S h n = mx_ex d 100 5 [mx_nl l0, some (0, x)] [] S h n) ∧
  (∀ (d : Nat) (x : Int) (l1 : Option mx_V) (S h : mx_H) (n : Int), mx_ex d 100 5 [some (2, x), l1] [] S h n = mx_ex d 100 6 [some (2, x), l1] [(2, x)] S h n) ∧
  (∀ (d : Nat) (l0 l1 : Option mx_V) (v0 : mx_V) (S h : mx_H) (n : Int), mx_ex d 100 6 [l0, l1] [v0] S h n = mx_ex d 100 7 [l0, l1] [(0, 0), v0] S h n) ∧
  (∀ (d : Nat) (v a : Int) (l0 l1 : Option mx_V) (S h : mx_H) (n : Int), mx_ex d 100 7 [l0, l1] [(0, v), (2, a)] S h n = mx_gd (7 ≤ S a (-2) ∧ S a (-2) ≤ 7) d 100 10 [l0, l1] [] S (mx_u h a 1 v) n) ∧
  (∀ (d : Nat) (x : Int) (l1 : Option mx_V) (S h : mx_H) (n : Int), mx_ex d 100 10 [some (2, x), l1] [] S h n = mx_ex d 100 11 [some (2, x), l1] [(2, x)] S h n) ∧
  (∀ (d : Nat) (a : Int) (l0 l1 : Option mx_V) (S h : mx_H) (n : Int), mx_ex d 100 11 [l0, l1] [(2, a)] S h n = mx_gd (7 ≤ S a (-2) ∧ S a (-2) ≤ 7) d 100 14 [l0, l1] [(2, S a 8)] S h n) ∧
  (∀ (d : Nat) (x : Int) (l1 : Option mx_V) (v0 : mx_V) (S h : mx_H) (n : Int), mx_ex d 100 14 [some (2, x), l1] [v0] S h n = mx_ex d 100 15 [some (2, x), l1] [(2, x), v0] S h n) ∧
  (∀ (d : Nat) (a : Int) (l0 l1 : Option mx_V) (v1 : mx_V) (S h : mx_H) (n : Int), mx_ex d 100 15 [l0, l1] [(2, a), v1] S h n = mx_gd (7 ≤ S a (-2) ∧ S a (-2) ≤ 7) d 100 18 [l0, l1] [(2, S a 0), v1] S h n) ∧
  (∀ (d : Nat) (x : Int) (l0 : Option mx_V) (v0 v1 : mx_V) (S h : mx_H) (n : Int), mx_ex d 100 18 [l0, some (0, x)] [v0, v1] S h n = mx_ex d 100 19 [l0, some (0, x)] [(0, x), v0, v1] S h n) ∧
  (∀ (d : Nat) (x0 x1 a : Int) (l0 l1 : Option mx_V) (S h : mx_H) (n : Int), mx_ex (d + 1) 100 19 [l0, l1] [(0, x0), (2, x1), (2, a)] S h n = mx_cl (S a (-2) = 10) d 60 [(2, a), (2, x1), (0, x0)] 100 22 [l0, l1] [] S h n) ∧
  (∀ (d : Nat) (a : Int) (l0 l1 : Option mx_V) (S h : mx_H) (n : Int), mx_ex d 100 22 [l0, l1] [(0, a)] S h n = mx_br (a = 0) d 100 25 36 [l0, l1] [] S h n) ∧
  (∀ (d : Nat) (l0 l1 : Option mx_V) (S h : mx_H) (n : Int), mx_ex d 100 25 [l0, l1] [] S h n = mx_ex d 100 27 [l0, l1] [(0, (-100))] S h n) ∧
  (∀ (d : Nat) (x : Int) (l1 : Option mx_V) (v0 : mx_V) (S h : mx_H) (n : Int), mx_ex d 100 27 [some (2, x), l1] [v0] S h n = mx_ex d 100 28 [some (2, x), l1] [(2, x), v0] S h n) ∧
  (∀ (d : Nat) (a : Int) (l0 l1 : Option mx_V) (v1 : mx_V) (S h : mx_H) (n : Int), mx_ex d 100 28 [l0, l1] [(2, a), v1] S h n = mx_gd (7 ≤ S a (-2) ∧ S a (-2) ≤ 7) d 100 31 [l0, l1] [(2, S a 8), v1] S h n) ∧
  (∀ (d : Nat) (a : Int) (l0 l1 : Option mx_V) (v1 : mx_V) (S h : mx_H) (n : Int), mx_ex d 100 31 [l0, l1] [(2, a), v1] S h n = mx_gd (10 ≤ S a (-2) ∧ S a (-2) ≤ 10) d 100 34 [l0, l1] [(0, h a 1), v1] S h n) ∧
  (∀ (d : Nat) (b a : Int) (l0 l1 : Option mx_V) (S h : mx_H) (n : Int), mx_ex d 100 34 [l0, l1] [(0, b), (0, a)] S h n = mx_ex d 100 35 [l0, l1] [(0, mx_w (a - b))] S h n) ∧
  (∀ (d : Nat) (x : Int) (l0 l1 : Option mx_V) (S h : mx_H) (n : Int), mx_ex d 100 35 [l0, l1] [(0, x)] S h n = some (some (0, x), S, h, n)) ∧
  (∀ (d : Nat) (x : Int) (l1 : Option mx_V) (S h : mx_H) (n : Int), mx_ex d 100 36 [some (2, x), l1] [] S h n = mx_ex d 100 37 [some (2, x), l1] [(2, x)] S h n) ∧
  (∀ (d : Nat) (a : Int) (l0 l1 : Option mx_V) (S h : mx_H) (n : Int), mx_ex d 100 37 [l0, l1] [(2, a)] S h n = mx_gd (7 ≤ S a (-2) ∧ S a (-2) ≤ 7) d 100 40 [l0, l1] [(2, S a 3)] S h n) ∧
  (∀ (d : Nat) (x : Int) (l1 : Option mx_V) (v0 : mx_V) (S h : mx_H) (n : Int), mx_ex d 100 40 [some (2, x), l1] [v0] S h n = mx_ex d 100 41 [some (2, x), l1] [(2, x), v0] S h n) ∧
  (∀ (d : Nat) (a : Int) (l0 l1 : Option mx_V) (v1 : mx_V) (S h : mx_H) (n : Int), mx_ex d 100 41 [l0, l1] [(2, a), v1] S h n = mx_gd (7 ≤ S a (-2) ∧ S a (-2) ≤ 7) d 100 44 [l0, l1] [(2, S a 8), v1] S h n) ∧
  (∀ (d : Nat) (a : Int) (l0 l1 : Option mx_V) (v1 : mx_V) (S h : mx_H) (n : Int), mx_ex d 100 44 [l0, l1] [(2, a), v1] S h n = mx_gd (10 ≤ S a (-2) ∧ S a (-2) ≤ 10) d 100 47 [l0, l1] [(2, S a 0), v1] S h n) ∧
  (∀ (d : Nat) (x0 a : Int) (l0 l1 : Option mx_V) (S h : mx_H) (n : Int), mx_ex (d + 1) 100 47 [l0, l1] [(2, x0), (2, a)] S h n = mx_cl (S a (-2) = 8) d 86 [(2, a), (2, x0)] 100 50 [l0, l1] [] S h n) ∧
  (∀ (d : Nat) (x : Int) (l1 : Option mx_V) (S h : mx_H) (n : Int), mx_ex d 100 50 [some (2, x), l1] [] S h n = mx_ex d 100 51 [some (2, x), l1] [(2, x)] S h n) ∧
  (∀ (d : Nat) (l0 l1 : Option mx_V) (v0 : mx_V) (S h : mx_H) (n : Int), mx_ex d 100 51 [l0, l1] [v0] S h n = mx_ex d 100 52 [l0, l1] [(0, 0), v0] S h n) ∧
  (∀ (d : Nat) (v a : Int) (l0 l1 : Option mx_V) (S h : mx_H) (n : Int), mx_ex d 100 52 [l0, l1] [(0, v), (2, a)] S h n = mx_gd (7 ≤ S a (-2) ∧ S a (-2) ≤ 7) d 100 55 [l0, l1] [] S (mx_u h a 10 v) n) ∧
  (∀ (d : Nat) (x : Int) (l1 : Option mx_V) (S h : mx_H) (n : Int), mx_ex d 100 55 [some (2, x), l1] [] S h n = mx_ex d 100 56 [some (2, x), l1] [(2, x)] S h n) ∧
  (∀ (d : Nat) (a : Int) (l0 l1 : Option mx_V) (S h : mx_H) (n : Int), mx_ex d 100 56 [l0, l1] [(2, a)] S h n = mx_gd (7 ≤ S a (-2) ∧ S a (-2) ≤ 7) d 100 59 [l0, l1] [(2, S a 3)] S h n) ∧
  (∀ (d : Nat) (a : Int) (l0 l1 : Option mx_V) (S h : mx_H) (n : Int), mx_ex d 100 59 [l0, l1] [(2, a)] S h n = mx_gd (8 ≤ S a (-2) ∧ S a (-2) ≤ 8) d 100 62 [l0, l1] [(0, h a 3)] S h n) ∧
  (∀ (d : Nat) (x : Int) (l0 l1 : Option mx_V) (S h : mx_H) (n : Int), mx_ex d 100 62 [l0, l1] [(0, x)] S h n = some (some (0, x), S, h, n)) :=
  ⟨by intros; exact rfl,
   by intros; exact eq_ld rfl rfl,
   by intros; exact eq_gi rfl,
   by intros; exact eq_st rfl (by decide) (Nat.le_of_ble_eq_true rfl) rfl,
   by intros; exact eq_ld rfl rfl,
   by intros; exact eq_push rfl,
   by intros; exact eq_pi rfl,
   by intros; exact eq_ld rfl rfl,
   by intros; exact eq_gr rfl,
   by intros; exact eq_ld rfl rfl,
   by intros; exact eq_gr rfl,
   by intros; exact eq_ld rfl rfl,
   by intros; exact eq_cv rfl (Nat.le_of_ble_eq_true rfl) rfl rfl rfl (Nat.le_of_ble_eq_true rfl),
   by intros; exact eq_if1 rfl,
   by intros; exact eq_push rfl,
   by intros; exact eq_ld rfl rfl,
   by intros; exact eq_gr rfl,
   by intros; exact eq_gi rfl,
   by intros; exact eq_i2 (o := mx_sub) rfl,
   by intros; exact eq_ret rfl,
   by intros; exact eq_ld rfl rfl,
   by intros; exact eq_gr rfl,
   by intros; exact eq_ld rfl rfl,
   by intros; exact eq_gr rfl,
   by intros; exact eq_gr rfl,
   by intros; exact eq_cv rfl (Nat.le_of_ble_eq_true rfl) rfl rfl rfl (Nat.le_of_ble_eq_true rfl),
   by intros; exact eq_ld rfl rfl,
   by intros; exact eq_push rfl,
   by intros; exact eq_pi rfl,
   by intros; exact eq_ld rfl rfl,
   by intros; exact eq_gr rfl,
   by intros; exact eq_gi rfl,
   by intros; exact eq_ret rfl⟩
theorem rw_X11_evening :
  (∀ (d : Nat) (a0 a1 a2 a3 : Int) (S h : mx_H) (n : Int), mx_M d 101 [(2, a0), (0, a1), (0, a2), (0, a3)] S h n = mx_ex d 101 0 [some (2, a0), some (0, a1), some (0, a2), some (0, a3)] [] S h n) ∧
  (∀ (d : Nat) (x : Int) (l0 l2 l3 : Option mx_V) (S h : mx_H) (n : Int), mx_ex d 101 0 [l0, some (0, x), l2, l3] [] S h n = mx_ex d 101 1 [l0, some (0, x), l2, l3] [(0, x)] S h n) ∧
  (∀ (d : Nat) (x0 : Int) (l0 l1 l2 l3 : Option mx_V) (S h : mx_H) (n : Int), mx_ex (d + 1) 101 1 [l0, l1, l2, l3] [(0, x0)] S h n = mx_rt (mx_M d 146 [(0, x0)] S h n) (d + 1) 101 4 [l0, l1, l2, l3] []) ∧
  (∀ (d : Nat) (a : Int) (l0 l1 l2 l3 : Option mx_V) (S h : mx_H) (n : Int), mx_ex d 101 4 [l0, l1, l2, l3] [(0, a)] S h n = mx_br (a = 0) d 101 26 7 [l0, l1, l2, l3] [] S h n) ∧
  (∀ (d : Nat) (x : Int) (l0 l1 l3 : Option mx_V) (S h : mx_H) (n : Int), mx_ex d 101 7 [l0, l1, some (0, x), l3] [] S h n = mx_ex d 101 8 [l0, l1, some (0, x), l3] [(0, x)] S h n) ∧
  (∀ (d : Nat) (x0 : Int) (l0 l1 l2 l3 : Option mx_V) (S h : mx_H) (n : Int), mx_ex (d + 1) 101 8 [l0, l1, l2, l3] [(0, x0)] S h n = mx_rt (mx_M d 147 [(0, x0)] S h n) (d + 1) 101 11 [l0, l1, l2, l3] []) ∧
  (∀ (d : Nat) (a : Int) (l0 l1 l2 l3 : Option mx_V) (S h : mx_H) (n : Int), mx_ex d 101 11 [l0, l1, l2, l3] [(0, a)] S h n = mx_br (a = 0) d 101 26 14 [l0, l1, l2, l3] [] S h n) ∧
  (∀ (d : Nat) (x : Int) (l0 l1 l2 : Option mx_V) (S h : mx_H) (n : Int), mx_ex d 101 14 [l0, l1, l2, some (0, x)] [] S h n = mx_ex d 101 15 [l0, l1, l2, some (0, x)] [(0, x)] S h n) ∧
  (∀ (d : Nat) (x0 : Int) (l0 l1 l2 l3 : Option mx_V) (S h : mx_H) (n : Int), mx_ex (d + 1) 101 15 [l0, l1, l2, l3] [(0, x0)] S h n = mx_rt (mx_M d 147 [(0, x0)] S h n) (d + 1) 101 18 [l0, l1, l2, l3] []) ∧
  (∀ (d : Nat) (a : Int) (l0 l1 l2 l3 : Option mx_V) (S h : mx_H) (n : Int), mx_ex d 101 18 [l0, l1, l2, l3] [(0, a)] S h n = mx_br (a = 0) d 101 26 21 [l0, l1, l2, l3] [] S h n) ∧
  (∀ (d : Nat) (x : Int) (l0 l1 l2 : Option mx_V) (S h : mx_H) (n : Int), mx_ex d 101 21 [l0, l1, l2, some (0, x)] [] S h n = mx_ex d 101 22 [l0, l1, l2, some (0, x)] [(0, x)] S h n) ∧
  (∀ (d : Nat) (x : Int) (l0 l1 l3 : Option mx_V) (v0 : mx_V) (S h : mx_H) (n : Int), mx_ex d 101 22 [l0, l1, some (0, x), l3] [v0] S h n = mx_ex d 101 23 [l0, l1, some (0, x), l3] [(0, x), v0] S h n) ∧
  (∀ (d : Nat) (b a : Int) (l0 l1 l2 l3 : Option mx_V) (S h : mx_H) (n : Int), mx_ex d 101 23 [l0, l1, l2, l3] [(0, b), (0, a)] S h n = mx_br (a < b) d 101 26 28 [l0, l1, l2, l3] [] S h n) ∧
  (∀ (d : Nat) (l0 l1 l2 l3 : Option mx_V) (S h : mx_H) (n : Int), mx_ex d 101 26 [l0, l1, l2, l3] [] S h n = mx_ex d 101 27 [l0, l1, l2, l3] [(0, (-1))] S h n) ∧
  (∀ (d : Nat) (x : Int) (l0 l1 l2 l3 : Option mx_V) (S h : mx_H) (n : Int), mx_ex d 101 27 [l0, l1, l2, l3] [(0, x)] S h n = some (some (0, x), S, h, n)) ∧
  (∀ (d : Nat) (x : Int) (l1 l2 l3 : Option mx_V) (S h : mx_H) (n : Int), mx_ex d 101 28 [some (2, x), l1, l2, l3] [] S h n = mx_ex d 101 29 [some (2, x), l1, l2, l3] [(2, x)] S h n) ∧
  (∀ (d : Nat) (a : Int) (l0 l1 l2 l3 : Option mx_V) (S h : mx_H) (n : Int), mx_ex d 101 29 [l0, l1, l2, l3] [(2, a)] S h n = mx_gd (7 ≤ S a (-2) ∧ S a (-2) ≤ 7) d 101 32 [l0, l1, l2, l3] [(2, S a 3)] S h n) ∧
  (∀ (d : Nat) (x : Int) (l0 l2 l3 : Option mx_V) (v0 : mx_V) (S h : mx_H) (n : Int), mx_ex d 101 32 [l0, some (0, x), l2, l3] [v0] S h n = mx_ex d 101 33 [l0, some (0, x), l2, l3] [(0, x), v0] S h n) ∧
  (∀ (d : Nat) (x : Int) (l0 l1 l3 : Option mx_V) (v0 v1 : mx_V) (S h : mx_H) (n : Int), mx_ex d 101 33 [l0, l1, some (0, x), l3] [v0, v1] S h n = mx_ex d 101 34 [l0, l1, some (0, x), l3] [(0, x), v0, v1] S h n) ∧
  (∀ (d : Nat) (x : Int) (l0 l1 l2 : Option mx_V) (v0 v1 v2 : mx_V) (S h : mx_H) (n : Int), mx_ex d 101 34 [l0, l1, l2, some (0, x)] [v0, v1, v2] S h n = mx_ex d 101 35 [l0, l1, l2, some (0, x)] [(0, x), v0, v1, v2] S h n) ∧
  (∀ (d : Nat) (x0 x1 x2 a : Int) (l0 l1 l2 l3 : Option mx_V) (S h : mx_H) (n : Int), mx_ex (d + 1) 101 35 [l0, l1, l2, l3] [(0, x0), (0, x1), (0, x2), (2, a)] S h n = mx_cl (S a (-2) = 8) d 87 [(2, a), (0, x2), (0, x1), (0, x0)] 101 38 [l0, l1, l2, l3] [] S h n) ∧
  (∀ (d : Nat) (l0 l1 l2 l3 : Option mx_V) (S h : mx_H) (n : Int), mx_ex d 101 38 [l0, l1, l2, l3] [] S h n = mx_ex d 101 39 [l0, l1, l2, l3] [(0, 1)] S h n) ∧
  (∀ (d : Nat) (x : Int) (l0 l1 l2 l3 : Option mx_V) (S h : mx_H) (n : Int), mx_ex d 101 39 [l0, l1, l2, l3] [(0, x)] S h n = some (some (0, x), S, h, n)) :=
  ⟨by intros; exact rfl,
   by intros; exact eq_ld rfl rfl,
   by intros; exact eq_cs rfl (Nat.le_of_ble_eq_true rfl) rfl rfl rfl (Nat.le_of_ble_eq_true rfl),
   by intros; exact eq_if0 rfl,
   by intros; exact eq_ld rfl rfl,
   by intros; exact eq_cs rfl (Nat.le_of_ble_eq_true rfl) rfl rfl rfl (Nat.le_of_ble_eq_true rfl),
   by intros; exact eq_if0 rfl,
   by intros; exact eq_ld rfl rfl,
   by intros; exact eq_cs rfl (Nat.le_of_ble_eq_true rfl) rfl rfl rfl (Nat.le_of_ble_eq_true rfl),
   by intros; exact eq_if0 rfl,
   by intros; exact eq_ld rfl rfl,
   by intros; exact eq_ld rfl rfl,
   by intros; exact eq_ic3 rfl,
   by intros; exact eq_push rfl,
   by intros; exact eq_ret rfl,
   by intros; exact eq_ld rfl rfl,
   by intros; exact eq_gr rfl,
   by intros; exact eq_ld rfl rfl,
   by intros; exact eq_ld rfl rfl,
   by intros; exact eq_ld rfl rfl,
   by intros; exact eq_cv rfl (Nat.le_of_ble_eq_true rfl) rfl rfl rfl (Nat.le_of_ble_eq_true rfl),
   by intros; exact eq_push rfl,
   by intros; exact eq_ret rfl⟩
theorem rw_X11_eveningOf :
  (∀ (d : Nat) (a0 a1 a2 : Int) (S h : mx_H) (n : Int), mx_M d 102 [(2, a0), (0, a1), (0, a2)] S h n = mx_ex d 102 0 [some (2, a0), some (0, a1), some (0, a2)] [] S h n) ∧
  (∀ (d : Nat) (x : Int) (l0 l2 : Option mx_V) (S h : mx_H) (n : Int), mx_ex d 102 0 [l0, some (0, x), l2] [] S h n = mx_ex d 102 1 [l0, some (0, x), l2] [(0, x)] S h n) ∧
  (∀ (d : Nat) (x0 : Int) (l0 l1 l2 : Option mx_V) (S h : mx_H) (n : Int), mx_ex (d + 1) 102 1 [l0, l1, l2] [(0, x0)] S h n = mx_rt (mx_M d 146 [(0, x0)] S h n) (d + 1) 102 4 [l0, l1, l2] []) ∧
  (∀ (d : Nat) (a : Int) (l0 l1 l2 : Option mx_V) (S h : mx_H) (n : Int), mx_ex d 102 4 [l0, l1, l2] [(0, a)] S h n = mx_br (a = 0) d 102 7 9 [l0, l1, l2] [] S h n) ∧
  (∀ (d : Nat) (l0 l1 l2 : Option mx_V) (S h : mx_H) (n : Int), mx_ex d 102 7 [l0, l1, l2] [] S h n = mx_ex d 102 8 [l0, l1, l2] [(0, (-1))] S h n) ∧
  (∀ (d : Nat) (x : Int) (l0 l1 l2 : Option mx_V) (S h : mx_H) (n : Int), mx_ex d 102 8 [l0, l1, l2] [(0, x)] S h n = some (some (0, x), S, h, n)) ∧
  (∀ (d : Nat) (x : Int) (l0 l1 : Option mx_V) (S h : mx_H) (n : Int), mx_ex d 102 9 [l0, l1, some (0, x)] [] S h n = mx_ex d 102 10 [l0, l1, some (0, x)] [(0, x)] S h n) ∧
  (∀ (d : Nat) (a : Int) (l0 l1 l2 : Option mx_V) (S h : mx_H) (n : Int), mx_ex d 102 10 [l0, l1, l2] [(0, a)] S h n = mx_sw a [(0, 36), (1, 46), (2, 56)] d 102 65 [l0, l1, l2] [] S h n) ∧
  (∀ (d : Nat) (x : Int) (l1 l2 : Option mx_V) (S h : mx_H) (n : Int), mx_ex d 102 36 [some (2, x), l1, l2] [] S h n = mx_ex d 102 37 [some (2, x), l1, l2] [(2, x)] S h n) ∧
  (∀ (d : Nat) (a : Int) (l0 l1 l2 : Option mx_V) (S h : mx_H) (n : Int), mx_ex d 102 37 [l0, l1, l2] [(2, a)] S h n = mx_gd (7 ≤ S a (-2) ∧ S a (-2) ≤ 7) d 102 40 [l0, l1, l2] [(2, S a 3)] S h n) ∧
  (∀ (d : Nat) (a : Int) (l0 l1 l2 : Option mx_V) (S h : mx_H) (n : Int), mx_ex d 102 40 [l0, l1, l2] [(2, a)] S h n = mx_gd (8 ≤ S a (-2) ∧ S a (-2) ≤ 8) d 102 43 [l0, l1, l2] [(2, S a 0)] S h n) ∧
  (∀ (d : Nat) (x : Int) (l0 l2 : Option mx_V) (v0 : mx_V) (S h : mx_H) (n : Int), mx_ex d 102 43 [l0, some (0, x), l2] [v0] S h n = mx_ex d 102 44 [l0, some (0, x), l2] [(0, x), v0] S h n) ∧
  (∀ (d : Nat) (i a : Int) (l0 l1 l2 : Option mx_V) (S h : mx_H) (n : Int), mx_ex d 102 44 [l0, l1, l2] [(0, i), (2, a)] S h n = mx_gd ((S a (-2) = 20 ∨ S a (-2) = 24) ∧ 0 ≤ i ∧ i < S a (-1)) d 102 45 [l0, l1, l2] [(0, h a i)] S h n) ∧
  (∀ (d : Nat) (x : Int) (l0 l1 l2 : Option mx_V) (S h : mx_H) (n : Int), mx_ex d 102 45 [l0, l1, l2] [(0, x)] S h n = some (some (0, x), S, h, n)) ∧
  (∀ (d : Nat) (x : Int) (l1 l2 : Option mx_V) (S h : mx_H) (n : Int), mx_ex d 102 46 [some (2, x), l1, l2] [] S h n = mx_ex d 102 47 [some (2, x), l1, l2] [(2, x)] S h n) ∧
  (∀ (d : Nat) (a : Int) (l0 l1 l2 : Option mx_V) (S h : mx_H) (n : Int), mx_ex d 102 47 [l0, l1, l2] [(2, a)] S h n = mx_gd (7 ≤ S a (-2) ∧ S a (-2) ≤ 7) d 102 50 [l0, l1, l2] [(2, S a 3)] S h n) ∧
  (∀ (d : Nat) (a : Int) (l0 l1 l2 : Option mx_V) (S h : mx_H) (n : Int), mx_ex d 102 50 [l0, l1, l2] [(2, a)] S h n = mx_gd (8 ≤ S a (-2) ∧ S a (-2) ≤ 8) d 102 53 [l0, l1, l2] [(2, S a 1)] S h n) ∧
  (∀ (d : Nat) (x : Int) (l0 l2 : Option mx_V) (v0 : mx_V) (S h : mx_H) (n : Int), mx_ex d 102 53 [l0, some (0, x), l2] [v0] S h n = mx_ex d 102 54 [l0, some (0, x), l2] [(0, x), v0] S h n) ∧
  (∀ (d : Nat) (i a : Int) (l0 l1 l2 : Option mx_V) (S h : mx_H) (n : Int), mx_ex d 102 54 [l0, l1, l2] [(0, i), (2, a)] S h n = mx_gd ((S a (-2) = 20 ∨ S a (-2) = 24) ∧ 0 ≤ i ∧ i < S a (-1)) d 102 55 [l0, l1, l2] [(0, h a i)] S h n) ∧
  (∀ (d : Nat) (x : Int) (l0 l1 l2 : Option mx_V) (S h : mx_H) (n : Int), mx_ex d 102 55 [l0, l1, l2] [(0, x)] S h n = some (some (0, x), S, h, n)) ∧
  (∀ (d : Nat) (x : Int) (l1 l2 : Option mx_V) (S h : mx_H) (n : Int), mx_ex d 102 56 [some (2, x), l1, l2] [] S h n = mx_ex d 102 57 [some (2, x), l1, l2] [(2, x)] S h n) ∧
  (∀ (d : Nat) (a : Int) (l0 l1 l2 : Option mx_V) (S h : mx_H) (n : Int), mx_ex d 102 57 [l0, l1, l2] [(2, a)] S h n = mx_gd (7 ≤ S a (-2) ∧ S a (-2) ≤ 7) d 102 60 [l0, l1, l2] [(2, S a 3)] S h n) ∧
  (∀ (d : Nat) (x : Int) (l0 l2 : Option mx_V) (v0 : mx_V) (S h : mx_H) (n : Int), mx_ex d 102 60 [l0, some (0, x), l2] [v0] S h n = mx_ex d 102 61 [l0, some (0, x), l2] [(0, x), v0] S h n) ∧
  (∀ (d : Nat) (x0 a : Int) (l0 l1 l2 : Option mx_V) (S h : mx_H) (n : Int), mx_ex (d + 1) 102 61 [l0, l1, l2] [(0, x0), (2, a)] S h n = mx_cl (S a (-2) = 8) d 88 [(2, a), (0, x0)] 102 64 [l0, l1, l2] [] S h n) ∧
  (∀ (d : Nat) (x : Int) (l0 l1 l2 : Option mx_V) (S h : mx_H) (n : Int), mx_ex d 102 64 [l0, l1, l2] [(0, x)] S h n = some (some (0, x), S, h, n)) ∧
  (∀ (d : Nat) (l0 l1 l2 : Option mx_V) (S h : mx_H) (n : Int), mx_ex d 102 65 [l0, l1, l2] [] S h n = mx_ex d 102 66 [l0, l1, l2] [(0, (-1))] S h n) ∧
  (∀ (d : Nat) (x : Int) (l0 l1 l2 : Option mx_V) (S h : mx_H) (n : Int), mx_ex d 102 66 [l0, l1, l2] [(0, x)] S h n = some (some (0, x), S, h, n)) :=
  ⟨by intros; exact rfl,
   by intros; exact eq_ld rfl rfl,
   by intros; exact eq_cs rfl (Nat.le_of_ble_eq_true rfl) rfl rfl rfl (Nat.le_of_ble_eq_true rfl),
   by intros; exact eq_if1 rfl,
   by intros; exact eq_push rfl,
   by intros; exact eq_ret rfl,
   by intros; exact eq_ld rfl rfl,
   by intros; exact eq_sw rfl,
   by intros; exact eq_ld rfl rfl,
   by intros; exact eq_gr rfl,
   by intros; exact eq_gr rfl,
   by intros; exact eq_ld rfl rfl,
   by intros; exact eq_iald rfl,
   by intros; exact eq_ret rfl,
   by intros; exact eq_ld rfl rfl,
   by intros; exact eq_gr rfl,
   by intros; exact eq_gr rfl,
   by intros; exact eq_ld rfl rfl,
   by intros; exact eq_iald rfl,
   by intros; exact eq_ret rfl,
   by intros; exact eq_ld rfl rfl,
   by intros; exact eq_gr rfl,
   by intros; exact eq_ld rfl rfl,
   by intros; exact eq_cv rfl (Nat.le_of_ble_eq_true rfl) rfl rfl rfl (Nat.le_of_ble_eq_true rfl),
   by intros; exact eq_ret rfl,
   by intros; exact eq_push rfl,
   by intros; exact eq_ret rfl⟩
theorem rh_X11_note_70 : ∀ (d : Nat) (x : Int) (l0 l1 l2 l3 l4 l5 l6 : Option mx_V) (S h : mx_H) (n : Int), mx_ex d 103 70 [l0, l1, l2, l3, l4, l5, l6, some (0, x)] [] S h n = mx_ex d 103 72 [l0, l1, l2, l3, l4, l5, l6, some (0, x)] [(0, x)] S h n := by intros; exact eq_ld rfl rfl
theorem rw_X11_note :
  (∀ (d : Nat) (a0 a1 a2 a3 a4 a5 : Int) (S h : mx_H) (n : Int), mx_M d 103 [(2, a0), (0, a1), (0, a2), (0, a3), (0, a4), (0, a5)] S h n = mx_ex d 103 0 [some (2, a0), some (0, a1), some (0, a2), some (0, a3), some (0, a4), some (0, a5), none, none] [] S h n) ∧
  (∀ (d : Nat) (x : Int) (l0 l2 l3 l4 l5 l6 l7 : Option mx_V) (S h : mx_H) (n : Int), mx_ex d 103 0 [l0, some (0, x), l2, l3, l4, l5, l6, l7] [] S h n = mx_ex d 103 1 [l0, some (0, x), l2, l3, l4, l5, l6, l7] [(0, x)] S h n) ∧
  (∀ (d : Nat) (l0 l1 l2 l3 l4 l5 l6 l7 : Option mx_V) (v0 : mx_V) (S h : mx_H) (n : Int), mx_ex d 103 1 [l0, l1, l2, l3, l4, l5, l6, l7] [v0] S h n = mx_ex d 103 2 [l0, l1, l2, l3, l4, l5, l6, l7] [(0, 0), v0] S h n) ∧
  (∀ (d : Nat) (l0 l1 l2 l3 l4 l5 l6 l7 : Option mx_V) (v0 v1 : mx_V) (S h : mx_H) (n : Int), mx_ex d 103 2 [l0, l1, l2, l3, l4, l5, l6, l7] [v0, v1] S h n = mx_ex d 103 3 [l0, l1, l2, l3, l4, l5, l6, l7] [(0, 5), v0, v1] S h n) ∧
  (∀ (d : Nat) (x0 x1 x2 : Int) (l0 l1 l2 l3 l4 l5 l6 l7 : Option mx_V) (S h : mx_H) (n : Int), mx_ex (d + 1) 103 3 [l0, l1, l2, l3, l4, l5, l6, l7] [(0, x0), (0, x1), (0, x2)] S h n = mx_rt (mx_M d 145 [(0, x2), (0, x1), (0, x0)] S h n) (d + 1) 103 6 [l0, l1, l2, l3, l4, l5, l6, l7] []) ∧
  (∀ (d : Nat) (a : Int) (l0 l1 l2 l3 l4 l5 l6 l7 : Option mx_V) (S h : mx_H) (n : Int), mx_ex d 103 6 [l0, l1, l2, l3, l4, l5, l6, l7] [(0, a)] S h n = mx_br (a = 0) d 103 26 9 [l0, l1, l2, l3, l4, l5, l6, l7] [] S h n) ∧
  (∀ (d : Nat) (x : Int) (l0 l1 l3 l4 l5 l6 l7 : Option mx_V) (S h : mx_H) (n : Int), mx_ex d 103 9 [l0, l1, some (0, x), l3, l4, l5, l6, l7] [] S h n = mx_ex d 103 10 [l0, l1, some (0, x), l3, l4, l5, l6, l7] [(0, x)] S h n) ∧
  (∀ (d : Nat) (x0 : Int) (l0 l1 l2 l3 l4 l5 l6 l7 : Option mx_V) (S h : mx_H) (n : Int), mx_ex (d + 1) 103 10 [l0, l1, l2, l3, l4, l5, l6, l7] [(0, x0)] S h n = mx_rt (mx_M d 146 [(0, x0)] S h n) (d + 1) 103 13 [l0, l1, l2, l3, l4, l5, l6, l7] []) ∧
  (∀ (d : Nat) (a : Int) (l0 l1 l2 l3 l4 l5 l6 l7 : Option mx_V) (S h : mx_H) (n : Int), mx_ex d 103 13 [l0, l1, l2, l3, l4, l5, l6, l7] [(0, a)] S h n = mx_br (a = 0) d 103 26 16 [l0, l1, l2, l3, l4, l5, l6, l7] [] S h n) ∧
  (∀ (d : Nat) (x : Int) (l0 l1 l2 l4 l5 l6 l7 : Option mx_V) (S h : mx_H) (n : Int), mx_ex d 103 16 [l0, l1, l2, some (0, x), l4, l5, l6, l7] [] S h n = mx_ex d 103 17 [l0, l1, l2, some (0, x), l4, l5, l6, l7] [(0, x)] S h n) ∧
  (∀ (d : Nat) (l0 l1 l2 l3 l4 l5 l6 l7 : Option mx_V) (v0 : mx_V) (S h : mx_H) (n : Int), mx_ex d 103 17 [l0, l1, l2, l3, l4, l5, l6, l7] [v0] S h n = mx_ex d 103 18 [l0, l1, l2, l3, l4, l5, l6, l7] [(0, 0), v0] S h n) ∧
  (∀ (d : Nat) (l0 l1 l2 l3 l4 l5 l6 l7 : Option mx_V) (v0 v1 : mx_V) (S h : mx_H) (n : Int), mx_ex d 103 18 [l0, l1, l2, l3, l4, l5, l6, l7] [v0, v1] S h n = mx_ex d 103 20 [l0, l1, l2, l3, l4, l5, l6, l7] [(0, 6), v0, v1] S h n) ∧
  (∀ (d : Nat) (x0 x1 x2 : Int) (l0 l1 l2 l3 l4 l5 l6 l7 : Option mx_V) (S h : mx_H) (n : Int), mx_ex (d + 1) 103 20 [l0, l1, l2, l3, l4, l5, l6, l7] [(0, x0), (0, x1), (0, x2)] S h n = mx_rt (mx_M d 145 [(0, x2), (0, x1), (0, x0)] S h n) (d + 1) 103 23 [l0, l1, l2, l3, l4, l5, l6, l7] []) ∧
  (∀ (d : Nat) (a : Int) (l0 l1 l2 l3 l4 l5 l6 l7 : Option mx_V) (S h : mx_H) (n : Int), mx_ex d 103 23 [l0, l1, l2, l3, l4, l5, l6, l7] [(0, a)] S h n = mx_br (a = 0) d 103 26 28 [l0, l1, l2, l3, l4, l5, l6, l7] [] S h n) ∧
  (∀ (d : Nat) (l0 l1 l2 l3 l4 l5 l6 l7 : Option mx_V) (S h : mx_H) (n : Int), mx_ex d 103 26 [l0, l1, l2, l3, l4, l5, l6, l7] [] S h n = mx_ex d 103 27 [l0, l1, l2, l3, l4, l5, l6, l7] [(0, (-1))] S h n) ∧
  (∀ (d : Nat) (x : Int) (l0 l1 l2 l3 l4 l5 l6 l7 : Option mx_V) (S h : mx_H) (n : Int), mx_ex d 103 27 [l0, l1, l2, l3, l4, l5, l6, l7] [(0, x)] S h n = some (some (0, x), S, h, n)) ∧
  (∀ (d : Nat) (x : Int) (l0 l1 l2 l3 l5 l6 l7 : Option mx_V) (S h : mx_H) (n : Int), mx_ex d 103 28 [l0, l1, l2, l3, some (0, x), l5, l6, l7] [] S h n = mx_ex d 103 30 [l0, l1, l2, l3, some (0, x), l5, l6, l7] [(0, x)] S h n) ∧
  (∀ (d : Nat) (l0 l1 l2 l3 l4 l5 l6 l7 : Option mx_V) (v0 : mx_V) (S h : mx_H) (n : Int), mx_ex d 103 30 [l0, l1, l2, l3, l4, l5, l6, l7] [v0] S h n = mx_ex d 103 31 [l0, l1, l2, l3, l4, l5, l6, l7] [(0, 1), v0] S h n) ∧
  (∀ (d : Nat) (l0 l1 l2 l3 l4 l5 l6 l7 : Option mx_V) (v0 v1 : mx_V) (S h : mx_H) (n : Int), mx_ex d 103 31 [l0, l1, l2, l3, l4, l5, l6, l7] [v0, v1] S h n = mx_ex d 103 33 [l0, l1, l2, l3, l4, l5, l6, l7] [(0, 6), v0, v1] S h n) ∧
  (∀ (d : Nat) (x0 x1 x2 : Int) (l0 l1 l2 l3 l4 l5 l6 l7 : Option mx_V) (S h : mx_H) (n : Int), mx_ex (d + 1) 103 33 [l0, l1, l2, l3, l4, l5, l6, l7] [(0, x0), (0, x1), (0, x2)] S h n = mx_rt (mx_M d 145 [(0, x2), (0, x1), (0, x0)] S h n) (d + 1) 103 36 [l0, l1, l2, l3, l4, l5, l6, l7] []) ∧
  (∀ (d : Nat) (a : Int) (l0 l1 l2 l3 l4 l5 l6 l7 : Option mx_V) (S h : mx_H) (n : Int), mx_ex d 103 36 [l0, l1, l2, l3, l4, l5, l6, l7] [(0, a)] S h n = mx_br (a = 0) d 103 44 39 [l0, l1, l2, l3, l4, l5, l6, l7] [] S h n) ∧
  (∀ (d : Nat) (x : Int) (l0 l1 l2 l3 l4 l6 l7 : Option mx_V) (S h : mx_H) (n : Int), mx_ex d 103 39 [l0, l1, l2, l3, l4, some (0, x), l6, l7] [] S h n = mx_ex d 103 41 [l0, l1, l2, l3, l4, some (0, x), l6, l7] [(0, x)] S h n) ∧
  (∀ (d : Nat) (a : Int) (l0 l1 l2 l3 l4 l5 l6 l7 : Option mx_V) (S h : mx_H) (n : Int), mx_ex d 103 41 [l0, l1, l2, l3, l4, l5, l6, l7] [(0, a)] S h n = mx_br (a < 0) d 103 44 46 [l0, l1, l2, l3, l4, l5, l6, l7] [] S h n) ∧
  (∀ (d : Nat) (l0 l1 l2 l3 l4 l5 l6 l7 : Option mx_V) (S h : mx_H) (n : Int), mx_ex d 103 44 [l0, l1, l2, l3, l4, l5, l6, l7] [] S h n = mx_ex d 103 45 [l0, l1, l2, l3, l4, l5, l6, l7] [(0, (-1))] S h n) ∧
  (∀ (d : Nat) (x : Int) (l0 l1 l2 l3 l4 l5 l6 l7 : Option mx_V) (S h : mx_H) (n : Int), mx_ex d 103 45 [l0, l1, l2, l3, l4, l5, l6, l7] [(0, x)] S h n = some (some (0, x), S, h, n)) ∧
  (∀ (d : Nat) (x : Int) (l1 l2 l3 l4 l5 l6 l7 : Option mx_V) (S h : mx_H) (n : Int), mx_ex d 103 46 [some (2, x), l1, l2, l3, l4, l5, l6, l7] [] S h n = mx_ex d 103 47 [some (2, x), l1, l2, l3, l4, l5, l6, l7] [(2, x)] S h n) ∧
  (∀ (d : Nat) (a : Int) (l0 l1 l2 l3 l4 l5 l6 l7 : Option mx_V) (S h : mx_H) (n : Int), mx_ex d 103 47 [l0, l1, l2, l3, l4, l5, l6, l7] [(2, a)] S h n = mx_gd (7 ≤ S a (-2) ∧ S a (-2) ≤ 7) d 103 50 [l0, l1, l2, l3, l4, l5, l6, l7] [(2, S a 3)] S h n) ∧
  (∀ (d : Nat) (a : Int) (l0 l1 l2 l3 l4 l5 l6 l7 : Option mx_V) (S h : mx_H) (n : Int), mx_ex d 103 50 [l0, l1, l2, l3, l4, l5, l6, l7] [(2, a)] S h n = mx_gd (8 ≤ S a (-2) ∧ S a (-2) ≤ 8) d 103 53 [l0, l1, l2, l3, l4, l5, l6, l7] [(0, h a 3)] S h n) ∧
  (∀ (d : Nat) (l0 l1 l2 l3 l4 l5 l6 l7 : Option mx_V) (v0 : mx_V) (S h : mx_H) (n : Int), mx_ex d 103 53 [l0, l1, l2, l3, l4, l5, l6, l7] [v0] S h n = mx_ex d 103 55 [l0, l1, l2, l3, l4, l5, l6, l7] [(0, 6), v0] S h n) ∧
  (∀ (d : Nat) (b a : Int) (l0 l1 l2 l3 l4 l5 l6 l7 : Option mx_V) (S h : mx_H) (n : Int), mx_ex d 103 55 [l0, l1, l2, l3, l4, l5, l6, l7] [(0, b), (0, a)] S h n = mx_br (a < b) d 103 61 58 [l0, l1, l2, l3, l4, l5, l6, l7] [] S h n) ∧
  (∀ (d : Nat) (l0 l1 l2 l3 l4 l5 l6 l7 : Option mx_V) (S h : mx_H) (n : Int), mx_ex d 103 58 [l0, l1, l2, l3, l4, l5, l6, l7] [] S h n = mx_ex d 103 60 [l0, l1, l2, l3, l4, l5, l6, l7] [(0, (-2))] S h n) ∧
  (∀ (d : Nat) (x : Int) (l0 l1 l2 l3 l4 l5 l6 l7 : Option mx_V) (S h : mx_H) (n : Int), mx_ex d 103 60 [l0, l1, l2, l3, l4, l5, l6, l7] [(0, x)] S h n = some (some (0, x), S, h, n)) ∧
  (∀ (d : Nat) (x : Int) (l0 l1 l2 l3 l5 l6 l7 : Option mx_V) (S h : mx_H) (n : Int), mx_ex d 103 61 [l0, l1, l2, l3, some (0, x), l5, l6, l7] [] S h n = mx_ex d 103 63 [l0, l1, l2, l3, some (0, x), l5, l6, l7] [(0, x)] S h n) ∧
  (∀ (d : Nat) (x : Int) (l0 l1 l2 l3 l4 l5 l6 l7 : Option mx_V) (S h : mx_H) (n : Int), mx_ex d 103 63 [l0, l1, l2, l3, l4, l5, l6, l7] [(0, x)] S h n = mx_gd (0 ≤ x ∧ x ≤ 300) d 103 65 [l0, l1, l2, l3, l4, l5, l6, l7] [(2, n)] (mx_t S n 20 x) (mx_z h n) (n + 1)) ∧
  (∀ (d : Nat) (x : Int) (l0 l1 l2 l3 l4 l5 l6 l7 : Option mx_V) (S h : mx_H) (n : Int), mx_ex d 103 65 [l0, l1, l2, l3, l4, l5, l6, l7] [(2, x)] S h n = mx_ex d 103 67 [l0, l1, l2, l3, l4, mx_nl l5, some (2, x), l7] [] S h n) ∧
  (∀ (d : Nat) (l0 l1 l2 l3 l4 l5 l6 l7 : Option mx_V) (S h : mx_H) (n : Int), mx_ex d 103 67 [l0, l1, l2, l3, l4, l5, l6, l7] [] S h n = mx_ex d 103 68 [l0, l1, l2, l3, l4, l5, l6, l7] [(0, 0)] S h n) ∧
  (∀ (d : Nat) (x : Int) (l0 l1 l2 l3 l4 l5 l6 l7 : Option mx_V) (S h : mx_H) (n : Int), mx_ex d 103 68 [l0, l1, l2, l3, l4, l5, l6, l7] [(0, x)] S h n = mx_ex d 103 70 [l0, l1, l2, l3, l4, l5, mx_nl l6, some (0, x)] [] S h n) ∧
  (∀ (d : Nat) (x : Int) (l0 l1 l2 l3 l5 l6 l7 : Option mx_V) (v0 : mx_V) (S h : mx_H) (n : Int), mx_ex d 103 72 [l0, l1, l2, l3, some (0, x), l5, l6, l7] [v0] S h n = mx_ex d 103 74 [l0, l1, l2, l3, some (0, x), l5, l6, l7] [(0, x), v0] S h n) ∧
  (∀ (d : Nat) (b a : Int) (l0 l1 l2 l3 l4 l5 l6 l7 : Option mx_V) (S h : mx_H) (n : Int), mx_ex d 103 74 [l0, l1, l2, l3, l4, l5, l6, l7] [(0, b), (0, a)] S h n = mx_br (a < b) d 103 77 103 [l0, l1, l2, l3, l4, l5, l6, l7] [] S h n) ∧
  (∀ (d : Nat) (x : Int) (l0 l1 l2 l3 l4 l5 l7 : Option mx_V) (S h : mx_H) (n : Int), mx_ex d 103 77 [l0, l1, l2, l3, l4, l5, some (2, x), l7] [] S h n = mx_ex d 103 79 [l0, l1, l2, l3, l4, l5, some (2, x), l7] [(2, x)] S h n) ∧
  (∀ (d : Nat) (x : Int) (l0 l1 l2 l3 l4 l5 l6 : Option mx_V) (v0 : mx_V) (S h : mx_H) (n : Int), mx_ex d 103 79 [l0, l1, l2, l3, l4, l5, l6, some (0, x)] [v0] S h n = mx_ex d 103 81 [l0, l1, l2, l3, l4, l5, l6, some (0, x)] [(0, x), v0] S h n) ∧
  (∀ (d : Nat) (x : Int) (l0 l1 l2 l3 l4 l6 l7 : Option mx_V) (v0 v1 : mx_V) (S h : mx_H) (n : Int), mx_ex d 103 81 [l0, l1, l2, l3, l4, some (0, x), l6, l7] [v0, v1] S h n = mx_ex d 103 83 [l0, l1, l2, l3, l4, some (0, x), l6, l7] [(0, x), v0, v1] S h n) ∧
  (∀ (d : Nat) (l0 l1 l2 l3 l4 l5 l6 l7 : Option mx_V) (v0 v1 v2 : mx_V) (S h : mx_H) (n : Int), mx_ex d 103 83 [l0, l1, l2, l3, l4, l5, l6, l7] [v0, v1, v2] S h n = mx_ex d 103 84 [l0, l1, l2, l3, l4, l5, l6, l7] [(0, 4), v0, v1, v2] S h n) ∧
  (∀ (d : Nat) (x : Int) (l0 l1 l2 l3 l5 l6 l7 : Option mx_V) (v0 v1 v2 v3 : mx_V) (S h : mx_H) (n : Int), mx_ex d 103 84 [l0, l1, l2, l3, some (0, x), l5, l6, l7] [v0, v1, v2, v3] S h n = mx_ex d 103 86 [l0, l1, l2, l3, some (0, x), l5, l6, l7] [(0, x), v0, v1, v2, v3] S h n) ∧
  (∀ (d : Nat) (l0 l1 l2 l3 l4 l5 l6 l7 : Option mx_V) (v0 v1 v2 v3 v4 : mx_V) (S h : mx_H) (n : Int), mx_ex d 103 86 [l0, l1, l2, l3, l4, l5, l6, l7] [v0, v1, v2, v3, v4] S h n = mx_ex d 103 87 [l0, l1, l2, l3, l4, l5, l6, l7] [(0, 1), v0, v1, v2, v3, v4] S h n) ∧
  (∀ (d : Nat) (b a : Int) (l0 l1 l2 l3 l4 l5 l6 l7 : Option mx_V) (v2 v3 v4 v5 : mx_V) (S h : mx_H) (n : Int), mx_ex d 103 87 [l0, l1, l2, l3, l4, l5, l6, l7] [(0, b), (0, a), v2, v3, v4, v5] S h n = mx_ex d 103 88 [l0, l1, l2, l3, l4, l5, l6, l7] [(0, mx_w (a - b)), v2, v3, v4, v5] S h n) ∧
  (∀ (d : Nat) (x : Int) (l0 l1 l2 l3 l4 l5 l6 : Option mx_V) (v0 v1 v2 v3 v4 : mx_V) (S h : mx_H) (n : Int), mx_ex d 103 88 [l0, l1, l2, l3, l4, l5, l6, some (0, x)] [v0, v1, v2, v3, v4] S h n = mx_ex d 103 90 [l0, l1, l2, l3, l4, l5, l6, some (0, x)] [(0, x), v0, v1, v2, v3, v4] S h n) ∧
  (∀ (d : Nat) (b a : Int) (l0 l1 l2 l3 l4 l5 l6 l7 : Option mx_V) (v2 v3 v4 v5 : mx_V) (S h : mx_H) (n : Int), mx_ex d 103 90 [l0, l1, l2, l3, l4, l5, l6, l7] [(0, b), (0, a), v2, v3, v4, v5] S h n = mx_ex d 103 91 [l0, l1, l2, l3, l4, l5, l6, l7] [(0, mx_w (a - b)), v2, v3, v4, v5] S h n) ∧
  (∀ (d : Nat) (b a : Int) (l0 l1 l2 l3 l4 l5 l6 l7 : Option mx_V) (v2 v3 v4 : mx_V) (S h : mx_H) (n : Int), mx_ex d 103 91 [l0, l1, l2, l3, l4, l5, l6, l7] [(0, b), (0, a), v2, v3, v4] S h n = mx_ex d 103 92 [l0, l1, l2, l3, l4, l5, l6, l7] [(0, mx_w (a * b)), v2, v3, v4] S h n) ∧
  (∀ (d : Nat) (b a : Int) (l0 l1 l2 l3 l4 l5 l6 l7 : Option mx_V) (v2 v3 : mx_V) (S h : mx_H) (n : Int), mx_ex d 103 92 [l0, l1, l2, l3, l4, l5, l6, l7] [(0, b), (0, a), v2, v3] S h n = mx_ex d 103 93 [l0, l1, l2, l3, l4, l5, l6, l7] [(0, mx_shr a b), v2, v3] S h n) ∧
  (∀ (d : Nat) (l0 l1 l2 l3 l4 l5 l6 l7 : Option mx_V) (v0 v1 v2 : mx_V) (S h : mx_H) (n : Int), mx_ex d 103 93 [l0, l1, l2, l3, l4, l5, l6, l7] [v0, v1, v2] S h n = mx_ex d 103 95 [l0, l1, l2, l3, l4, l5, l6, l7] [(0, 15), v0, v1, v2] S h n) ∧
  (∀ (d : Nat) (b a : Int) (l0 l1 l2 l3 l4 l5 l6 l7 : Option mx_V) (v2 v3 : mx_V) (S h : mx_H) (n : Int), mx_ex d 103 95 [l0, l1, l2, l3, l4, l5, l6, l7] [(0, b), (0, a), v2, v3] S h n = mx_ex d 103 96 [l0, l1, l2, l3, l4, l5, l6, l7] [(0, mx_and a b), v2, v3] S h n) ∧
  (∀ (d : Nat) (v i a : Int) (l0 l1 l2 l3 l4 l5 l6 l7 : Option mx_V) (S h : mx_H) (n : Int), mx_ex d 103 96 [l0, l1, l2, l3, l4, l5, l6, l7] [(0, v), (0, i), (2, a)] S h n = mx_gd (S a (-2) = 20 ∧ 0 ≤ i ∧ i < S a (-1)) d 103 97 [l0, l1, l2, l3, l4, l5, l6, l7] [] S (mx_u h a i v) n) ∧
  (∀ (d : Nat) (x : Int) (l0 l1 l2 l3 l4 l5 l6 : Option mx_V) (S h : mx_H) (n : Int), mx_ex d 103 97 [l0, l1, l2, l3, l4, l5, l6, some (0, x)] [] S h n = mx_ex d 103 100 [l0, l1, l2, l3, l4, l5, mx_nl l6, some (0, mx_w (x + 1))] [] S h n) ∧
  (∀ (d : Nat) (l0 l1 l2 l3 l4 l5 l6 l7 : Option mx_V) (S h : mx_H) (n : Int), mx_ex d 103 100 [l0, l1, l2, l3, l4, l5, l6, l7] [] S h n = mx_ex d 103 70 [l0, l1, l2, l3, l4, l5, l6, l7] [] S h n) ∧
  (∀ (d : Nat) (x : Int) (l1 l2 l3 l4 l5 l6 l7 : Option mx_V) (S h : mx_H) (n : Int), mx_ex d 103 103 [some (2, x), l1, l2, l3, l4, l5, l6, l7] [] S h n = mx_ex d 103 104 [some (2, x), l1, l2, l3, l4, l5, l6, l7] [(2, x)] S h n) ∧
  (∀ (d : Nat) (a : Int) (l0 l1 l2 l3 l4 l5 l6 l7 : Option mx_V) (S h : mx_H) (n : Int), mx_ex d 103 104 [l0, l1, l2, l3, l4, l5, l6, l7] [(2, a)] S h n = mx_gd (7 ≤ S a (-2) ∧ S a (-2) ≤ 7) d 103 107 [l0, l1, l2, l3, l4, l5, l6, l7] [(2, S a 3)] S h n) ∧
  (∀ (d : Nat) (x : Int) (l0 l2 l3 l4 l5 l6 l7 : Option mx_V) (v0 : mx_V) (S h : mx_H) (n : Int), mx_ex d 103 107 [l0, some (0, x), l2, l3, l4, l5, l6, l7] [v0] S h n = mx_ex d 103 108 [l0, some (0, x), l2, l3, l4, l5, l6, l7] [(0, x), v0] S h n) ∧
  (∀ (d : Nat) (x : Int) (l0 l1 l3 l4 l5 l6 l7 : Option mx_V) (v0 v1 : mx_V) (S h : mx_H) (n : Int), mx_ex d 103 108 [l0, l1, some (0, x), l3, l4, l5, l6, l7] [v0, v1] S h n = mx_ex d 103 109 [l0, l1, some (0, x), l3, l4, l5, l6, l7] [(0, x), v0, v1] S h n) ∧
  (∀ (d : Nat) (x : Int) (l0 l1 l2 l4 l5 l6 l7 : Option mx_V) (v0 v1 v2 : mx_V) (S h : mx_H) (n : Int), mx_ex d 103 109 [l0, l1, l2, some (0, x), l4, l5, l6, l7] [v0, v1, v2] S h n = mx_ex d 103 110 [l0, l1, l2, some (0, x), l4, l5, l6, l7] [(0, x), v0, v1, v2] S h n) ∧
  (∀ (d : Nat) (x : Int) (l0 l1 l2 l3 l4 l5 l7 : Option mx_V) (v0 v1 v2 v3 : mx_V) (S h : mx_H) (n : Int), mx_ex d 103 110 [l0, l1, l2, l3, l4, l5, some (2, x), l7] [v0, v1, v2, v3] S h n = mx_ex d 103 112 [l0, l1, l2, l3, l4, l5, some (2, x), l7] [(2, x), v0, v1, v2, v3] S h n) ∧
  (∀ (d : Nat) (x0 x1 x2 x3 a : Int) (l0 l1 l2 l3 l4 l5 l6 l7 : Option mx_V) (S h : mx_H) (n : Int), mx_ex (d + 1) 103 112 [l0, l1, l2, l3, l4, l5, l6, l7] [(2, x0), (0, x1), (0, x2), (0, x3), (2, a)] S h n = mx_cl (S a (-2) = 8) d 91 [(2, a), (0, x3), (0, x2), (0, x1), (2, x0)] 103 115 [l0, l1, l2, l3, l4, l5, l6, l7] [] S h n) ∧
  (∀ (d : Nat) (x : Int) (l0 l1 l2 l3 l4 l5 l6 l7 : Option mx_V) (S h : mx_H) (n : Int), mx_ex d 103 115 [l0, l1, l2, l3, l4, l5, l6, l7] [(0, x)] S h n = some (some (0, x), S, h, n)) :=
  ⟨by intros; exact rfl,
   by intros; exact eq_ld rfl rfl,
   by intros; exact eq_push rfl,
   by intros; exact eq_push rfl,
   by intros; exact eq_cs rfl (Nat.le_of_ble_eq_true rfl) rfl rfl rfl (Nat.le_of_ble_eq_true rfl),
   by intros; exact eq_if0 rfl,
   by intros; exact eq_ld rfl rfl,
   by intros; exact eq_cs rfl (Nat.le_of_ble_eq_true rfl) rfl rfl rfl (Nat.le_of_ble_eq_true rfl),
   by intros; exact eq_if0 rfl,
   by intros; exact eq_ld rfl rfl,
   by intros; exact eq_push rfl,
   by intros; exact eq_push rfl,
   by intros; exact eq_cs rfl (Nat.le_of_ble_eq_true rfl) rfl rfl rfl (Nat.le_of_ble_eq_true rfl),
   by intros; exact eq_if1 rfl,
   by intros; exact eq_push rfl,
   by intros; exact eq_ret rfl,
   by intros; exact eq_ld rfl rfl,
   by intros; exact eq_push rfl,
   by intros; exact eq_push rfl,
   by intros; exact eq_cs rfl (Nat.le_of_ble_eq_true rfl) rfl rfl rfl (Nat.le_of_ble_eq_true rfl),
   by intros; exact eq_if0 rfl,
   by intros; exact eq_ld rfl rfl,
   by intros; exact eq_if3 rfl,
   by intros; exact eq_push rfl,
   by intros; exact eq_ret rfl,
   by intros; exact eq_ld rfl rfl,
   by intros; exact eq_gr rfl,
   by intros; exact eq_gi rfl,
   by intros; exact eq_push rfl,
   by intros; exact eq_ic2 rfl,
   by intros; exact eq_push rfl,
   by intros; exact eq_ret rfl,
   by intros; exact eq_ld rfl rfl,
   by intros; exact eq_newa rfl,
   by intros; exact eq_st rfl (by decide) (Nat.le_of_ble_eq_true rfl) rfl,
   by intros; exact eq_push rfl,
   by intros; exact eq_st rfl (by decide) (Nat.le_of_ble_eq_true rfl) rfl,
   by intros; exact eq_ld rfl rfl,
   by intros; exact eq_ic3 rfl,
   by intros; exact eq_ld rfl rfl,
   by intros; exact eq_ld rfl rfl,
   by intros; exact eq_ld rfl rfl,
   by intros; exact eq_push rfl,
   by intros; exact eq_ld rfl rfl,
   by intros; exact eq_push rfl,
   by intros; exact eq_i2 (o := mx_sub) rfl,
   by intros; exact eq_ld rfl rfl,
   by intros; exact eq_i2 (o := mx_sub) rfl,
   by intros; exact eq_i2 (o := mx_mul) rfl,
   by intros; exact eq_i2 (o := mx_shr) rfl,
   by intros; exact eq_push rfl,
   by intros; exact eq_i2 (o := mx_and) rfl,
   by intros; exact eq_iast rfl,
   by intros; exact eq_inc rfl rfl rfl,
   by intros; exact eq_go rfl,
   by intros; exact eq_ld rfl rfl,
   by intros; exact eq_gr rfl,
   by intros; exact eq_ld rfl rfl,
   by intros; exact eq_ld rfl rfl,
   by intros; exact eq_ld rfl rfl,
   by intros; exact eq_ld rfl rfl,
   by intros; exact eq_cv rfl (Nat.le_of_ble_eq_true rfl) rfl rfl rfl (Nat.le_of_ble_eq_true rfl),
   by intros; exact eq_ret rfl⟩
theorem rw_X11_noteOf :
  (∀ (d : Nat) (a0 a1 a2 : Int) (S h : mx_H) (n : Int), mx_M d 104 [(2, a0), (0, a1), (0, a2)] S h n = mx_ex d 104 0 [some (2, a0), some (0, a1), some (0, a2), none] [] S h n) ∧
  (∀ (d : Nat) (x : Int) (l1 l2 l3 : Option mx_V) (S h : mx_H) (n : Int), mx_ex d 104 0 [some (2, x), l1, l2, l3] [] S h n = mx_ex d 104 1 [some (2, x), l1, l2, l3] [(2, x)] S h n) ∧
  (∀ (d : Nat) (a : Int) (l0 l1 l2 l3 : Option mx_V) (S h : mx_H) (n : Int), mx_ex d 104 1 [l0, l1, l2, l3] [(2, a)] S h n = mx_gd (7 ≤ S a (-2) ∧ S a (-2) ≤ 7) d 104 4 [l0, l1, l2, l3] [(2, S a 3)] S h n) ∧
  (∀ (d : Nat) (x : Int) (l0 l2 l3 : Option mx_V) (v0 : mx_V) (S h : mx_H) (n : Int), mx_ex d 104 4 [l0, some (0, x), l2, l3] [v0] S h n = mx_ex d 104 5 [l0, some (0, x), l2, l3] [(0, x), v0] S h n) ∧
  (∀ (d : Nat) (x0 a : Int) (l0 l1 l2 l3 : Option mx_V) (S h : mx_H) (n : Int), mx_ex (d + 1) 104 5 [l0, l1, l2, l3] [(0, x0), (2, a)] S h n = mx_cl (S a (-2) = 8) d 90 [(2, a), (0, x0)] 104 8 [l0, l1, l2, l3] [] S h n) ∧
  (∀ (d : Nat) (x : Int) (l0 l1 l2 l3 : Option mx_V) (S h : mx_H) (n : Int), mx_ex d 104 8 [l0, l1, l2, l3] [(2, x)] S h n = mx_ex d 104 9 [l0, l1, mx_nl l2, some (2, x)] [] S h n) ∧
  (∀ (d : Nat) (x : Int) (l0 l1 l2 : Option mx_V) (S h : mx_H) (n : Int), mx_ex d 104 9 [l0, l1, l2, some (2, x)] [] S h n = mx_ex d 104 10 [l0, l1, l2, some (2, x)] [(2, x)] S h n) ∧
  (∀ (d : Nat) (a : Int) (l0 l1 l2 l3 : Option mx_V) (S h : mx_H) (n : Int), mx_ex d 104 10 [l0, l1, l2, l3] [(2, a)] S h n = mx_br (a = -1) d 104 13 15 [l0, l1, l2, l3] [] S h n) ∧
  (∀ (d : Nat) (l0 l1 l2 l3 : Option mx_V) (S h : mx_H) (n : Int), mx_ex d 104 13 [l0, l1, l2, l3] [] S h n = mx_ex d 104 14 [l0, l1, l2, l3] [(0, (-1))] S h n) ∧
  (∀ (d : Nat) (x : Int) (l0 l1 l2 l3 : Option mx_V) (S h : mx_H) (n : Int), mx_ex d 104 14 [l0, l1, l2, l3] [(0, x)] S h n = some (some (0, x), S, h, n)) ∧
  (∀ (d : Nat) (x : Int) (l0 l1 l3 : Option mx_V) (S h : mx_H) (n : Int), mx_ex d 104 15 [l0, l1, some (0, x), l3] [] S h n = mx_ex d 104 16 [l0, l1, some (0, x), l3] [(0, x)] S h n) ∧
  (∀ (d : Nat) (a : Int) (l0 l1 l2 l3 : Option mx_V) (S h : mx_H) (n : Int), mx_ex d 104 16 [l0, l1, l2, l3] [(0, a)] S h n = mx_sw a [(0, 48), (1, 53), (2, 58), (3, 63)] d 104 69 [l0, l1, l2, l3] [] S h n) ∧
  (∀ (d : Nat) (x : Int) (l0 l1 l2 : Option mx_V) (S h : mx_H) (n : Int), mx_ex d 104 48 [l0, l1, l2, some (2, x)] [] S h n = mx_ex d 104 49 [l0, l1, l2, some (2, x)] [(2, x)] S h n) ∧
  (∀ (d : Nat) (a : Int) (l0 l1 l2 l3 : Option mx_V) (S h : mx_H) (n : Int), mx_ex (d + 1) 104 49 [l0, l1, l2, l3] [(2, a)] S h n = mx_cu (mx_vt (S a (-2)) [(1, 39), (2, 55), (3, 1), (4, 34), (5, 80), (6, 8)]) d [(2, a)] 104 52 [l0, l1, l2, l3] [] S h n) ∧
  (∀ (d : Nat) (x : Int) (l0 l1 l2 l3 : Option mx_V) (S h : mx_H) (n : Int), mx_ex d 104 52 [l0, l1, l2, l3] [(0, x)] S h n = some (some (0, x), S, h, n)) ∧
  (∀ (d : Nat) (x : Int) (l0 l1 l2 : Option mx_V) (S h : mx_H) (n : Int), mx_ex d 104 53 [l0, l1, l2, some (2, x)] [] S h n = mx_ex d 104 54 [l0, l1, l2, some (2, x)] [(2, x)] S h n) ∧
  (∀ (d : Nat) (a : Int) (l0 l1 l2 l3 : Option mx_V) (S h : mx_H) (n : Int), mx_ex d 104 54 [l0, l1, l2, l3] [(2, a)] S h n = mx_gd (1 ≤ S a (-2) ∧ S a (-2) ≤ 6) d 104 57 [l0, l1, l2, l3] [(0, h a 3)] S h n) ∧
  (∀ (d : Nat) (x : Int) (l0 l1 l2 l3 : Option mx_V) (S h : mx_H) (n : Int), mx_ex d 104 57 [l0, l1, l2, l3] [(0, x)] S h n = some (some (0, x), S, h, n)) ∧
  (∀ (d : Nat) (x : Int) (l0 l1 l2 : Option mx_V) (S h : mx_H) (n : Int), mx_ex d 104 58 [l0, l1, l2, some (2, x)] [] S h n = mx_ex d 104 59 [l0, l1, l2, some (2, x)] [(2, x)] S h n) ∧
  (∀ (d : Nat) (a : Int) (l0 l1 l2 l3 : Option mx_V) (S h : mx_H) (n : Int), mx_ex d 104 59 [l0, l1, l2, l3] [(2, a)] S h n = mx_gd (1 ≤ S a (-2) ∧ S a (-2) ≤ 6) d 104 62 [l0, l1, l2, l3] [(0, h a 1)] S h n) ∧
  (∀ (d : Nat) (x : Int) (l0 l1 l2 l3 : Option mx_V) (S h : mx_H) (n : Int), mx_ex d 104 62 [l0, l1, l2, l3] [(0, x)] S h n = some (some (0, x), S, h, n)) ∧
  (∀ (d : Nat) (x : Int) (l0 l1 l2 : Option mx_V) (S h : mx_H) (n : Int), mx_ex d 104 63 [l0, l1, l2, some (2, x)] [] S h n = mx_ex d 104 64 [l0, l1, l2, some (2, x)] [(2, x)] S h n) ∧
  (∀ (d : Nat) (a : Int) (l0 l1 l2 l3 : Option mx_V) (S h : mx_H) (n : Int), mx_ex d 104 64 [l0, l1, l2, l3] [(2, a)] S h n = mx_gd (1 ≤ S a (-2) ∧ S a (-2) ≤ 6) d 104 67 [l0, l1, l2, l3] [(2, S a 2)] S h n) ∧
  (∀ (d : Nat) (a : Int) (l0 l1 l2 l3 : Option mx_V) (S h : mx_H) (n : Int), mx_ex d 104 67 [l0, l1, l2, l3] [(2, a)] S h n = mx_gd (20 ≤ S a (-2) ∧ S a (-2) ≤ 25) d 104 68 [l0, l1, l2, l3] [(0, S a (-1))] S h n) ∧
  (∀ (d : Nat) (x : Int) (l0 l1 l2 l3 : Option mx_V) (S h : mx_H) (n : Int), mx_ex d 104 68 [l0, l1, l2, l3] [(0, x)] S h n = some (some (0, x), S, h, n)) ∧
  (∀ (d : Nat) (x : Int) (l0 l1 l3 : Option mx_V) (S h : mx_H) (n : Int), mx_ex d 104 69 [l0, l1, some (0, x), l3] [] S h n = mx_ex d 104 70 [l0, l1, some (0, x), l3] [(0, x)] S h n) ∧
  (∀ (d : Nat) (l0 l1 l2 l3 : Option mx_V) (v0 : mx_V) (S h : mx_H) (n : Int), mx_ex d 104 70 [l0, l1, l2, l3] [v0] S h n = mx_ex d 104 72 [l0, l1, l2, l3] [(0, 10), v0] S h n) ∧
  (∀ (d : Nat) (b a : Int) (l0 l1 l2 l3 : Option mx_V) (S h : mx_H) (n : Int), mx_ex d 104 72 [l0, l1, l2, l3] [(0, b), (0, a)] S h n = mx_br (a < b) d 104 98 75 [l0, l1, l2, l3] [] S h n) ∧
  (∀ (d : Nat) (x : Int) (l0 l1 l2 : Option mx_V) (S h : mx_H) (n : Int), mx_ex d 104 75 [l0, l1, l2, some (2, x)] [] S h n = mx_ex d 104 76 [l0, l1, l2, some (2, x)] [(2, x)] S h n) ∧
  (∀ (d : Nat) (x : Int) (l0 l1 l3 : Option mx_V) (v0 : mx_V) (S h : mx_H) (n : Int), mx_ex d 104 76 [l0, l1, some (0, x), l3] [v0] S h n = mx_ex d 104 77 [l0, l1, some (0, x), l3] [(0, x), v0] S h n) ∧
  (∀ (d : Nat) (l0 l1 l2 l3 : Option mx_V) (v0 v1 : mx_V) (S h : mx_H) (n : Int), mx_ex d 104 77 [l0, l1, l2, l3] [v0, v1] S h n = mx_ex d 104 79 [l0, l1, l2, l3] [(0, 10), v0, v1] S h n) ∧
  (∀ (d : Nat) (b a : Int) (l0 l1 l2 l3 : Option mx_V) (v2 : mx_V) (S h : mx_H) (n : Int), mx_ex d 104 79 [l0, l1, l2, l3] [(0, b), (0, a), v2] S h n = mx_ex d 104 80 [l0, l1, l2, l3] [(0, mx_w (a - b)), v2] S h n) ∧
  (∀ (d : Nat) (x0 a : Int) (l0 l1 l2 l3 : Option mx_V) (S h : mx_H) (n : Int), mx_ex (d + 1) 104 80 [l0, l1, l2, l3] [(0, x0), (2, a)] S h n = mx_cl (1 ≤ S a (-2) ∧ S a (-2) ≤ 6) d 40 [(2, a), (0, x0)] 104 83 [l0, l1, l2, l3] [] S h n) ∧
  (∀ (d : Nat) (a : Int) (l0 l1 l2 l3 : Option mx_V) (S h : mx_H) (n : Int), mx_ex d 104 83 [l0, l1, l2, l3] [(0, a)] S h n = mx_br (a = 0) d 104 98 86 [l0, l1, l2, l3] [] S h n) ∧
  (∀ (d : Nat) (x : Int) (l0 l1 l2 : Option mx_V) (S h : mx_H) (n : Int), mx_ex d 104 86 [l0, l1, l2, some (2, x)] [] S h n = mx_ex d 104 87 [l0, l1, l2, some (2, x)] [(2, x)] S h n) ∧
  (∀ (d : Nat) (a : Int) (l0 l1 l2 l3 : Option mx_V) (S h : mx_H) (n : Int), mx_ex d 104 87 [l0, l1, l2, l3] [(2, a)] S h n = mx_gd (1 ≤ S a (-2) ∧ S a (-2) ≤ 6) d 104 90 [l0, l1, l2, l3] [(2, S a 2)] S h n) ∧
  (∀ (d : Nat) (x : Int) (l0 l1 l3 : Option mx_V) (v0 : mx_V) (S h : mx_H) (n : Int), mx_ex d 104 90 [l0, l1, some (0, x), l3] [v0] S h n = mx_ex d 104 91 [l0, l1, some (0, x), l3] [(0, x), v0] S h n) ∧
  (∀ (d : Nat) (l0 l1 l2 l3 : Option mx_V) (v0 v1 : mx_V) (S h : mx_H) (n : Int), mx_ex d 104 91 [l0, l1, l2, l3] [v0, v1] S h n = mx_ex d 104 93 [l0, l1, l2, l3] [(0, 10), v0, v1] S h n) ∧
  (∀ (d : Nat) (b a : Int) (l0 l1 l2 l3 : Option mx_V) (v2 : mx_V) (S h : mx_H) (n : Int), mx_ex d 104 93 [l0, l1, l2, l3] [(0, b), (0, a), v2] S h n = mx_ex d 104 94 [l0, l1, l2, l3] [(0, mx_w (a - b)), v2] S h n) ∧
  (∀ (d : Nat) (i a : Int) (l0 l1 l2 l3 : Option mx_V) (S h : mx_H) (n : Int), mx_ex d 104 94 [l0, l1, l2, l3] [(0, i), (2, a)] S h n = mx_gd ((S a (-2) = 20 ∨ S a (-2) = 24) ∧ 0 ≤ i ∧ i < S a (-1)) d 104 95 [l0, l1, l2, l3] [(0, h a i)] S h n) ∧
  (∀ (d : Nat) (l0 l1 l2 l3 : Option mx_V) (v0 : mx_V) (S h : mx_H) (n : Int), mx_ex d 104 95 [l0, l1, l2, l3] [v0] S h n = mx_ex d 104 99 [l0, l1, l2, l3] [v0] S h n) ∧
  (∀ (d : Nat) (l0 l1 l2 l3 : Option mx_V) (S h : mx_H) (n : Int), mx_ex d 104 98 [l0, l1, l2, l3] [] S h n = mx_ex d 104 99 [l0, l1, l2, l3] [(0, (-1))] S h n) ∧
  (∀ (d : Nat) (x : Int) (l0 l1 l2 l3 : Option mx_V) (S h : mx_H) (n : Int), mx_ex d 104 99 [l0, l1, l2, l3] [(0, x)] S h n = some (some (0, x), S, h, n)) :=
  ⟨by intros; exact rfl,
   by intros; exact eq_ld rfl rfl,
   by intros; exact eq_gr rfl,
   by intros; exact eq_ld rfl rfl,
   by intros; exact eq_cv rfl (Nat.le_of_ble_eq_true rfl) rfl rfl rfl (Nat.le_of_ble_eq_true rfl),
   by intros; exact eq_st rfl (by decide) (Nat.le_of_ble_eq_true rfl) rfl,
   by intros; exact eq_ld rfl rfl,
   by intros; exact eq_nul rfl,
   by intros; exact eq_push rfl,
   by intros; exact eq_ret rfl,
   by intros; exact eq_ld rfl rfl,
   by intros; exact eq_sw rfl,
   by intros; exact eq_ld rfl rfl,
   by intros; exact eq_cu rfl (Nat.le_of_ble_eq_true rfl) rfl rfl rfl (Nat.le_of_ble_eq_true rfl),
   by intros; exact eq_ret rfl,
   by intros; exact eq_ld rfl rfl,
   by intros; exact eq_gi rfl,
   by intros; exact eq_ret rfl,
   by intros; exact eq_ld rfl rfl,
   by intros; exact eq_gi rfl,
   by intros; exact eq_ret rfl,
   by intros; exact eq_ld rfl rfl,
   by intros; exact eq_gr rfl,
   by intros; exact eq_alen rfl,
   by intros; exact eq_ret rfl,
   by intros; exact eq_ld rfl rfl,
   by intros; exact eq_push rfl,
   by intros; exact eq_ic2 rfl,
   by intros; exact eq_ld rfl rfl,
   by intros; exact eq_ld rfl rfl,
   by intros; exact eq_push rfl,
   by intros; exact eq_i2 (o := mx_sub) rfl,
   by intros; exact eq_ci rfl (Nat.le_of_ble_eq_true rfl) rfl rfl rfl (Nat.le_of_ble_eq_true rfl),
   by intros; exact eq_if0 rfl,
   by intros; exact eq_ld rfl rfl,
   by intros; exact eq_gr rfl,
   by intros; exact eq_ld rfl rfl,
   by intros; exact eq_push rfl,
   by intros; exact eq_i2 (o := mx_sub) rfl,
   by intros; exact eq_iald rfl,
   by intros; exact eq_go rfl,
   by intros; exact eq_push rfl,
   by intros; exact eq_ret rfl⟩
theorem rw_X11_alter :
  (∀ (d : Nat) (a0 a1 a2 a3 : Int) (S h : mx_H) (n : Int), mx_M d 105 [(2, a0), (0, a1), (0, a2), (0, a3)] S h n = mx_ex d 105 0 [some (2, a0), some (0, a1), some (0, a2), some (0, a3), none, none] [] S h n) ∧
  (∀ (d : Nat) (x : Int) (l1 l2 l3 l4 l5 : Option mx_V) (S h : mx_H) (n : Int), mx_ex d 105 0 [some (2, x), l1, l2, l3, l4, l5] [] S h n = mx_ex d 105 1 [some (2, x), l1, l2, l3, l4, l5] [(2, x)] S h n) ∧
  (∀ (d : Nat) (a : Int) (l0 l1 l2 l3 l4 l5 : Option mx_V) (S h : mx_H) (n : Int), mx_ex d 105 1 [l0, l1, l2, l3, l4, l5] [(2, a)] S h n = mx_gd (7 ≤ S a (-2) ∧ S a (-2) ≤ 7) d 105 4 [l0, l1, l2, l3, l4, l5] [(2, S a 3)] S h n) ∧
  (∀ (d : Nat) (x : Int) (l0 l2 l3 l4 l5 : Option mx_V) (v0 : mx_V) (S h : mx_H) (n : Int), mx_ex d 105 4 [l0, some (0, x), l2, l3, l4, l5] [v0] S h n = mx_ex d 105 5 [l0, some (0, x), l2, l3, l4, l5] [(0, x), v0] S h n) ∧
  (∀ (d : Nat) (x0 a : Int) (l0 l1 l2 l3 l4 l5 : Option mx_V) (S h : mx_H) (n : Int), mx_ex (d + 1) 105 5 [l0, l1, l2, l3, l4, l5] [(0, x0), (2, a)] S h n = mx_cl (S a (-2) = 8) d 90 [(2, a), (0, x0)] 105 8 [l0, l1, l2, l3, l4, l5] [] S h n) ∧
  (∀ (d : Nat) (x : Int) (l0 l1 l2 l3 l4 l5 : Option mx_V) (S h : mx_H) (n : Int), mx_ex d 105 8 [l0, l1, l2, l3, l4, l5] [(2, x)] S h n = mx_ex d 105 10 [l0, l1, l2, mx_nl l3, some (2, x), l5] [] S h n) ∧
  (∀ (d : Nat) (x : Int) (l0 l1 l2 l3 l5 : Option mx_V) (S h : mx_H) (n : Int), mx_ex d 105 10 [l0, l1, l2, l3, some (2, x), l5] [] S h n = mx_ex d 105 12 [l0, l1, l2, l3, some (2, x), l5] [(2, x)] S h n) ∧
  (∀ (d : Nat) (a : Int) (l0 l1 l2 l3 l4 l5 : Option mx_V) (S h : mx_H) (n : Int), mx_ex d 105 12 [l0, l1, l2, l3, l4, l5] [(2, a)] S h n = mx_br (a = -1) d 105 34 15 [l0, l1, l2, l3, l4, l5] [] S h n) ∧
  (∀ (d : Nat) (x : Int) (l0 l1 l2 l3 l5 : Option mx_V) (S h : mx_H) (n : Int), mx_ex d 105 15 [l0, l1, l2, l3, some (2, x), l5] [] S h n = mx_ex d 105 17 [l0, l1, l2, l3, some (2, x), l5] [(2, x)] S h n) ∧
  (∀ (d : Nat) (x : Int) (l0 l1 l3 l4 l5 : Option mx_V) (v0 : mx_V) (S h : mx_H) (n : Int), mx_ex d 105 17 [l0, l1, some (0, x), l3, l4, l5] [v0] S h n = mx_ex d 105 18 [l0, l1, some (0, x), l3, l4, l5] [(0, x), v0] S h n) ∧
  (∀ (d : Nat) (x0 a : Int) (l0 l1 l2 l3 l4 l5 : Option mx_V) (S h : mx_H) (n : Int), mx_ex (d + 1) 105 18 [l0, l1, l2, l3, l4, l5] [(0, x0), (2, a)] S h n = mx_cl (1 ≤ S a (-2) ∧ S a (-2) ≤ 6) d 40 [(2, a), (0, x0)] 105 21 [l0, l1, l2, l3, l4, l5] [] S h n) ∧
  (∀ (d : Nat) (a : Int) (l0 l1 l2 l3 l4 l5 : Option mx_V) (S h : mx_H) (n : Int), mx_ex d 105 21 [l0, l1, l2, l3, l4, l5] [(0, a)] S h n = mx_br (a = 0) d 105 34 24 [l0, l1, l2, l3, l4, l5] [] S h n) ∧
  (∀ (d : Nat) (x : Int) (l0 l1 l2 l4 l5 : Option mx_V) (S h : mx_H) (n : Int), mx_ex d 105 24 [l0, l1, l2, some (0, x), l4, l5] [] S h n = mx_ex d 105 25 [l0, l1, l2, some (0, x), l4, l5] [(0, x)] S h n) ∧
  (∀ (d : Nat) (l0 l1 l2 l3 l4 l5 : Option mx_V) (v0 : mx_V) (S h : mx_H) (n : Int), mx_ex d 105 25 [l0, l1, l2, l3, l4, l5] [v0] S h n = mx_ex d 105 26 [l0, l1, l2, l3, l4, l5] [(0, 0), v0] S h n) ∧
  (∀ (d : Nat) (l0 l1 l2 l3 l4 l5 : Option mx_V) (v0 v1 : mx_V) (S h : mx_H) (n : Int), mx_ex d 105 26 [l0, l1, l2, l3, l4, l5] [v0, v1] S h n = mx_ex d 105 28 [l0, l1, l2, l3, l4, l5] [(0, 15), v0, v1] S h n) ∧
  (∀ (d : Nat) (x0 x1 x2 : Int) (l0 l1 l2 l3 l4 l5 : Option mx_V) (S h : mx_H) (n : Int), mx_ex (d + 1) 105 28 [l0, l1, l2, l3, l4, l5] [(0, x0), (0, x1), (0, x2)] S h n = mx_rt (mx_M d 145 [(0, x2), (0, x1), (0, x0)] S h n) (d + 1) 105 31 [l0, l1, l2, l3, l4, l5] []) ∧
  (∀ (d : Nat) (a : Int) (l0 l1 l2 l3 l4 l5 : Option mx_V) (S h : mx_H) (n : Int), mx_ex d 105 31 [l0, l1, l2, l3, l4, l5] [(0, a)] S h n = mx_br (a = 0) d 105 34 36 [l0, l1, l2, l3, l4, l5] [] S h n) ∧
  (∀ (d : Nat) (l0 l1 l2 l3 l4 l5 : Option mx_V) (S h : mx_H) (n : Int), mx_ex d 105 34 [l0, l1, l2, l3, l4, l5] [] S h n = mx_ex d 105 35 [l0, l1, l2, l3, l4, l5] [(0, (-1))] S h n) ∧
  (∀ (d : Nat) (x : Int) (l0 l1 l2 l3 l4 l5 : Option mx_V) (S h : mx_H) (n : Int), mx_ex d 105 35 [l0, l1, l2, l3, l4, l5] [(0, x)] S h n = some (some (0, x), S, h, n)) ∧
  (∀ (d : Nat) (x : Int) (l0 l1 l2 l3 l5 : Option mx_V) (S h : mx_H) (n : Int), mx_ex d 105 36 [l0, l1, l2, l3, some (2, x), l5] [] S h n = mx_ex d 105 38 [l0, l1, l2, l3, some (2, x), l5] [(2, x)] S h n) ∧
  (∀ (d : Nat) (a : Int) (l0 l1 l2 l3 l4 l5 : Option mx_V) (S h : mx_H) (n : Int), mx_ex d 105 38 [l0, l1, l2, l3, l4, l5] [(2, a)] S h n = mx_gd (1 ≤ S a (-2) ∧ S a (-2) ≤ 6) d 105 41 [l0, l1, l2, l3, l4, l5] [(2, S a 2)] S h n) ∧
  (∀ (d : Nat) (x : Int) (l0 l1 l3 l4 l5 : Option mx_V) (v0 : mx_V) (S h : mx_H) (n : Int), mx_ex d 105 41 [l0, l1, some (0, x), l3, l4, l5] [v0] S h n = mx_ex d 105 42 [l0, l1, some (0, x), l3, l4, l5] [(0, x), v0] S h n) ∧
  (∀ (d : Nat) (i a : Int) (l0 l1 l2 l3 l4 l5 : Option mx_V) (S h : mx_H) (n : Int), mx_ex d 105 42 [l0, l1, l2, l3, l4, l5] [(0, i), (2, a)] S h n = mx_gd ((S a (-2) = 20 ∨ S a (-2) = 24) ∧ 0 ≤ i ∧ i < S a (-1)) d 105 43 [l0, l1, l2, l3, l4, l5] [(0, h a i)] S h n) ∧
  (∀ (d : Nat) (x : Int) (l0 l1 l2 l3 l4 l5 : Option mx_V) (S h : mx_H) (n : Int), mx_ex d 105 43 [l0, l1, l2, l3, l4, l5] [(0, x)] S h n = mx_ex d 105 45 [l0, l1, l2, l3, mx_nl l4, some (0, x)] [] S h n) ∧
  (∀ (d : Nat) (x : Int) (l0 l1 l2 l3 l5 : Option mx_V) (S h : mx_H) (n : Int), mx_ex d 105 45 [l0, l1, l2, l3, some (2, x), l5] [] S h n = mx_ex d 105 47 [l0, l1, l2, l3, some (2, x), l5] [(2, x)] S h n) ∧
  (∀ (d : Nat) (a : Int) (l0 l1 l2 l3 l4 l5 : Option mx_V) (S h : mx_H) (n : Int), mx_ex d 105 47 [l0, l1, l2, l3, l4, l5] [(2, a)] S h n = mx_gd (1 ≤ S a (-2) ∧ S a (-2) ≤ 6) d 105 50 [l0, l1, l2, l3, l4, l5] [(2, S a 2)] S h n) ∧
  (∀ (d : Nat) (x : Int) (l0 l1 l3 l4 l5 : Option mx_V) (v0 : mx_V) (S h : mx_H) (n : Int), mx_ex d 105 50 [l0, l1, some (0, x), l3, l4, l5] [v0] S h n = mx_ex d 105 51 [l0, l1, some (0, x), l3, l4, l5] [(0, x), v0] S h n) ∧
  (∀ (d : Nat) (x : Int) (l0 l1 l2 l4 l5 : Option mx_V) (v0 v1 : mx_V) (S h : mx_H) (n : Int), mx_ex d 105 51 [l0, l1, l2, some (0, x), l4, l5] [v0, v1] S h n = mx_ex d 105 52 [l0, l1, l2, some (0, x), l4, l5] [(0, x), v0, v1] S h n) ∧
  (∀ (d : Nat) (v i a : Int) (l0 l1 l2 l3 l4 l5 : Option mx_V) (S h : mx_H) (n : Int), mx_ex d 105 52 [l0, l1, l2, l3, l4, l5] [(0, v), (0, i), (2, a)] S h n = mx_gd (S a (-2) = 20 ∧ 0 ≤ i ∧ i < S a (-1)) d 105 53 [l0, l1, l2, l3, l4, l5] [] S (mx_u h a i v) n) ∧
  (∀ (d : Nat) (x : Int) (l1 l2 l3 l4 l5 : Option mx_V) (S h : mx_H) (n : Int), mx_ex d 105 53 [some (2, x), l1, l2, l3, l4, l5] [] S h n = mx_ex d 105 54 [some (2, x), l1, l2, l3, l4, l5] [(2, x)] S h n) ∧
  (∀ (d : Nat) (a : Int) (l0 l1 l2 l3 l4 l5 : Option mx_V) (S h : mx_H) (n : Int), mx_ex d 105 54 [l0, l1, l2, l3, l4, l5] [(2, a)] S h n = mx_gd (7 ≤ S a (-2) ∧ S a (-2) ≤ 7) d 105 57 [l0, l1, l2, l3, l4, l5] [(2, S a 3)] S h n) ∧
  (∀ (d : Nat) (a : Int) (l0 l1 l2 l3 l4 l5 : Option mx_V) (S h : mx_H) (n : Int), mx_ex d 105 57 [l0, l1, l2, l3, l4, l5] [(2, a)] S h n = mx_ex d 105 58 [l0, l1, l2, l3, l4, l5] [(2, a), (2, a)] S h n) ∧
  (∀ (d : Nat) (a : Int) (l0 l1 l2 l3 l4 l5 : Option mx_V) (v1 : mx_V) (S h : mx_H) (n : Int), mx_ex d 105 58 [l0, l1, l2, l3, l4, l5] [(2, a), v1] S h n = mx_gd (8 ≤ S a (-2) ∧ S a (-2) ≤ 8) d 105 61 [l0, l1, l2, l3, l4, l5] [(0, h a 5), v1] S h n) ∧
  (∀ (d : Nat) (l0 l1 l2 l3 l4 l5 : Option mx_V) (v0 v1 : mx_V) (S h : mx_H) (n : Int), mx_ex d 105 61 [l0, l1, l2, l3, l4, l5] [v0, v1] S h n = mx_ex d 105 62 [l0, l1, l2, l3, l4, l5] [(0, 1), v0, v1] S h n) ∧
  (∀ (d : Nat) (b a : Int) (l0 l1 l2 l3 l4 l5 : Option mx_V) (v2 : mx_V) (S h : mx_H) (n : Int), mx_ex d 105 62 [l0, l1, l2, l3, l4, l5] [(0, b), (0, a), v2] S h n = mx_ex d 105 63 [l0, l1, l2, l3, l4, l5] [(0, mx_w (a + b)), v2] S h n) ∧
  (∀ (d : Nat) (v a : Int) (l0 l1 l2 l3 l4 l5 : Option mx_V) (S h : mx_H) (n : Int), mx_ex d 105 63 [l0, l1, l2, l3, l4, l5] [(0, v), (2, a)] S h n = mx_gd (8 ≤ S a (-2) ∧ S a (-2) ≤ 8) d 105 66 [l0, l1, l2, l3, l4, l5] [] S (mx_u h a 5 v) n) ∧
  (∀ (d : Nat) (x : Int) (l0 l1 l2 l3 l4 : Option mx_V) (S h : mx_H) (n : Int), mx_ex d 105 66 [l0, l1, l2, l3, l4, some (0, x)] [] S h n = mx_ex d 105 68 [l0, l1, l2, l3, l4, some (0, x)] [(0, x)] S h n) ∧
  (∀ (d : Nat) (x : Int) (l0 l1 l2 l3 l4 l5 : Option mx_V) (S h : mx_H) (n : Int), mx_ex d 105 68 [l0, l1, l2, l3, l4, l5] [(0, x)] S h n = some (some (0, x), S, h, n)) :=
  ⟨by intros; exact rfl,
   by intros; exact eq_ld rfl rfl,
   by intros; exact eq_gr rfl,
   by intros; exact eq_ld rfl rfl,
   by intros; exact eq_cv rfl (Nat.le_of_ble_eq_true rfl) rfl rfl rfl (Nat.le_of_ble_eq_true rfl),
   by intros; exact eq_st rfl (by decide) (Nat.le_of_ble_eq_true rfl) rfl,
   by intros; exact eq_ld rfl rfl,
   by intros; exact eq_nul rfl,
   by intros; exact eq_ld rfl rfl,
   by intros; exact eq_ld rfl rfl,
   by intros; exact eq_ci rfl (Nat.le_of_ble_eq_true rfl) rfl rfl rfl (Nat.le_of_ble_eq_true rfl),
   by intros; exact eq_if0 rfl,
   by intros; exact eq_ld rfl rfl,
   by intros; exact eq_push rfl,
   by intros; exact eq_push rfl,
   by intros; exact eq_cs rfl (Nat.le_of_ble_eq_true rfl) rfl rfl rfl (Nat.le_of_ble_eq_true rfl),
   by intros; exact eq_if1 rfl,
   by intros; exact eq_push rfl,
   by intros; exact eq_ret rfl,
   by intros; exact eq_ld rfl rfl,
   by intros; exact eq_gr rfl,
   by intros; exact eq_ld rfl rfl,
   by intros; exact eq_iald rfl,
   by intros; exact eq_st rfl (by decide) (Nat.le_of_ble_eq_true rfl) rfl,
   by intros; exact eq_ld rfl rfl,
   by intros; exact eq_gr rfl,
   by intros; exact eq_ld rfl rfl,
   by intros; exact eq_ld rfl rfl,
   by intros; exact eq_iast rfl,
   by intros; exact eq_ld rfl rfl,
   by intros; exact eq_gr rfl,
   by intros; exact eq_dup rfl (by decide),
   by intros; exact eq_gi rfl,
   by intros; exact eq_push rfl,
   by intros; exact eq_i2 (o := mx_add) rfl,
   by intros; exact eq_pi rfl,
   by intros; exact eq_ld rfl rfl,
   by intros; exact eq_ret rfl⟩
theorem rw_X11_move :
  (∀ (d : Nat) (a0 a1 a2 : Int) (S h : mx_H) (n : Int), mx_M d 106 [(2, a0), (0, a1), (0, a2)] S h n = mx_ex d 106 0 [some (2, a0), some (0, a1), some (0, a2), none, none] [] S h n) ∧
  (∀ (d : Nat) (x : Int) (l1 l2 l3 l4 : Option mx_V) (S h : mx_H) (n : Int), mx_ex d 106 0 [some (2, x), l1, l2, l3, l4] [] S h n = mx_ex d 106 1 [some (2, x), l1, l2, l3, l4] [(2, x)] S h n) ∧
  (∀ (d : Nat) (a : Int) (l0 l1 l2 l3 l4 : Option mx_V) (S h : mx_H) (n : Int), mx_ex d 106 1 [l0, l1, l2, l3, l4] [(2, a)] S h n = mx_gd (7 ≤ S a (-2) ∧ S a (-2) ≤ 7) d 106 4 [l0, l1, l2, l3, l4] [(2, S a 3)] S h n) ∧
  (∀ (d : Nat) (x : Int) (l0 l2 l3 l4 : Option mx_V) (v0 : mx_V) (S h : mx_H) (n : Int), mx_ex d 106 4 [l0, some (0, x), l2, l3, l4] [v0] S h n = mx_ex d 106 5 [l0, some (0, x), l2, l3, l4] [(0, x), v0] S h n) ∧
  (∀ (d : Nat) (x0 a : Int) (l0 l1 l2 l3 l4 : Option mx_V) (S h : mx_H) (n : Int), mx_ex (d + 1) 106 5 [l0, l1, l2, l3, l4] [(0, x0), (2, a)] S h n = mx_cl (S a (-2) = 8) d 90 [(2, a), (0, x0)] 106 8 [l0, l1, l2, l3, l4] [] S h n) ∧
  (∀ (d : Nat) (x : Int) (l0 l1 l2 l3 l4 : Option mx_V) (S h : mx_H) (n : Int), mx_ex d 106 8 [l0, l1, l2, l3, l4] [(2, x)] S h n = mx_ex d 106 9 [l0, l1, mx_nl l2, some (2, x), l4] [] S h n) ∧
  (∀ (d : Nat) (x : Int) (l0 l1 l2 l4 : Option mx_V) (S h : mx_H) (n : Int), mx_ex d 106 9 [l0, l1, l2, some (2, x), l4] [] S h n = mx_ex d 106 10 [l0, l1, l2, some (2, x), l4] [(2, x)] S h n) ∧
  (∀ (d : Nat) (a : Int) (l0 l1 l2 l3 l4 : Option mx_V) (S h : mx_H) (n : Int), mx_ex d 106 10 [l0, l1, l2, l3, l4] [(2, a)] S h n = mx_br (a = -1) d 106 20 13 [l0, l1, l2, l3, l4] [] S h n) ∧
  (∀ (d : Nat) (x : Int) (l0 l1 l3 l4 : Option mx_V) (S h : mx_H) (n : Int), mx_ex d 106 13 [l0, l1, some (0, x), l3, l4] [] S h n = mx_ex d 106 14 [l0, l1, some (0, x), l3, l4] [(0, x)] S h n) ∧
  (∀ (d : Nat) (x0 : Int) (l0 l1 l2 l3 l4 : Option mx_V) (S h : mx_H) (n : Int), mx_ex (d + 1) 106 14 [l0, l1, l2, l3, l4] [(0, x0)] S h n = mx_rt (mx_M d 146 [(0, x0)] S h n) (d + 1) 106 17 [l0, l1, l2, l3, l4] []) ∧
  (∀ (d : Nat) (a : Int) (l0 l1 l2 l3 l4 : Option mx_V) (S h : mx_H) (n : Int), mx_ex d 106 17 [l0, l1, l2, l3, l4] [(0, a)] S h n = mx_br (a = 0) d 106 20 22 [l0, l1, l2, l3, l4] [] S h n) ∧
  (∀ (d : Nat) (l0 l1 l2 l3 l4 : Option mx_V) (S h : mx_H) (n : Int), mx_ex d 106 20 [l0, l1, l2, l3, l4] [] S h n = mx_ex d 106 21 [l0, l1, l2, l3, l4] [(0, (-1))] S h n) ∧
  (∀ (d : Nat) (x : Int) (l0 l1 l2 l3 l4 : Option mx_V) (S h : mx_H) (n : Int), mx_ex d 106 21 [l0, l1, l2, l3, l4] [(0, x)] S h n = some (some (0, x), S, h, n)) ∧
  (∀ (d : Nat) (x : Int) (l0 l1 l2 l4 : Option mx_V) (S h : mx_H) (n : Int), mx_ex d 106 22 [l0, l1, l2, some (2, x), l4] [] S h n = mx_ex d 106 23 [l0, l1, l2, some (2, x), l4] [(2, x)] S h n) ∧
  (∀ (d : Nat) (a : Int) (l0 l1 l2 l3 l4 : Option mx_V) (S h : mx_H) (n : Int), mx_ex d 106 23 [l0, l1, l2, l3, l4] [(2, a)] S h n = mx_gd (1 ≤ S a (-2) ∧ S a (-2) ≤ 6) d 106 26 [l0, l1, l2, l3, l4] [(0, h a 3)] S h n) ∧
  (∀ (d : Nat) (x : Int) (l0 l1 l2 l3 l4 : Option mx_V) (S h : mx_H) (n : Int), mx_ex d 106 26 [l0, l1, l2, l3, l4] [(0, x)] S h n = mx_ex d 106 28 [l0, l1, l2, mx_nl l3, some (0, x)] [] S h n) ∧
  (∀ (d : Nat) (x : Int) (l0 l1 l2 l4 : Option mx_V) (S h : mx_H) (n : Int), mx_ex d 106 28 [l0, l1, l2, some (2, x), l4] [] S h n = mx_ex d 106 29 [l0, l1, l2, some (2, x), l4] [(2, x)] S h n) ∧
  (∀ (d : Nat) (x : Int) (l0 l1 l3 l4 : Option mx_V) (v0 : mx_V) (S h : mx_H) (n : Int), mx_ex d 106 29 [l0, l1, some (0, x), l3, l4] [v0] S h n = mx_ex d 106 30 [l0, l1, some (0, x), l3, l4] [(0, x), v0] S h n) ∧
  (∀ (d : Nat) (v a : Int) (l0 l1 l2 l3 l4 : Option mx_V) (S h : mx_H) (n : Int), mx_ex d 106 30 [l0, l1, l2, l3, l4] [(0, v), (2, a)] S h n = mx_gd (1 ≤ S a (-2) ∧ S a (-2) ≤ 6) d 106 33 [l0, l1, l2, l3, l4] [] S (mx_u h a 3 v) n) ∧
  (∀ (d : Nat) (x : Int) (l1 l2 l3 l4 : Option mx_V) (S h : mx_H) (n : Int), mx_ex d 106 33 [some (2, x), l1, l2, l3, l4] [] S h n = mx_ex d 106 34 [some (2, x), l1, l2, l3, l4] [(2, x)] S h n) ∧
  (∀ (d : Nat) (a : Int) (l0 l1 l2 l3 l4 : Option mx_V) (S h : mx_H) (n : Int), mx_ex d 106 34 [l0, l1, l2, l3, l4] [(2, a)] S h n = mx_gd (7 ≤ S a (-2) ∧ S a (-2) ≤ 7) d 106 37 [l0, l1, l2, l3, l4] [(2, S a 3)] S h n) ∧
  (∀ (d : Nat) (a : Int) (l0 l1 l2 l3 l4 : Option mx_V) (S h : mx_H) (n : Int), mx_ex d 106 37 [l0, l1, l2, l3, l4] [(2, a)] S h n = mx_ex d 106 38 [l0, l1, l2, l3, l4] [(2, a), (2, a)] S h n) ∧
  (∀ (d : Nat) (a : Int) (l0 l1 l2 l3 l4 : Option mx_V) (v1 : mx_V) (S h : mx_H) (n : Int), mx_ex d 106 38 [l0, l1, l2, l3, l4] [(2, a), v1] S h n = mx_gd (8 ≤ S a (-2) ∧ S a (-2) ≤ 8) d 106 41 [l0, l1, l2, l3, l4] [(0, h a 5), v1] S h n) ∧
  (∀ (d : Nat) (l0 l1 l2 l3 l4 : Option mx_V) (v0 v1 : mx_V) (S h : mx_H) (n : Int), mx_ex d 106 41 [l0, l1, l2, l3, l4] [v0, v1] S h n = mx_ex d 106 42 [l0, l1, l2, l3, l4] [(0, 1), v0, v1] S h n) ∧
  (∀ (d : Nat) (b a : Int) (l0 l1 l2 l3 l4 : Option mx_V) (v2 : mx_V) (S h : mx_H) (n : Int), mx_ex d 106 42 [l0, l1, l2, l3, l4] [(0, b), (0, a), v2] S h n = mx_ex d 106 43 [l0, l1, l2, l3, l4] [(0, mx_w (a + b)), v2] S h n) ∧
  (∀ (d : Nat) (v a : Int) (l0 l1 l2 l3 l4 : Option mx_V) (S h : mx_H) (n : Int), mx_ex d 106 43 [l0, l1, l2, l3, l4] [(0, v), (2, a)] S h n = mx_gd (8 ≤ S a (-2) ∧ S a (-2) ≤ 8) d 106 46 [l0, l1, l2, l3, l4] [] S (mx_u h a 5 v) n) ∧
  (∀ (d : Nat) (x : Int) (l0 l1 l2 l3 : Option mx_V) (S h : mx_H) (n : Int), mx_ex d 106 46 [l0, l1, l2, l3, some (0, x)] [] S h n = mx_ex d 106 48 [l0, l1, l2, l3, some (0, x)] [(0, x)] S h n) ∧
  (∀ (d : Nat) (x : Int) (l0 l1 l2 l3 l4 : Option mx_V) (S h : mx_H) (n : Int), mx_ex d 106 48 [l0, l1, l2, l3, l4] [(0, x)] S h n = some (some (0, x), S, h, n)) :=
  ⟨by intros; exact rfl,
   by intros; exact eq_ld rfl rfl,
   by intros; exact eq_gr rfl,
   by intros; exact eq_ld rfl rfl,
   by intros; exact eq_cv rfl (Nat.le_of_ble_eq_true rfl) rfl rfl rfl (Nat.le_of_ble_eq_true rfl),
   by intros; exact eq_st rfl (by decide) (Nat.le_of_ble_eq_true rfl) rfl,
   by intros; exact eq_ld rfl rfl,
   by intros; exact eq_nul rfl,
   by intros; exact eq_ld rfl rfl,
   by intros; exact eq_cs rfl (Nat.le_of_ble_eq_true rfl) rfl rfl rfl (Nat.le_of_ble_eq_true rfl),
   by intros; exact eq_if1 rfl,
   by intros; exact eq_push rfl,
   by intros; exact eq_ret rfl,
   by intros; exact eq_ld rfl rfl,
   by intros; exact eq_gi rfl,
   by intros; exact eq_st rfl (by decide) (Nat.le_of_ble_eq_true rfl) rfl,
   by intros; exact eq_ld rfl rfl,
   by intros; exact eq_ld rfl rfl,
   by intros; exact eq_pi rfl,
   by intros; exact eq_ld rfl rfl,
   by intros; exact eq_gr rfl,
   by intros; exact eq_dup rfl (by decide),
   by intros; exact eq_gi rfl,
   by intros; exact eq_push rfl,
   by intros; exact eq_i2 (o := mx_add) rfl,
   by intros; exact eq_pi rfl,
   by intros; exact eq_ld rfl rfl,
   by intros; exact eq_ret rfl⟩
theorem rw_X11_worth :
  (∀ (d : Nat) (a0 a1 a2 : Int) (S h : mx_H) (n : Int), mx_M d 107 [(2, a0), (0, a1), (0, a2)] S h n = mx_ex d 107 0 [some (2, a0), some (0, a1), some (0, a2), none] [] S h n) ∧
  (∀ (d : Nat) (x : Int) (l1 l2 l3 : Option mx_V) (S h : mx_H) (n : Int), mx_ex d 107 0 [some (2, x), l1, l2, l3] [] S h n = mx_ex d 107 1 [some (2, x), l1, l2, l3] [(2, x)] S h n) ∧
  (∀ (d : Nat) (a : Int) (l0 l1 l2 l3 : Option mx_V) (S h : mx_H) (n : Int), mx_ex d 107 1 [l0, l1, l2, l3] [(2, a)] S h n = mx_gd (7 ≤ S a (-2) ∧ S a (-2) ≤ 7) d 107 4 [l0, l1, l2, l3] [(2, S a 3)] S h n) ∧
  (∀ (d : Nat) (x : Int) (l0 l2 l3 : Option mx_V) (v0 : mx_V) (S h : mx_H) (n : Int), mx_ex d 107 4 [l0, some (0, x), l2, l3] [v0] S h n = mx_ex d 107 5 [l0, some (0, x), l2, l3] [(0, x), v0] S h n) ∧
  (∀ (d : Nat) (x0 a : Int) (l0 l1 l2 l3 : Option mx_V) (S h : mx_H) (n : Int), mx_ex (d + 1) 107 5 [l0, l1, l2, l3] [(0, x0), (2, a)] S h n = mx_cl (S a (-2) = 8) d 90 [(2, a), (0, x0)] 107 8 [l0, l1, l2, l3] [] S h n) ∧
  (∀ (d : Nat) (x : Int) (l0 l1 l2 l3 : Option mx_V) (S h : mx_H) (n : Int), mx_ex d 107 8 [l0, l1, l2, l3] [(2, x)] S h n = mx_ex d 107 9 [l0, l1, mx_nl l2, some (2, x)] [] S h n) ∧
  (∀ (d : Nat) (x : Int) (l0 l1 l2 : Option mx_V) (S h : mx_H) (n : Int), mx_ex d 107 9 [l0, l1, l2, some (2, x)] [] S h n = mx_ex d 107 10 [l0, l1, l2, some (2, x)] [(2, x)] S h n) ∧
  (∀ (d : Nat) (a : Int) (l0 l1 l2 l3 : Option mx_V) (S h : mx_H) (n : Int), mx_ex d 107 10 [l0, l1, l2, l3] [(2, a)] S h n = mx_br (a = -1) d 107 20 13 [l0, l1, l2, l3] [] S h n) ∧
  (∀ (d : Nat) (x : Int) (l0 l1 l3 : Option mx_V) (S h : mx_H) (n : Int), mx_ex d 107 13 [l0, l1, some (0, x), l3] [] S h n = mx_ex d 107 14 [l0, l1, some (0, x), l3] [(0, x)] S h n) ∧
  (∀ (d : Nat) (x0 : Int) (l0 l1 l2 l3 : Option mx_V) (S h : mx_H) (n : Int), mx_ex (d + 1) 107 14 [l0, l1, l2, l3] [(0, x0)] S h n = mx_rt (mx_M d 147 [(0, x0)] S h n) (d + 1) 107 17 [l0, l1, l2, l3] []) ∧
  (∀ (d : Nat) (a : Int) (l0 l1 l2 l3 : Option mx_V) (S h : mx_H) (n : Int), mx_ex d 107 17 [l0, l1, l2, l3] [(0, a)] S h n = mx_br (a = 0) d 107 20 26 [l0, l1, l2, l3] [] S h n) ∧
  (∀ (d : Nat) (l0 l1 l2 l3 : Option mx_V) (S h : mx_H) (n : Int), mx_ex d 107 20 [l0, l1, l2, l3] [] S h n = mx_ex d 107 23 [l0, l1, l2, l3] [(1, (-1000000000000))] S h n) ∧
  (∀ (d : Nat) (l0 l1 l2 l3 : Option mx_V) (v0 : mx_V) (S h : mx_H) (n : Int), mx_ex d 107 23 [l0, l1, l2, l3] [v0] S h n = mx_ex d 107 32 [l0, l1, l2, l3] [v0] S h n) ∧
  (∀ (d : Nat) (x : Int) (l0 l1 l2 : Option mx_V) (S h : mx_H) (n : Int), mx_ex d 107 26 [l0, l1, l2, some (2, x)] [] S h n = mx_ex d 107 27 [l0, l1, l2, some (2, x)] [(2, x)] S h n) ∧
  (∀ (d : Nat) (x : Int) (l0 l1 l3 : Option mx_V) (v0 : mx_V) (S h : mx_H) (n : Int), mx_ex d 107 27 [l0, l1, some (0, x), l3] [v0] S h n = mx_ex d 107 28 [l0, l1, some (0, x), l3] [(0, x), v0] S h n) ∧
  (∀ (d : Nat) (x0 a : Int) (l0 l1 l2 l3 : Option mx_V) (S h : mx_H) (n : Int), mx_ex (d + 1) 107 28 [l0, l1, l2, l3] [(0, x0), (2, a)] S h n = mx_cu (mx_vt (S a (-2)) [(1, 43), (2, 56), (3, 3), (4, 3), (5, 81), (6, 9)]) d [(2, a), (0, x0)] 107 31 [l0, l1, l2, l3] [] S h n) ∧
  (∀ (d : Nat) (a : Int) (l0 l1 l2 l3 : Option mx_V) (S h : mx_H) (n : Int), mx_ex d 107 31 [l0, l1, l2, l3] [(0, a)] S h n = mx_ex d 107 32 [l0, l1, l2, l3] [(1, a)] S h n) ∧
  (∀ (d : Nat) (x : Int) (l0 l1 l2 l3 : Option mx_V) (S h : mx_H) (n : Int), mx_ex d 107 32 [l0, l1, l2, l3] [(1, x)] S h n = some (some (1, x), S, h, n)) :=
  ⟨by intros; exact rfl,
   by intros; exact eq_ld rfl rfl,
   by intros; exact eq_gr rfl,
   by intros; exact eq_ld rfl rfl,
   by intros; exact eq_cv rfl (Nat.le_of_ble_eq_true rfl) rfl rfl rfl (Nat.le_of_ble_eq_true rfl),
   by intros; exact eq_st rfl (by decide) (Nat.le_of_ble_eq_true rfl) rfl,
   by intros; exact eq_ld rfl rfl,
   by intros; exact eq_nul rfl,
   by intros; exact eq_ld rfl rfl,
   by intros; exact eq_cs rfl (Nat.le_of_ble_eq_true rfl) rfl rfl rfl (Nat.le_of_ble_eq_true rfl),
   by intros; exact eq_if1 rfl,
   by intros; exact eq_push rfl,
   by intros; exact eq_go rfl,
   by intros; exact eq_ld rfl rfl,
   by intros; exact eq_ld rfl rfl,
   by intros; exact eq_cu rfl (Nat.le_of_ble_eq_true rfl) rfl rfl rfl (Nat.le_of_ble_eq_true rfl),
   by intros; exact eq_i2l rfl,
   by intros; exact eq_ret rfl⟩
theorem rw_X11_can :
  (∀ (d : Nat) (a0 a1 : Int) (S h : mx_H) (n : Int), mx_M d 108 [(2, a0), (0, a1)] S h n = mx_ex d 108 0 [some (2, a0), some (0, a1), none] [] S h n) ∧
  (∀ (d : Nat) (x : Int) (l1 l2 : Option mx_V) (S h : mx_H) (n : Int), mx_ex d 108 0 [some (2, x), l1, l2] [] S h n = mx_ex d 108 1 [some (2, x), l1, l2] [(2, x)] S h n) ∧
  (∀ (d : Nat) (a : Int) (l0 l1 l2 : Option mx_V) (S h : mx_H) (n : Int), mx_ex d 108 1 [l0, l1, l2] [(2, a)] S h n = mx_gd (7 ≤ S a (-2) ∧ S a (-2) ≤ 7) d 108 4 [l0, l1, l2] [(2, S a 3)] S h n) ∧
  (∀ (d : Nat) (x : Int) (l0 l2 : Option mx_V) (v0 : mx_V) (S h : mx_H) (n : Int), mx_ex d 108 4 [l0, some (0, x), l2] [v0] S h n = mx_ex d 108 5 [l0, some (0, x), l2] [(0, x), v0] S h n) ∧
  (∀ (d : Nat) (x0 a : Int) (l0 l1 l2 : Option mx_V) (S h : mx_H) (n : Int), mx_ex (d + 1) 108 5 [l0, l1, l2] [(0, x0), (2, a)] S h n = mx_cl (S a (-2) = 8) d 90 [(2, a), (0, x0)] 108 8 [l0, l1, l2] [] S h n) ∧
  (∀ (d : Nat) (x : Int) (l0 l1 l2 : Option mx_V) (S h : mx_H) (n : Int), mx_ex d 108 8 [l0, l1, l2] [(2, x)] S h n = mx_ex d 108 9 [l0, mx_nl l1, some (2, x)] [] S h n) ∧
  (∀ (d : Nat) (x : Int) (l0 l1 : Option mx_V) (S h : mx_H) (n : Int), mx_ex d 108 9 [l0, l1, some (2, x)] [] S h n = mx_ex d 108 10 [l0, l1, some (2, x)] [(2, x)] S h n) ∧
  (∀ (d : Nat) (a : Int) (l0 l1 l2 : Option mx_V) (S h : mx_H) (n : Int), mx_ex d 108 10 [l0, l1, l2] [(2, a)] S h n = mx_br (a = -1) d 108 13 17 [l0, l1, l2] [] S h n) ∧
  (∀ (d : Nat) (l0 l1 l2 : Option mx_V) (S h : mx_H) (n : Int), mx_ex d 108 13 [l0, l1, l2] [] S h n = mx_ex d 108 14 [l0, l1, l2] [(0, (-1))] S h n) ∧
  (∀ (d : Nat) (l0 l1 l2 : Option mx_V) (v0 : mx_V) (S h : mx_H) (n : Int), mx_ex d 108 14 [l0, l1, l2] [v0] S h n = mx_ex d 108 21 [l0, l1, l2] [v0] S h n) ∧
  (∀ (d : Nat) (x : Int) (l0 l1 : Option mx_V) (S h : mx_H) (n : Int), mx_ex d 108 17 [l0, l1, some (2, x)] [] S h n = mx_ex d 108 18 [l0, l1, some (2, x)] [(2, x)] S h n) ∧
  (∀ (d : Nat) (a : Int) (l0 l1 l2 : Option mx_V) (S h : mx_H) (n : Int), mx_ex (d + 1) 108 18 [l0, l1, l2] [(2, a)] S h n = mx_cl (1 ≤ S a (-2) ∧ S a (-2) ≤ 6) d 45 [(2, a)] 108 21 [l0, l1, l2] [] S h n) ∧
  (∀ (d : Nat) (x : Int) (l0 l1 l2 : Option mx_V) (S h : mx_H) (n : Int), mx_ex d 108 21 [l0, l1, l2] [(0, x)] S h n = some (some (0, x), S, h, n)) :=
  ⟨by intros; exact rfl,
   by intros; exact eq_ld rfl rfl,
   by intros; exact eq_gr rfl,
   by intros; exact eq_ld rfl rfl,
   by intros; exact eq_cv rfl (Nat.le_of_ble_eq_true rfl) rfl rfl rfl (Nat.le_of_ble_eq_true rfl),
   by intros; exact eq_st rfl (by decide) (Nat.le_of_ble_eq_true rfl) rfl,
   by intros; exact eq_ld rfl rfl,
   by intros; exact eq_nul rfl,
   by intros; exact eq_push rfl,
   by intros; exact eq_go rfl,
   by intros; exact eq_ld rfl rfl,
   by intros; exact eq_ci rfl (Nat.le_of_ble_eq_true rfl) rfl rfl rfl (Nat.le_of_ble_eq_true rfl),
   by intros; exact eq_ret rfl⟩
theorem rw_X11_line :
  (∀ (d : Nat) (a0 a1 a2 a3 a4 : Int) (S h : mx_H) (n : Int), mx_M d 109 [(2, a0), (0, a1), (0, a2), (0, a3), (0, a4)] S h n = mx_ex d 109 0 [some (2, a0), some (0, a1), some (0, a2), some (0, a3), some (0, a4)] [] S h n) ∧
  (∀ (d : Nat) (x : Int) (l0 l2 l3 l4 : Option mx_V) (S h : mx_H) (n : Int), mx_ex d 109 0 [l0, some (0, x), l2, l3, l4] [] S h n = mx_ex d 109 1 [l0, some (0, x), l2, l3, l4] [(0, x)] S h n) ∧
  (∀ (d : Nat) (l0 l1 l2 l3 l4 : Option mx_V) (v0 : mx_V) (S h : mx_H) (n : Int), mx_ex d 109 1 [l0, l1, l2, l3, l4] [v0] S h n = mx_ex d 109 2 [l0, l1, l2, l3, l4] [(0, 0), v0] S h n) ∧
  (∀ (d : Nat) (l0 l1 l2 l3 l4 : Option mx_V) (v0 v1 : mx_V) (S h : mx_H) (n : Int), mx_ex d 109 2 [l0, l1, l2, l3, l4] [v0, v1] S h n = mx_ex d 109 3 [l0, l1, l2, l3, l4] [(0, 3), v0, v1] S h n) ∧
  (∀ (d : Nat) (x0 x1 x2 : Int) (l0 l1 l2 l3 l4 : Option mx_V) (S h : mx_H) (n : Int), mx_ex (d + 1) 109 3 [l0, l1, l2, l3, l4] [(0, x0), (0, x1), (0, x2)] S h n = mx_rt (mx_M d 145 [(0, x2), (0, x1), (0, x0)] S h n) (d + 1) 109 6 [l0, l1, l2, l3, l4] []) ∧
  (∀ (d : Nat) (a : Int) (l0 l1 l2 l3 l4 : Option mx_V) (S h : mx_H) (n : Int), mx_ex d 109 6 [l0, l1, l2, l3, l4] [(0, a)] S h n = mx_br (a = 0) d 109 20 9 [l0, l1, l2, l3, l4] [] S h n) ∧
  (∀ (d : Nat) (x : Int) (l1 l2 l3 l4 : Option mx_V) (S h : mx_H) (n : Int), mx_ex d 109 9 [some (2, x), l1, l2, l3, l4] [] S h n = mx_ex d 109 10 [some (2, x), l1, l2, l3, l4] [(2, x)] S h n) ∧
  (∀ (d : Nat) (a : Int) (l0 l1 l2 l3 l4 : Option mx_V) (S h : mx_H) (n : Int), mx_ex d 109 10 [l0, l1, l2, l3, l4] [(2, a)] S h n = mx_gd (7 ≤ S a (-2) ∧ S a (-2) ≤ 7) d 109 13 [l0, l1, l2, l3, l4] [(2, S a 3)] S h n) ∧
  (∀ (d : Nat) (x : Int) (l0 l1 l3 l4 : Option mx_V) (v0 : mx_V) (S h : mx_H) (n : Int), mx_ex d 109 13 [l0, l1, some (0, x), l3, l4] [v0] S h n = mx_ex d 109 14 [l0, l1, some (0, x), l3, l4] [(0, x), v0] S h n) ∧
  (∀ (d : Nat) (x0 a : Int) (l0 l1 l2 l3 l4 : Option mx_V) (S h : mx_H) (n : Int), mx_ex (d + 1) 109 14 [l0, l1, l2, l3, l4] [(0, x0), (2, a)] S h n = mx_cl (S a (-2) = 8) d 90 [(2, a), (0, x0)] 109 17 [l0, l1, l2, l3, l4] [] S h n) ∧
  (∀ (d : Nat) (a : Int) (l0 l1 l2 l3 l4 : Option mx_V) (S h : mx_H) (n : Int), mx_ex d 109 17 [l0, l1, l2, l3, l4] [(2, a)] S h n = mx_br (a = -1) d 109 20 22 [l0, l1, l2, l3, l4] [] S h n) ∧
  (∀ (d : Nat) (l0 l1 l2 l3 l4 : Option mx_V) (S h : mx_H) (n : Int), mx_ex d 109 20 [l0, l1, l2, l3, l4] [] S h n = mx_ex d 109 21 [l0, l1, l2, l3, l4] [(0, (-1))] S h n) ∧
  (∀ (d : Nat) (x : Int) (l0 l1 l2 l3 l4 : Option mx_V) (S h : mx_H) (n : Int), mx_ex d 109 21 [l0, l1, l2, l3, l4] [(0, x)] S h n = some (some (0, x), S, h, n)) ∧
  (∀ (d : Nat) (x : Int) (l0 l2 l3 l4 : Option mx_V) (S h : mx_H) (n : Int), mx_ex d 109 22 [l0, some (0, x), l2, l3, l4] [] S h n = mx_ex d 109 23 [l0, some (0, x), l2, l3, l4] [(0, x)] S h n) ∧
  (∀ (d : Nat) (l0 l1 l2 l3 l4 : Option mx_V) (v0 : mx_V) (S h : mx_H) (n : Int), mx_ex d 109 23 [l0, l1, l2, l3, l4] [v0] S h n = mx_ex d 109 24 [l0, l1, l2, l3, l4] [(0, 3), v0] S h n) ∧
  (∀ (d : Nat) (b a : Int) (l0 l1 l2 l3 l4 : Option mx_V) (S h : mx_H) (n : Int), mx_ex d 109 24 [l0, l1, l2, l3, l4] [(0, b), (0, a)] S h n = mx_br (a = b) d 109 40 27 [l0, l1, l2, l3, l4] [] S h n) ∧
  (∀ (d : Nat) (x : Int) (l1 l2 l3 l4 : Option mx_V) (S h : mx_H) (n : Int), mx_ex d 109 27 [some (2, x), l1, l2, l3, l4] [] S h n = mx_ex d 109 28 [some (2, x), l1, l2, l3, l4] [(2, x)] S h n) ∧
  (∀ (d : Nat) (a : Int) (l0 l1 l2 l3 l4 : Option mx_V) (S h : mx_H) (n : Int), mx_ex d 109 28 [l0, l1, l2, l3, l4] [(2, a)] S h n = mx_gd (7 ≤ S a (-2) ∧ S a (-2) ≤ 7) d 109 31 [l0, l1, l2, l3, l4] [(2, S a 3)] S h n) ∧
  (∀ (d : Nat) (x : Int) (l0 l1 l2 l4 : Option mx_V) (v0 : mx_V) (S h : mx_H) (n : Int), mx_ex d 109 31 [l0, l1, l2, some (0, x), l4] [v0] S h n = mx_ex d 109 32 [l0, l1, l2, some (0, x), l4] [(0, x), v0] S h n) ∧
  (∀ (d : Nat) (x0 a : Int) (l0 l1 l2 l3 l4 : Option mx_V) (S h : mx_H) (n : Int), mx_ex (d + 1) 109 32 [l0, l1, l2, l3, l4] [(0, x0), (2, a)] S h n = mx_cl (S a (-2) = 8) d 90 [(2, a), (0, x0)] 109 35 [l0, l1, l2, l3, l4] [] S h n) ∧
  (∀ (d : Nat) (a : Int) (l0 l1 l2 l3 l4 : Option mx_V) (S h : mx_H) (n : Int), mx_ex d 109 35 [l0, l1, l2, l3, l4] [(2, a)] S h n = mx_br (a = -1) d 109 38 40 [l0, l1, l2, l3, l4] [] S h n) ∧
  (∀ (d : Nat) (l0 l1 l2 l3 l4 : Option mx_V) (S h : mx_H) (n : Int), mx_ex d 109 38 [l0, l1, l2, l3, l4] [] S h n = mx_ex d 109 39 [l0, l1, l2, l3, l4] [(0, (-1))] S h n) ∧
  (∀ (d : Nat) (x : Int) (l0 l1 l2 l3 l4 : Option mx_V) (S h : mx_H) (n : Int), mx_ex d 109 39 [l0, l1, l2, l3, l4] [(0, x)] S h n = some (some (0, x), S, h, n)) ∧
  (∀ (d : Nat) (x : Int) (l0 l2 l3 l4 : Option mx_V) (S h : mx_H) (n : Int), mx_ex d 109 40 [l0, some (0, x), l2, l3, l4] [] S h n = mx_ex d 109 41 [l0, some (0, x), l2, l3, l4] [(0, x)] S h n) ∧
  (∀ (d : Nat) (l0 l1 l2 l3 l4 : Option mx_V) (v0 : mx_V) (S h : mx_H) (n : Int), mx_ex d 109 41 [l0, l1, l2, l3, l4] [v0] S h n = mx_ex d 109 42 [l0, l1, l2, l3, l4] [(0, 2), v0] S h n) ∧
  (∀ (d : Nat) (b a : Int) (l0 l1 l2 l3 l4 : Option mx_V) (S h : mx_H) (n : Int), mx_ex d 109 42 [l0, l1, l2, l3, l4] [(0, b), (0, a)] S h n = mx_br (a = b) d 109 45 59 [l0, l1, l2, l3, l4] [] S h n) ∧
  (∀ (d : Nat) (x : Int) (l1 l2 l3 l4 : Option mx_V) (S h : mx_H) (n : Int), mx_ex d 109 45 [some (2, x), l1, l2, l3, l4] [] S h n = mx_ex d 109 46 [some (2, x), l1, l2, l3, l4] [(2, x)] S h n) ∧
  (∀ (d : Nat) (a : Int) (l0 l1 l2 l3 l4 : Option mx_V) (S h : mx_H) (n : Int), mx_ex d 109 46 [l0, l1, l2, l3, l4] [(2, a)] S h n = mx_gd (7 ≤ S a (-2) ∧ S a (-2) ≤ 7) d 109 49 [l0, l1, l2, l3, l4] [(2, S a 3)] S h n) ∧
  (∀ (d : Nat) (x : Int) (l0 l1 l2 l3 : Option mx_V) (v0 : mx_V) (S h : mx_H) (n : Int), mx_ex d 109 49 [l0, l1, l2, l3, some (0, x)] [v0] S h n = mx_ex d 109 51 [l0, l1, l2, l3, some (0, x)] [(0, x), v0] S h n) ∧
  (∀ (d : Nat) (x0 a : Int) (l0 l1 l2 l3 l4 : Option mx_V) (S h : mx_H) (n : Int), mx_ex (d + 1) 109 51 [l0, l1, l2, l3, l4] [(0, x0), (2, a)] S h n = mx_cl (S a (-2) = 8) d 90 [(2, a), (0, x0)] 109 54 [l0, l1, l2, l3, l4] [] S h n) ∧
  (∀ (d : Nat) (a : Int) (l0 l1 l2 l3 l4 : Option mx_V) (S h : mx_H) (n : Int), mx_ex d 109 54 [l0, l1, l2, l3, l4] [(2, a)] S h n = mx_br (a = -1) d 109 57 59 [l0, l1, l2, l3, l4] [] S h n) ∧
  (∀ (d : Nat) (l0 l1 l2 l3 l4 : Option mx_V) (S h : mx_H) (n : Int), mx_ex d 109 57 [l0, l1, l2, l3, l4] [] S h n = mx_ex d 109 58 [l0, l1, l2, l3, l4] [(0, (-1))] S h n) ∧
  (∀ (d : Nat) (x : Int) (l0 l1 l2 l3 l4 : Option mx_V) (S h : mx_H) (n : Int), mx_ex d 109 58 [l0, l1, l2, l3, l4] [(0, x)] S h n = some (some (0, x), S, h, n)) ∧
  (∀ (d : Nat) (x : Int) (l0 l2 l3 l4 : Option mx_V) (S h : mx_H) (n : Int), mx_ex d 109 59 [l0, some (0, x), l2, l3, l4] [] S h n = mx_ex d 109 60 [l0, some (0, x), l2, l3, l4] [(0, x)] S h n) ∧
  (∀ (d : Nat) (l0 l1 l2 l3 l4 : Option mx_V) (v0 : mx_V) (S h : mx_H) (n : Int), mx_ex d 109 60 [l0, l1, l2, l3, l4] [v0] S h n = mx_ex d 109 61 [l0, l1, l2, l3, l4] [(0, 3), v0] S h n) ∧
  (∀ (d : Nat) (b a : Int) (l0 l1 l2 l3 l4 : Option mx_V) (S h : mx_H) (n : Int), mx_ex d 109 61 [l0, l1, l2, l3, l4] [(0, b), (0, a)] S h n = mx_br (a = b) d 109 64 77 [l0, l1, l2, l3, l4] [] S h n) ∧
  (∀ (d : Nat) (x : Int) (l0 l1 l2 l3 : Option mx_V) (S h : mx_H) (n : Int), mx_ex d 109 64 [l0, l1, l2, l3, some (0, x)] [] S h n = mx_ex d 109 66 [l0, l1, l2, l3, some (0, x)] [(0, x)] S h n) ∧
  (∀ (d : Nat) (l0 l1 l2 l3 l4 : Option mx_V) (v0 : mx_V) (S h : mx_H) (n : Int), mx_ex d 109 66 [l0, l1, l2, l3, l4] [v0] S h n = mx_ex d 109 67 [l0, l1, l2, l3, l4] [(0, 1), v0] S h n) ∧
  (∀ (d : Nat) (l0 l1 l2 l3 l4 : Option mx_V) (v0 v1 : mx_V) (S h : mx_H) (n : Int), mx_ex d 109 67 [l0, l1, l2, l3, l4] [v0, v1] S h n = mx_ex d 109 69 [l0, l1, l2, l3, l4] [(0, 99), v0, v1] S h n) ∧
  (∀ (d : Nat) (x0 x1 x2 : Int) (l0 l1 l2 l3 l4 : Option mx_V) (S h : mx_H) (n : Int), mx_ex (d + 1) 109 69 [l0, l1, l2, l3, l4] [(0, x0), (0, x1), (0, x2)] S h n = mx_rt (mx_M d 145 [(0, x2), (0, x1), (0, x0)] S h n) (d + 1) 109 72 [l0, l1, l2, l3, l4] []) ∧
  (∀ (d : Nat) (a : Int) (l0 l1 l2 l3 l4 : Option mx_V) (S h : mx_H) (n : Int), mx_ex d 109 72 [l0, l1, l2, l3, l4] [(0, a)] S h n = mx_br (a = 0) d 109 75 77 [l0, l1, l2, l3, l4] [] S h n) ∧
  (∀ (d : Nat) (l0 l1 l2 l3 l4 : Option mx_V) (S h : mx_H) (n : Int), mx_ex d 109 75 [l0, l1, l2, l3, l4] [] S h n = mx_ex d 109 76 [l0, l1, l2, l3, l4] [(0, (-1))] S h n) ∧
  (∀ (d : Nat) (x : Int) (l0 l1 l2 l3 l4 : Option mx_V) (S h : mx_H) (n : Int), mx_ex d 109 76 [l0, l1, l2, l3, l4] [(0, x)] S h n = some (some (0, x), S, h, n)) ∧
  (∀ (d : Nat) (x : Int) (l1 l2 l3 l4 : Option mx_V) (S h : mx_H) (n : Int), mx_ex d 109 77 [some (2, x), l1, l2, l3, l4] [] S h n = mx_ex d 109 78 [some (2, x), l1, l2, l3, l4] [(2, x)] S h n) ∧
  (∀ (d : Nat) (a : Int) (l0 l1 l2 l3 l4 : Option mx_V) (S h : mx_H) (n : Int), mx_ex d 109 78 [l0, l1, l2, l3, l4] [(2, a)] S h n = mx_gd (7 ≤ S a (-2) ∧ S a (-2) ≤ 7) d 109 81 [l0, l1, l2, l3, l4] [(2, S a 3)] S h n) ∧
  (∀ (d : Nat) (a : Int) (l0 l1 l2 l3 l4 : Option mx_V) (S h : mx_H) (n : Int), mx_ex d 109 81 [l0, l1, l2, l3, l4] [(2, a)] S h n = mx_gd (8 ≤ S a (-2) ∧ S a (-2) ≤ 8) d 109 84 [l0, l1, l2, l3, l4] [(0, h a 4)] S h n) ∧
  (∀ (d : Nat) (l0 l1 l2 l3 l4 : Option mx_V) (v0 : mx_V) (S h : mx_H) (n : Int), mx_ex d 109 84 [l0, l1, l2, l3, l4] [v0] S h n = mx_ex d 109 86 [l0, l1, l2, l3, l4] [(0, 6), v0] S h n) ∧
  (∀ (d : Nat) (b a : Int) (l0 l1 l2 l3 l4 : Option mx_V) (S h : mx_H) (n : Int), mx_ex d 109 86 [l0, l1, l2, l3, l4] [(0, b), (0, a)] S h n = mx_br (a < b) d 109 92 89 [l0, l1, l2, l3, l4] [] S h n) ∧
  (∀ (d : Nat) (l0 l1 l2 l3 l4 : Option mx_V) (S h : mx_H) (n : Int), mx_ex d 109 89 [l0, l1, l2, l3, l4] [] S h n = mx_ex d 109 91 [l0, l1, l2, l3, l4] [(0, (-2))] S h n) ∧
  (∀ (d : Nat) (x : Int) (l0 l1 l2 l3 l4 : Option mx_V) (S h : mx_H) (n : Int), mx_ex d 109 91 [l0, l1, l2, l3, l4] [(0, x)] S h n = some (some (0, x), S, h, n)) ∧
  (∀ (d : Nat) (x : Int) (l1 l2 l3 l4 : Option mx_V) (S h : mx_H) (n : Int), mx_ex d 109 92 [some (2, x), l1, l2, l3, l4] [] S h n = mx_ex d 109 93 [some (2, x), l1, l2, l3, l4] [(2, x)] S h n) ∧
  (∀ (d : Nat) (a : Int) (l0 l1 l2 l3 l4 : Option mx_V) (S h : mx_H) (n : Int), mx_ex d 109 93 [l0, l1, l2, l3, l4] [(2, a)] S h n = mx_gd (7 ≤ S a (-2) ∧ S a (-2) ≤ 7) d 109 96 [l0, l1, l2, l3, l4] [(2, S a 3)] S h n) ∧
  (∀ (d : Nat) (x : Int) (l0 l2 l3 l4 : Option mx_V) (v0 : mx_V) (S h : mx_H) (n : Int), mx_ex d 109 96 [l0, some (0, x), l2, l3, l4] [v0] S h n = mx_ex d 109 97 [l0, some (0, x), l2, l3, l4] [(0, x), v0] S h n) ∧
  (∀ (d : Nat) (x : Int) (l0 l1 l3 l4 : Option mx_V) (v0 v1 : mx_V) (S h : mx_H) (n : Int), mx_ex d 109 97 [l0, l1, some (0, x), l3, l4] [v0, v1] S h n = mx_ex d 109 98 [l0, l1, some (0, x), l3, l4] [(0, x), v0, v1] S h n) ∧
  (∀ (d : Nat) (x : Int) (l0 l1 l2 l4 : Option mx_V) (v0 v1 v2 : mx_V) (S h : mx_H) (n : Int), mx_ex d 109 98 [l0, l1, l2, some (0, x), l4] [v0, v1, v2] S h n = mx_ex d 109 99 [l0, l1, l2, some (0, x), l4] [(0, x), v0, v1, v2] S h n) ∧
  (∀ (d : Nat) (x : Int) (l0 l1 l2 l3 : Option mx_V) (v0 v1 v2 v3 : mx_V) (S h : mx_H) (n : Int), mx_ex d 109 99 [l0, l1, l2, l3, some (0, x)] [v0, v1, v2, v3] S h n = mx_ex d 109 101 [l0, l1, l2, l3, some (0, x)] [(0, x), v0, v1, v2, v3] S h n) ∧
  (∀ (d : Nat) (x0 x1 x2 x3 a : Int) (l0 l1 l2 l3 l4 : Option mx_V) (S h : mx_H) (n : Int), mx_ex (d + 1) 109 101 [l0, l1, l2, l3, l4] [(0, x0), (0, x1), (0, x2), (0, x3), (2, a)] S h n = mx_cl (S a (-2) = 8) d 92 [(2, a), (0, x3), (0, x2), (0, x1), (0, x0)] 109 104 [l0, l1, l2, l3, l4] [] S h n) ∧
  (∀ (d : Nat) (x : Int) (l0 l1 l2 l3 l4 : Option mx_V) (S h : mx_H) (n : Int), mx_ex d 109 104 [l0, l1, l2, l3, l4] [(0, x)] S h n = some (some (0, x), S, h, n)) :=
  ⟨by intros; exact rfl,
   by intros; exact eq_ld rfl rfl,
   by intros; exact eq_push rfl,
   by intros; exact eq_push rfl,
   by intros; exact eq_cs rfl (Nat.le_of_ble_eq_true rfl) rfl rfl rfl (Nat.le_of_ble_eq_true rfl),
   by intros; exact eq_if0 rfl,
   by intros; exact eq_ld rfl rfl,
   by intros; exact eq_gr rfl,
   by intros; exact eq_ld rfl rfl,
   by intros; exact eq_cv rfl (Nat.le_of_ble_eq_true rfl) rfl rfl rfl (Nat.le_of_ble_eq_true rfl),
   by intros; exact eq_nul rfl,
   by intros; exact eq_push rfl,
   by intros; exact eq_ret rfl,
   by intros; exact eq_ld rfl rfl,
   by intros; exact eq_push rfl,
   by intros; exact eq_ic0 rfl,
   by intros; exact eq_ld rfl rfl,
   by intros; exact eq_gr rfl,
   by intros; exact eq_ld rfl rfl,
   by intros; exact eq_cv rfl (Nat.le_of_ble_eq_true rfl) rfl rfl rfl (Nat.le_of_ble_eq_true rfl),
   by intros; exact eq_nul rfl,
   by intros; exact eq_push rfl,
   by intros; exact eq_ret rfl,
   by intros; exact eq_ld rfl rfl,
   by intros; exact eq_push rfl,
   by intros; exact eq_ic1 rfl,
   by intros; exact eq_ld rfl rfl,
   by intros; exact eq_gr rfl,
   by intros; exact eq_ld rfl rfl,
   by intros; exact eq_cv rfl (Nat.le_of_ble_eq_true rfl) rfl rfl rfl (Nat.le_of_ble_eq_true rfl),
   by intros; exact eq_nul rfl,
   by intros; exact eq_push rfl,
   by intros; exact eq_ret rfl,
   by intros; exact eq_ld rfl rfl,
   by intros; exact eq_push rfl,
   by intros; exact eq_ic1 rfl,
   by intros; exact eq_ld rfl rfl,
   by intros; exact eq_push rfl,
   by intros; exact eq_push rfl,
   by intros; exact eq_cs rfl (Nat.le_of_ble_eq_true rfl) rfl rfl rfl (Nat.le_of_ble_eq_true rfl),
   by intros; exact eq_if1 rfl,
   by intros; exact eq_push rfl,
   by intros; exact eq_ret rfl,
   by intros; exact eq_ld rfl rfl,
   by intros; exact eq_gr rfl,
   by intros; exact eq_gi rfl,
   by intros; exact eq_push rfl,
   by intros; exact eq_ic2 rfl,
   by intros; exact eq_push rfl,
   by intros; exact eq_ret rfl,
   by intros; exact eq_ld rfl rfl,
   by intros; exact eq_gr rfl,
   by intros; exact eq_ld rfl rfl,
   by intros; exact eq_ld rfl rfl,
   by intros; exact eq_ld rfl rfl,
   by intros; exact eq_ld rfl rfl,
   by intros; exact eq_cv rfl (Nat.le_of_ble_eq_true rfl) rfl rfl rfl (Nat.le_of_ble_eq_true rfl),
   by intros; exact eq_ret rfl⟩
theorem rw_X11_lineOf :
  (∀ (d : Nat) (a0 a1 a2 : Int) (S h : mx_H) (n : Int), mx_M d 110 [(2, a0), (0, a1), (0, a2)] S h n = mx_ex d 110 0 [some (2, a0), some (0, a1), some (0, a2)] [] S h n) ∧
  (∀ (d : Nat) (x : Int) (l0 l2 : Option mx_V) (S h : mx_H) (n : Int), mx_ex d 110 0 [l0, some (0, x), l2] [] S h n = mx_ex d 110 1 [l0, some (0, x), l2] [(0, x)] S h n) ∧
  (∀ (d : Nat) (l0 l1 l2 : Option mx_V) (v0 : mx_V) (S h : mx_H) (n : Int), mx_ex d 110 1 [l0, l1, l2] [v0] S h n = mx_ex d 110 2 [l0, l1, l2] [(0, 0), v0] S h n) ∧
  (∀ (d : Nat) (x : Int) (l1 l2 : Option mx_V) (v0 v1 : mx_V) (S h : mx_H) (n : Int), mx_ex d 110 2 [some (2, x), l1, l2] [v0, v1] S h n = mx_ex d 110 3 [some (2, x), l1, l2] [(2, x), v0, v1] S h n) ∧
  (∀ (d : Nat) (a : Int) (l0 l1 l2 : Option mx_V) (v1 v2 : mx_V) (S h : mx_H) (n : Int), mx_ex d 110 3 [l0, l1, l2] [(2, a), v1, v2] S h n = mx_gd (7 ≤ S a (-2) ∧ S a (-2) ≤ 7) d 110 6 [l0, l1, l2] [(2, S a 3), v1, v2] S h n) ∧
  (∀ (d : Nat) (a : Int) (l0 l1 l2 : Option mx_V) (v1 v2 : mx_V) (S h : mx_H) (n : Int), mx_ex d 110 6 [l0, l1, l2] [(2, a), v1, v2] S h n = mx_gd (8 ≤ S a (-2) ∧ S a (-2) ≤ 8) d 110 9 [l0, l1, l2] [(0, h a 4), v1, v2] S h n) ∧
  (∀ (d : Nat) (l0 l1 l2 : Option mx_V) (v0 v1 v2 : mx_V) (S h : mx_H) (n : Int), mx_ex d 110 9 [l0, l1, l2] [v0, v1, v2] S h n = mx_ex d 110 10 [l0, l1, l2] [(0, 1), v0, v1, v2] S h n) ∧
  (∀ (d : Nat) (b a : Int) (l0 l1 l2 : Option mx_V) (v2 v3 : mx_V) (S h : mx_H) (n : Int), mx_ex d 110 10 [l0, l1, l2] [(0, b), (0, a), v2, v3] S h n = mx_ex d 110 11 [l0, l1, l2] [(0, mx_w (a - b)), v2, v3] S h n) ∧
  (∀ (d : Nat) (x0 x1 x2 : Int) (l0 l1 l2 : Option mx_V) (S h : mx_H) (n : Int), mx_ex (d + 1) 110 11 [l0, l1, l2] [(0, x0), (0, x1), (0, x2)] S h n = mx_rt (mx_M d 145 [(0, x2), (0, x1), (0, x0)] S h n) (d + 1) 110 14 [l0, l1, l2] []) ∧
  (∀ (d : Nat) (a : Int) (l0 l1 l2 : Option mx_V) (S h : mx_H) (n : Int), mx_ex d 110 14 [l0, l1, l2] [(0, a)] S h n = mx_br (a = 0) d 110 26 17 [l0, l1, l2] [] S h n) ∧
  (∀ (d : Nat) (x : Int) (l0 l1 : Option mx_V) (S h : mx_H) (n : Int), mx_ex d 110 17 [l0, l1, some (0, x)] [] S h n = mx_ex d 110 18 [l0, l1, some (0, x)] [(0, x)] S h n) ∧
  (∀ (d : Nat) (l0 l1 l2 : Option mx_V) (v0 : mx_V) (S h : mx_H) (n : Int), mx_ex d 110 18 [l0, l1, l2] [v0] S h n = mx_ex d 110 19 [l0, l1, l2] [(0, 0), v0] S h n) ∧
  (∀ (d : Nat) (l0 l1 l2 : Option mx_V) (v0 v1 : mx_V) (S h : mx_H) (n : Int), mx_ex d 110 19 [l0, l1, l2] [v0, v1] S h n = mx_ex d 110 20 [l0, l1, l2] [(0, 3), v0, v1] S h n) ∧
  (∀ (d : Nat) (x0 x1 x2 : Int) (l0 l1 l2 : Option mx_V) (S h : mx_H) (n : Int), mx_ex (d + 1) 110 20 [l0, l1, l2] [(0, x0), (0, x1), (0, x2)] S h n = mx_rt (mx_M d 145 [(0, x2), (0, x1), (0, x0)] S h n) (d + 1) 110 23 [l0, l1, l2] []) ∧
  (∀ (d : Nat) (a : Int) (l0 l1 l2 : Option mx_V) (S h : mx_H) (n : Int), mx_ex d 110 23 [l0, l1, l2] [(0, a)] S h n = mx_br (a = 0) d 110 26 28 [l0, l1, l2] [] S h n) ∧
  (∀ (d : Nat) (l0 l1 l2 : Option mx_V) (S h : mx_H) (n : Int), mx_ex d 110 26 [l0, l1, l2] [] S h n = mx_ex d 110 27 [l0, l1, l2] [(0, (-1))] S h n) ∧
  (∀ (d : Nat) (x : Int) (l0 l1 l2 : Option mx_V) (S h : mx_H) (n : Int), mx_ex d 110 27 [l0, l1, l2] [(0, x)] S h n = some (some (0, x), S, h, n)) ∧
  (∀ (d : Nat) (x : Int) (l1 l2 : Option mx_V) (S h : mx_H) (n : Int), mx_ex d 110 28 [some (2, x), l1, l2] [] S h n = mx_ex d 110 29 [some (2, x), l1, l2] [(2, x)] S h n) ∧
  (∀ (d : Nat) (a : Int) (l0 l1 l2 : Option mx_V) (S h : mx_H) (n : Int), mx_ex d 110 29 [l0, l1, l2] [(2, a)] S h n = mx_gd (7 ≤ S a (-2) ∧ S a (-2) ≤ 7) d 110 32 [l0, l1, l2] [(2, S a 3)] S h n) ∧
  (∀ (d : Nat) (a : Int) (l0 l1 l2 : Option mx_V) (S h : mx_H) (n : Int), mx_ex d 110 32 [l0, l1, l2] [(2, a)] S h n = mx_gd (8 ≤ S a (-2) ∧ S a (-2) ≤ 8) d 110 35 [l0, l1, l2] [(2, S a 2)] S h n) ∧
  (∀ (d : Nat) (x : Int) (l0 l2 : Option mx_V) (v0 : mx_V) (S h : mx_H) (n : Int), mx_ex d 110 35 [l0, some (0, x), l2] [v0] S h n = mx_ex d 110 36 [l0, some (0, x), l2] [(0, x), v0] S h n) ∧
  (∀ (d : Nat) (l0 l1 l2 : Option mx_V) (v0 v1 : mx_V) (S h : mx_H) (n : Int), mx_ex d 110 36 [l0, l1, l2] [v0, v1] S h n = mx_ex d 110 37 [l0, l1, l2] [(0, 4), v0, v1] S h n) ∧
  (∀ (d : Nat) (b a : Int) (l0 l1 l2 : Option mx_V) (v2 : mx_V) (S h : mx_H) (n : Int), mx_ex d 110 37 [l0, l1, l2] [(0, b), (0, a), v2] S h n = mx_ex d 110 38 [l0, l1, l2] [(0, mx_w (a * b)), v2] S h n) ∧
  (∀ (d : Nat) (x : Int) (l0 l1 : Option mx_V) (v0 v1 : mx_V) (S h : mx_H) (n : Int), mx_ex d 110 38 [l0, l1, some (0, x)] [v0, v1] S h n = mx_ex d 110 39 [l0, l1, some (0, x)] [(0, x), v0, v1] S h n) ∧
  (∀ (d : Nat) (b a : Int) (l0 l1 l2 : Option mx_V) (v2 : mx_V) (S h : mx_H) (n : Int), mx_ex d 110 39 [l0, l1, l2] [(0, b), (0, a), v2] S h n = mx_ex d 110 40 [l0, l1, l2] [(0, mx_w (a + b)), v2] S h n) ∧
  (∀ (d : Nat) (i a : Int) (l0 l1 l2 : Option mx_V) (S h : mx_H) (n : Int), mx_ex d 110 40 [l0, l1, l2] [(0, i), (2, a)] S h n = mx_gd ((S a (-2) = 20 ∨ S a (-2) = 24) ∧ 0 ≤ i ∧ i < S a (-1)) d 110 41 [l0, l1, l2] [(0, h a i)] S h n) ∧
  (∀ (d : Nat) (x : Int) (l0 l1 l2 : Option mx_V) (S h : mx_H) (n : Int), mx_ex d 110 41 [l0, l1, l2] [(0, x)] S h n = some (some (0, x), S, h, n)) :=
  ⟨by intros; exact rfl,
   by intros; exact eq_ld rfl rfl,
   by intros; exact eq_push rfl,
   by intros; exact eq_ld rfl rfl,
   by intros; exact eq_gr rfl,
   by intros; exact eq_gi rfl,
   by intros; exact eq_push rfl,
   by intros; exact eq_i2 (o := mx_sub) rfl,
   by intros; exact eq_cs rfl (Nat.le_of_ble_eq_true rfl) rfl rfl rfl (Nat.le_of_ble_eq_true rfl),
   by intros; exact eq_if0 rfl,
   by intros; exact eq_ld rfl rfl,
   by intros; exact eq_push rfl,
   by intros; exact eq_push rfl,
   by intros; exact eq_cs rfl (Nat.le_of_ble_eq_true rfl) rfl rfl rfl (Nat.le_of_ble_eq_true rfl),
   by intros; exact eq_if1 rfl,
   by intros; exact eq_push rfl,
   by intros; exact eq_ret rfl,
   by intros; exact eq_ld rfl rfl,
   by intros; exact eq_gr rfl,
   by intros; exact eq_gr rfl,
   by intros; exact eq_ld rfl rfl,
   by intros; exact eq_push rfl,
   by intros; exact eq_i2 (o := mx_mul) rfl,
   by intros; exact eq_ld rfl rfl,
   by intros; exact eq_i2 (o := mx_add) rfl,
   by intros; exact eq_iald rfl,
   by intros; exact eq_ret rfl⟩
theorem rw_X11_strike :
  (∀ (d : Nat) (a0 a1 : Int) (S h : mx_H) (n : Int), mx_M d 111 [(2, a0), (0, a1)] S h n = mx_ex d 111 0 [some (2, a0), some (0, a1)] [] S h n) ∧
  (∀ (d : Nat) (x : Int) (l0 : Option mx_V) (S h : mx_H) (n : Int), mx_ex d 111 0 [l0, some (0, x)] [] S h n = mx_ex d 111 1 [l0, some (0, x)] [(0, x)] S h n) ∧
  (∀ (d : Nat) (l0 l1 : Option mx_V) (v0 : mx_V) (S h : mx_H) (n : Int), mx_ex d 111 1 [l0, l1] [v0] S h n = mx_ex d 111 2 [l0, l1] [(0, 0), v0] S h n) ∧
  (∀ (d : Nat) (x : Int) (l1 : Option mx_V) (v0 v1 : mx_V) (S h : mx_H) (n : Int), mx_ex d 111 2 [some (2, x), l1] [v0, v1] S h n = mx_ex d 111 3 [some (2, x), l1] [(2, x), v0, v1] S h n) ∧
  (∀ (d : Nat) (a : Int) (l0 l1 : Option mx_V) (v1 v2 : mx_V) (S h : mx_H) (n : Int), mx_ex d 111 3 [l0, l1] [(2, a), v1, v2] S h n = mx_gd (7 ≤ S a (-2) ∧ S a (-2) ≤ 7) d 111 6 [l0, l1] [(2, S a 3), v1, v2] S h n) ∧
  (∀ (d : Nat) (a : Int) (l0 l1 : Option mx_V) (v1 v2 : mx_V) (S h : mx_H) (n : Int), mx_ex d 111 6 [l0, l1] [(2, a), v1, v2] S h n = mx_gd (8 ≤ S a (-2) ∧ S a (-2) ≤ 8) d 111 9 [l0, l1] [(0, h a 4), v1, v2] S h n) ∧
  (∀ (d : Nat) (l0 l1 : Option mx_V) (v0 v1 v2 : mx_V) (S h : mx_H) (n : Int), mx_ex d 111 9 [l0, l1] [v0, v1, v2] S h n = mx_ex d 111 10 [l0, l1] [(0, 1), v0, v1, v2] S h n) ∧
  (∀ (d : Nat) (b a : Int) (l0 l1 : Option mx_V) (v2 v3 : mx_V) (S h : mx_H) (n : Int), mx_ex d 111 10 [l0, l1] [(0, b), (0, a), v2, v3] S h n = mx_ex d 111 11 [l0, l1] [(0, mx_w (a - b)), v2, v3] S h n) ∧
  (∀ (d : Nat) (x0 x1 x2 : Int) (l0 l1 : Option mx_V) (S h : mx_H) (n : Int), mx_ex (d + 1) 111 11 [l0, l1] [(0, x0), (0, x1), (0, x2)] S h n = mx_rt (mx_M d 145 [(0, x2), (0, x1), (0, x0)] S h n) (d + 1) 111 14 [l0, l1] []) ∧
  (∀ (d : Nat) (a : Int) (l0 l1 : Option mx_V) (S h : mx_H) (n : Int), mx_ex d 111 14 [l0, l1] [(0, a)] S h n = mx_br (a = 0) d 111 17 19 [l0, l1] [] S h n) ∧
  (∀ (d : Nat) (l0 l1 : Option mx_V) (S h : mx_H) (n : Int), mx_ex d 111 17 [l0, l1] [] S h n = mx_ex d 111 18 [l0, l1] [(0, (-1))] S h n) ∧
  (∀ (d : Nat) (x : Int) (l0 l1 : Option mx_V) (S h : mx_H) (n : Int), mx_ex d 111 18 [l0, l1] [(0, x)] S h n = some (some (0, x), S, h, n)) ∧
  (∀ (d : Nat) (x : Int) (l1 : Option mx_V) (S h : mx_H) (n : Int), mx_ex d 111 19 [some (2, x), l1] [] S h n = mx_ex d 111 20 [some (2, x), l1] [(2, x)] S h n) ∧
  (∀ (d : Nat) (a : Int) (l0 l1 : Option mx_V) (S h : mx_H) (n : Int), mx_ex d 111 20 [l0, l1] [(2, a)] S h n = mx_gd (7 ≤ S a (-2) ∧ S a (-2) ≤ 7) d 111 23 [l0, l1] [(2, S a 3)] S h n) ∧
  (∀ (d : Nat) (x : Int) (l0 : Option mx_V) (v0 : mx_V) (S h : mx_H) (n : Int), mx_ex d 111 23 [l0, some (0, x)] [v0] S h n = mx_ex d 111 24 [l0, some (0, x)] [(0, x), v0] S h n) ∧
  (∀ (d : Nat) (x0 a : Int) (l0 l1 : Option mx_V) (S h : mx_H) (n : Int), mx_ex (d + 1) 111 24 [l0, l1] [(0, x0), (2, a)] S h n = mx_cl (S a (-2) = 8) d 93 [(2, a), (0, x0)] 111 27 [l0, l1] [] S h n) ∧
  (∀ (d : Nat) (x : Int) (l0 l1 : Option mx_V) (S h : mx_H) (n : Int), mx_ex d 111 27 [l0, l1] [(0, x)] S h n = some (some (0, x), S, h, n)) :=
  ⟨by intros; exact rfl,
   by intros; exact eq_ld rfl rfl,
   by intros; exact eq_push rfl,
   by intros; exact eq_ld rfl rfl,
   by intros; exact eq_gr rfl,
   by intros; exact eq_gi rfl,
   by intros; exact eq_push rfl,
   by intros; exact eq_i2 (o := mx_sub) rfl,
   by intros; exact eq_cs rfl (Nat.le_of_ble_eq_true rfl) rfl rfl rfl (Nat.le_of_ble_eq_true rfl),
   by intros; exact eq_if1 rfl,
   by intros; exact eq_push rfl,
   by intros; exact eq_ret rfl,
   by intros; exact eq_ld rfl rfl,
   by intros; exact eq_gr rfl,
   by intros; exact eq_ld rfl rfl,
   by intros; exact eq_cv rfl (Nat.le_of_ble_eq_true rfl) rfl rfl rfl (Nat.le_of_ble_eq_true rfl),
   by intros; exact eq_ret rfl⟩
theorem rw_X11_worlds :
  (∀ (d : Nat) (a0 : Int) (S h : mx_H) (n : Int), mx_M d 112 [(2, a0)] S h n = mx_ex d 112 0 [some (2, a0)] [] S h n) ∧
  (∀ (d : Nat) (x : Int) (S h : mx_H) (n : Int), mx_ex d 112 0 [some (2, x)] [] S h n = mx_ex d 112 1 [some (2, x)] [(2, x)] S h n) ∧
  (∀ (d : Nat) (a : Int) (l0 : Option mx_V) (S h : mx_H) (n : Int), mx_ex d 112 1 [l0] [(2, a)] S h n = mx_gd (7 ≤ S a (-2) ∧ S a (-2) ≤ 7) d 112 4 [l0] [(2, S a 2)] S h n) ∧
  (∀ (d : Nat) (a : Int) (l0 : Option mx_V) (S h : mx_H) (n : Int), mx_ex (d + 1) 112 4 [l0] [(2, a)] S h n = mx_cl (S a (-2) = 9) d 13 [(2, a)] 112 7 [l0] [] S h n) ∧
  (∀ (d : Nat) (x : Int) (l0 : Option mx_V) (S h : mx_H) (n : Int), mx_ex d 112 7 [l0] [(0, x)] S h n = some (some (0, x), S, h, n)) :=
  ⟨by intros; exact rfl,
   by intros; exact eq_ld rfl rfl,
   by intros; exact eq_gr rfl,
   by intros; exact eq_cv rfl (Nat.le_of_ble_eq_true rfl) rfl rfl rfl (Nat.le_of_ble_eq_true rfl),
   by intros; exact eq_ret rfl⟩
theorem rw_X11_world :
  (∀ (d : Nat) (a0 a1 a2 : Int) (S h : mx_H) (n : Int), mx_M d 113 [(2, a0), (0, a1), (0, a2)] S h n = mx_ex d 113 0 [some (2, a0), some (0, a1), some (0, a2)] [] S h n) ∧
  (∀ (d : Nat) (x : Int) (l0 l1 : Option mx_V) (S h : mx_H) (n : Int), mx_ex d 113 0 [l0, l1, some (0, x)] [] S h n = mx_ex d 113 1 [l0, l1, some (0, x)] [(0, x)] S h n) ∧
  (∀ (d : Nat) (x0 : Int) (l0 l1 l2 : Option mx_V) (S h : mx_H) (n : Int), mx_ex (d + 1) 113 1 [l0, l1, l2] [(0, x0)] S h n = mx_rt (mx_M d 146 [(0, x0)] S h n) (d + 1) 113 4 [l0, l1, l2] []) ∧
  (∀ (d : Nat) (a : Int) (l0 l1 l2 : Option mx_V) (S h : mx_H) (n : Int), mx_ex d 113 4 [l0, l1, l2] [(0, a)] S h n = mx_br (a = 0) d 113 7 9 [l0, l1, l2] [] S h n) ∧
  (∀ (d : Nat) (l0 l1 l2 : Option mx_V) (S h : mx_H) (n : Int), mx_ex d 113 7 [l0, l1, l2] [] S h n = mx_ex d 113 8 [l0, l1, l2] [(0, (-1))] S h n) ∧
  (∀ (d : Nat) (x : Int) (l0 l1 l2 : Option mx_V) (S h : mx_H) (n : Int), mx_ex d 113 8 [l0, l1, l2] [(0, x)] S h n = some (some (0, x), S, h, n)) ∧
  (∀ (d : Nat) (x : Int) (l1 l2 : Option mx_V) (S h : mx_H) (n : Int), mx_ex d 113 9 [some (2, x), l1, l2] [] S h n = mx_ex d 113 10 [some (2, x), l1, l2] [(2, x)] S h n) ∧
  (∀ (d : Nat) (a : Int) (l0 l1 l2 : Option mx_V) (S h : mx_H) (n : Int), mx_ex d 113 10 [l0, l1, l2] [(2, a)] S h n = mx_gd (7 ≤ S a (-2) ∧ S a (-2) ≤ 7) d 113 13 [l0, l1, l2] [(2, S a 2)] S h n) ∧
  (∀ (d : Nat) (x : Int) (l0 l2 : Option mx_V) (v0 : mx_V) (S h : mx_H) (n : Int), mx_ex d 113 13 [l0, some (0, x), l2] [v0] S h n = mx_ex d 113 14 [l0, some (0, x), l2] [(0, x), v0] S h n) ∧
  (∀ (d : Nat) (x0 a : Int) (l0 l1 l2 : Option mx_V) (S h : mx_H) (n : Int), mx_ex (d + 1) 113 14 [l0, l1, l2] [(0, x0), (2, a)] S h n = mx_cl (S a (-2) = 9) d 15 [(2, a), (0, x0)] 113 17 [l0, l1, l2] [] S h n) ∧
  (∀ (d : Nat) (a : Int) (l0 l1 l2 : Option mx_V) (S h : mx_H) (n : Int), mx_ex d 113 17 [l0, l1, l2] [(0, a)] S h n = mx_br (a = 0) d 113 32 20 [l0, l1, l2] [] S h n) ∧
  (∀ (d : Nat) (x : Int) (l1 l2 : Option mx_V) (S h : mx_H) (n : Int), mx_ex d 113 20 [some (2, x), l1, l2] [] S h n = mx_ex d 113 21 [some (2, x), l1, l2] [(2, x)] S h n) ∧
  (∀ (d : Nat) (a : Int) (l0 l1 l2 : Option mx_V) (S h : mx_H) (n : Int), mx_ex d 113 21 [l0, l1, l2] [(2, a)] S h n = mx_gd (7 ≤ S a (-2) ∧ S a (-2) ≤ 7) d 113 24 [l0, l1, l2] [(2, S a 2)] S h n) ∧
  (∀ (d : Nat) (a : Int) (l0 l1 l2 : Option mx_V) (S h : mx_H) (n : Int), mx_ex d 113 24 [l0, l1, l2] [(2, a)] S h n = mx_gd (9 ≤ S a (-2) ∧ S a (-2) ≤ 9) d 113 27 [l0, l1, l2] [(2, S a 1)] S h n) ∧
  (∀ (d : Nat) (x : Int) (l0 l1 : Option mx_V) (v0 : mx_V) (S h : mx_H) (n : Int), mx_ex d 113 27 [l0, l1, some (0, x)] [v0] S h n = mx_ex d 113 28 [l0, l1, some (0, x)] [(0, x), v0] S h n) ∧
  (∀ (d : Nat) (i a : Int) (l0 l1 l2 : Option mx_V) (S h : mx_H) (n : Int), mx_ex d 113 28 [l0, l1, l2] [(0, i), (2, a)] S h n = mx_gd ((S a (-2) = 20 ∨ S a (-2) = 24) ∧ 0 ≤ i ∧ i < S a (-1)) d 113 29 [l0, l1, l2] [(0, h a i)] S h n) ∧
  (∀ (d : Nat) (l0 l1 l2 : Option mx_V) (v0 : mx_V) (S h : mx_H) (n : Int), mx_ex d 113 29 [l0, l1, l2] [v0] S h n = mx_ex d 113 34 [l0, l1, l2] [v0] S h n) ∧
  (∀ (d : Nat) (l0 l1 l2 : Option mx_V) (S h : mx_H) (n : Int), mx_ex d 113 32 [l0, l1, l2] [] S h n = mx_ex d 113 34 [l0, l1, l2] [(0, (-3))] S h n) ∧
  (∀ (d : Nat) (x : Int) (l0 l1 l2 : Option mx_V) (S h : mx_H) (n : Int), mx_ex d 113 34 [l0, l1, l2] [(0, x)] S h n = some (some (0, x), S, h, n)) :=
  ⟨by intros; exact rfl,
   by intros; exact eq_ld rfl rfl,
   by intros; exact eq_cs rfl (Nat.le_of_ble_eq_true rfl) rfl rfl rfl (Nat.le_of_ble_eq_true rfl),
   by intros; exact eq_if1 rfl,
   by intros; exact eq_push rfl,
   by intros; exact eq_ret rfl,
   by intros; exact eq_ld rfl rfl,
   by intros; exact eq_gr rfl,
   by intros; exact eq_ld rfl rfl,
   by intros; exact eq_cv rfl (Nat.le_of_ble_eq_true rfl) rfl rfl rfl (Nat.le_of_ble_eq_true rfl),
   by intros; exact eq_if0 rfl,
   by intros; exact eq_ld rfl rfl,
   by intros; exact eq_gr rfl,
   by intros; exact eq_gr rfl,
   by intros; exact eq_ld rfl rfl,
   by intros; exact eq_iald rfl,
   by intros; exact eq_go rfl,
   by intros; exact eq_push rfl,
   by intros; exact eq_ret rfl⟩
theorem rw_X11_may :
  (∀ (d : Nat) (a0 a1 : Int) (S h : mx_H) (n : Int), mx_M d 114 [(2, a0), (0, a1)] S h n = mx_ex d 114 0 [some (2, a0), some (0, a1)] [] S h n) ∧
  (∀ (d : Nat) (x : Int) (l0 : Option mx_V) (S h : mx_H) (n : Int), mx_ex d 114 0 [l0, some (0, x)] [] S h n = mx_ex d 114 1 [l0, some (0, x)] [(0, x)] S h n) ∧
  (∀ (d : Nat) (x0 : Int) (l0 l1 : Option mx_V) (S h : mx_H) (n : Int), mx_ex (d + 1) 114 1 [l0, l1] [(0, x0)] S h n = mx_rt (mx_M d 146 [(0, x0)] S h n) (d + 1) 114 4 [l0, l1] []) ∧
  (∀ (d : Nat) (a : Int) (l0 l1 : Option mx_V) (S h : mx_H) (n : Int), mx_ex d 114 4 [l0, l1] [(0, a)] S h n = mx_br (a = 0) d 114 18 7 [l0, l1] [] S h n) ∧
  (∀ (d : Nat) (x : Int) (l1 : Option mx_V) (S h : mx_H) (n : Int), mx_ex d 114 7 [some (2, x), l1] [] S h n = mx_ex d 114 8 [some (2, x), l1] [(2, x)] S h n) ∧
  (∀ (d : Nat) (a : Int) (l0 l1 : Option mx_V) (S h : mx_H) (n : Int), mx_ex d 114 8 [l0, l1] [(2, a)] S h n = mx_gd (7 ≤ S a (-2) ∧ S a (-2) ≤ 7) d 114 11 [l0, l1] [(2, S a 2)] S h n) ∧
  (∀ (d : Nat) (x : Int) (l0 : Option mx_V) (v0 : mx_V) (S h : mx_H) (n : Int), mx_ex d 114 11 [l0, some (0, x)] [v0] S h n = mx_ex d 114 12 [l0, some (0, x)] [(0, x), v0] S h n) ∧
  (∀ (d : Nat) (x0 a : Int) (l0 l1 : Option mx_V) (S h : mx_H) (n : Int), mx_ex (d + 1) 114 12 [l0, l1] [(0, x0), (2, a)] S h n = mx_cl (S a (-2) = 9) d 14 [(2, a), (0, x0)] 114 15 [l0, l1] [] S h n) ∧
  (∀ (d : Nat) (l0 l1 : Option mx_V) (v0 : mx_V) (S h : mx_H) (n : Int), mx_ex d 114 15 [l0, l1] [v0] S h n = mx_ex d 114 19 [l0, l1] [v0] S h n) ∧
  (∀ (d : Nat) (l0 l1 : Option mx_V) (S h : mx_H) (n : Int), mx_ex d 114 18 [l0, l1] [] S h n = mx_ex d 114 19 [l0, l1] [(0, (-1))] S h n) ∧
  (∀ (d : Nat) (x : Int) (l0 l1 : Option mx_V) (S h : mx_H) (n : Int), mx_ex d 114 19 [l0, l1] [(0, x)] S h n = some (some (0, x), S, h, n)) :=
  ⟨by intros; exact rfl,
   by intros; exact eq_ld rfl rfl,
   by intros; exact eq_cs rfl (Nat.le_of_ble_eq_true rfl) rfl rfl rfl (Nat.le_of_ble_eq_true rfl),
   by intros; exact eq_if0 rfl,
   by intros; exact eq_ld rfl rfl,
   by intros; exact eq_gr rfl,
   by intros; exact eq_ld rfl rfl,
   by intros; exact eq_cv rfl (Nat.le_of_ble_eq_true rfl) rfl rfl rfl (Nat.le_of_ble_eq_true rfl),
   by intros; exact eq_go rfl,
   by intros; exact eq_push rfl,
   by intros; exact eq_ret rfl⟩
theorem rw_X11_sure :
  (∀ (d : Nat) (a0 a1 : Int) (S h : mx_H) (n : Int), mx_M d 115 [(2, a0), (0, a1)] S h n = mx_ex d 115 0 [some (2, a0), some (0, a1), none] [] S h n) ∧
  (∀ (d : Nat) (x : Int) (l0 l2 : Option mx_V) (S h : mx_H) (n : Int), mx_ex d 115 0 [l0, some (0, x), l2] [] S h n = mx_ex d 115 1 [l0, some (0, x), l2] [(0, x)] S h n) ∧
  (∀ (d : Nat) (x0 : Int) (l0 l1 l2 : Option mx_V) (S h : mx_H) (n : Int), mx_ex (d + 1) 115 1 [l0, l1, l2] [(0, x0)] S h n = mx_rt (mx_M d 146 [(0, x0)] S h n) (d + 1) 115 4 [l0, l1, l2] []) ∧
  (∀ (d : Nat) (a : Int) (l0 l1 l2 : Option mx_V) (S h : mx_H) (n : Int), mx_ex d 115 4 [l0, l1, l2] [(0, a)] S h n = mx_br (a = 0) d 115 7 9 [l0, l1, l2] [] S h n) ∧
  (∀ (d : Nat) (l0 l1 l2 : Option mx_V) (S h : mx_H) (n : Int), mx_ex d 115 7 [l0, l1, l2] [] S h n = mx_ex d 115 8 [l0, l1, l2] [(0, (-1))] S h n) ∧
  (∀ (d : Nat) (x : Int) (l0 l1 l2 : Option mx_V) (S h : mx_H) (n : Int), mx_ex d 115 8 [l0, l1, l2] [(0, x)] S h n = some (some (0, x), S, h, n)) ∧
  (∀ (d : Nat) (x : Int) (l1 l2 : Option mx_V) (S h : mx_H) (n : Int), mx_ex d 115 9 [some (2, x), l1, l2] [] S h n = mx_ex d 115 10 [some (2, x), l1, l2] [(2, x)] S h n) ∧
  (∀ (d : Nat) (a : Int) (l0 l1 l2 : Option mx_V) (S h : mx_H) (n : Int), mx_ex d 115 10 [l0, l1, l2] [(2, a)] S h n = mx_gd (7 ≤ S a (-2) ∧ S a (-2) ≤ 7) d 115 13 [l0, l1, l2] [(2, S a 2)] S h n) ∧
  (∀ (d : Nat) (x : Int) (l0 l2 : Option mx_V) (v0 : mx_V) (S h : mx_H) (n : Int), mx_ex d 115 13 [l0, some (0, x), l2] [v0] S h n = mx_ex d 115 14 [l0, some (0, x), l2] [(0, x), v0] S h n) ∧
  (∀ (d : Nat) (x0 a : Int) (l0 l1 l2 : Option mx_V) (S h : mx_H) (n : Int), mx_ex (d + 1) 115 14 [l0, l1, l2] [(0, x0), (2, a)] S h n = mx_cl (S a (-2) = 9) d 14 [(2, a), (0, x0)] 115 17 [l0, l1, l2] [] S h n) ∧
  (∀ (d : Nat) (x : Int) (l0 l1 l2 : Option mx_V) (S h : mx_H) (n : Int), mx_ex d 115 17 [l0, l1, l2] [(0, x)] S h n = mx_ex d 115 18 [l0, mx_nl l1, some (0, x)] [] S h n) ∧
  (∀ (d : Nat) (x : Int) (l0 l1 : Option mx_V) (S h : mx_H) (n : Int), mx_ex d 115 18 [l0, l1, some (0, x)] [] S h n = mx_ex d 115 19 [l0, l1, some (0, x)] [(0, x)] S h n) ∧
  (∀ (d : Nat) (x0 : Int) (l0 l1 l2 : Option mx_V) (S h : mx_H) (n : Int), mx_ex (d + 1) 115 19 [l0, l1, l2] [(0, x0)] S h n = mx_rt (mx_M d 248 [(0, x0)] S h n) (d + 1) 115 22 [l0, l1, l2] []) ∧
  (∀ (d : Nat) (l0 l1 l2 : Option mx_V) (v0 : mx_V) (S h : mx_H) (n : Int), mx_ex d 115 22 [l0, l1, l2] [v0] S h n = mx_ex d 115 23 [l0, l1, l2] [(0, 1), v0] S h n) ∧
  (∀ (d : Nat) (b a : Int) (l0 l1 l2 : Option mx_V) (S h : mx_H) (n : Int), mx_ex d 115 23 [l0, l1, l2] [(0, b), (0, a)] S h n = mx_br (a = b) d 115 26 34 [l0, l1, l2] [] S h n) ∧
  (∀ (d : Nat) (x : Int) (l0 l1 : Option mx_V) (S h : mx_H) (n : Int), mx_ex d 115 26 [l0, l1, some (0, x)] [] S h n = mx_ex d 115 27 [l0, l1, some (0, x)] [(0, x)] S h n) ∧
  (∀ (d : Nat) (l0 l1 l2 : Option mx_V) (v0 : mx_V) (S h : mx_H) (n : Int), mx_ex d 115 27 [l0, l1, l2] [v0] S h n = mx_ex d 115 28 [l0, l1, l2] [(0, 0), v0] S h n) ∧
  (∀ (d : Nat) (x0 x1 : Int) (l0 l1 l2 : Option mx_V) (S h : mx_H) (n : Int), mx_ex (d + 1) 115 28 [l0, l1, l2] [(0, x0), (0, x1)] S h n = mx_rt (mx_M d 151 [(0, x1), (0, x0)] S h n) (d + 1) 115 31 [l0, l1, l2] []) ∧
  (∀ (d : Nat) (l0 l1 l2 : Option mx_V) (v0 : mx_V) (S h : mx_H) (n : Int), mx_ex d 115 31 [l0, l1, l2] [v0] S h n = mx_ex d 115 36 [l0, l1, l2] [v0] S h n) ∧
  (∀ (d : Nat) (l0 l1 l2 : Option mx_V) (S h : mx_H) (n : Int), mx_ex d 115 34 [l0, l1, l2] [] S h n = mx_ex d 115 36 [l0, l1, l2] [(0, (-3))] S h n) ∧
  (∀ (d : Nat) (x : Int) (l0 l1 l2 : Option mx_V) (S h : mx_H) (n : Int), mx_ex d 115 36 [l0, l1, l2] [(0, x)] S h n = some (some (0, x), S, h, n)) :=
  ⟨by intros; exact rfl,
   by intros; exact eq_ld rfl rfl,
   by intros; exact eq_cs rfl (Nat.le_of_ble_eq_true rfl) rfl rfl rfl (Nat.le_of_ble_eq_true rfl),
   by intros; exact eq_if1 rfl,
   by intros; exact eq_push rfl,
   by intros; exact eq_ret rfl,
   by intros; exact eq_ld rfl rfl,
   by intros; exact eq_gr rfl,
   by intros; exact eq_ld rfl rfl,
   by intros; exact eq_cv rfl (Nat.le_of_ble_eq_true rfl) rfl rfl rfl (Nat.le_of_ble_eq_true rfl),
   by intros; exact eq_st rfl (by decide) (Nat.le_of_ble_eq_true rfl) rfl,
   by intros; exact eq_ld rfl rfl,
   by intros; exact eq_cs rfl (Nat.le_of_ble_eq_true rfl) rfl rfl rfl (Nat.le_of_ble_eq_true rfl),
   by intros; exact eq_push rfl,
   by intros; exact eq_ic1 rfl,
   by intros; exact eq_ld rfl rfl,
   by intros; exact eq_push rfl,
   by intros; exact eq_cs rfl (Nat.le_of_ble_eq_true rfl) rfl rfl rfl (Nat.le_of_ble_eq_true rfl),
   by intros; exact eq_go rfl,
   by intros; exact eq_push rfl,
   by intros; exact eq_ret rfl⟩
theorem rw_X11_holds :
  (∀ (d : Nat) (a0 a1 a2 a3 a4 : Int) (S h : mx_H) (n : Int), mx_M d 116 [(2, a0), (0, a1), (0, a2), (0, a3), (0, a4)] S h n = mx_ex d 116 0 [some (2, a0), some (0, a1), some (0, a2), some (0, a3), some (0, a4)] [] S h n) ∧
  (∀ (d : Nat) (x : Int) (l0 l2 l3 l4 : Option mx_V) (S h : mx_H) (n : Int), mx_ex d 116 0 [l0, some (0, x), l2, l3, l4] [] S h n = mx_ex d 116 1 [l0, some (0, x), l2, l3, l4] [(0, x)] S h n) ∧
  (∀ (d : Nat) (l0 l1 l2 l3 l4 : Option mx_V) (v0 : mx_V) (S h : mx_H) (n : Int), mx_ex d 116 1 [l0, l1, l2, l3, l4] [v0] S h n = mx_ex d 116 2 [l0, l1, l2, l3, l4] [(0, 0), v0] S h n) ∧
  (∀ (d : Nat) (x : Int) (l1 l2 l3 l4 : Option mx_V) (v0 v1 : mx_V) (S h : mx_H) (n : Int), mx_ex d 116 2 [some (2, x), l1, l2, l3, l4] [v0, v1] S h n = mx_ex d 116 3 [some (2, x), l1, l2, l3, l4] [(2, x), v0, v1] S h n) ∧
  (∀ (d : Nat) (a : Int) (l0 l1 l2 l3 l4 : Option mx_V) (v1 v2 : mx_V) (S h : mx_H) (n : Int), mx_ex d 116 3 [l0, l1, l2, l3, l4] [(2, a), v1, v2] S h n = mx_gd (7 ≤ S a (-2) ∧ S a (-2) ≤ 7) d 116 6 [l0, l1, l2, l3, l4] [(2, S a 3), v1, v2] S h n) ∧
  (∀ (d : Nat) (a : Int) (l0 l1 l2 l3 l4 : Option mx_V) (v1 v2 : mx_V) (S h : mx_H) (n : Int), mx_ex d 116 6 [l0, l1, l2, l3, l4] [(2, a), v1, v2] S h n = mx_gd (8 ≤ S a (-2) ∧ S a (-2) ≤ 8) d 116 9 [l0, l1, l2, l3, l4] [(0, h a 4), v1, v2] S h n) ∧
  (∀ (d : Nat) (l0 l1 l2 l3 l4 : Option mx_V) (v0 v1 v2 : mx_V) (S h : mx_H) (n : Int), mx_ex d 116 9 [l0, l1, l2, l3, l4] [v0, v1, v2] S h n = mx_ex d 116 10 [l0, l1, l2, l3, l4] [(0, 1), v0, v1, v2] S h n) ∧
  (∀ (d : Nat) (b a : Int) (l0 l1 l2 l3 l4 : Option mx_V) (v2 v3 : mx_V) (S h : mx_H) (n : Int), mx_ex d 116 10 [l0, l1, l2, l3, l4] [(0, b), (0, a), v2, v3] S h n = mx_ex d 116 11 [l0, l1, l2, l3, l4] [(0, mx_w (a - b)), v2, v3] S h n) ∧
  (∀ (d : Nat) (x0 x1 x2 : Int) (l0 l1 l2 l3 l4 : Option mx_V) (S h : mx_H) (n : Int), mx_ex (d + 1) 116 11 [l0, l1, l2, l3, l4] [(0, x0), (0, x1), (0, x2)] S h n = mx_rt (mx_M d 145 [(0, x2), (0, x1), (0, x0)] S h n) (d + 1) 116 14 [l0, l1, l2, l3, l4] []) ∧
  (∀ (d : Nat) (a : Int) (l0 l1 l2 l3 l4 : Option mx_V) (S h : mx_H) (n : Int), mx_ex d 116 14 [l0, l1, l2, l3, l4] [(0, a)] S h n = mx_br (a = 0) d 116 39 17 [l0, l1, l2, l3, l4] [] S h n) ∧
  (∀ (d : Nat) (x : Int) (l0 l1 l3 l4 : Option mx_V) (S h : mx_H) (n : Int), mx_ex d 116 17 [l0, l1, some (0, x), l3, l4] [] S h n = mx_ex d 116 18 [l0, l1, some (0, x), l3, l4] [(0, x)] S h n) ∧
  (∀ (d : Nat) (x0 : Int) (l0 l1 l2 l3 l4 : Option mx_V) (S h : mx_H) (n : Int), mx_ex (d + 1) 116 18 [l0, l1, l2, l3, l4] [(0, x0)] S h n = mx_rt (mx_M d 147 [(0, x0)] S h n) (d + 1) 116 21 [l0, l1, l2, l3, l4] []) ∧
  (∀ (d : Nat) (a : Int) (l0 l1 l2 l3 l4 : Option mx_V) (S h : mx_H) (n : Int), mx_ex d 116 21 [l0, l1, l2, l3, l4] [(0, a)] S h n = mx_br (a = 0) d 116 39 24 [l0, l1, l2, l3, l4] [] S h n) ∧
  (∀ (d : Nat) (x : Int) (l0 l1 l2 l4 : Option mx_V) (S h : mx_H) (n : Int), mx_ex d 116 24 [l0, l1, l2, some (0, x), l4] [] S h n = mx_ex d 116 25 [l0, l1, l2, some (0, x), l4] [(0, x)] S h n) ∧
  (∀ (d : Nat) (x0 : Int) (l0 l1 l2 l3 l4 : Option mx_V) (S h : mx_H) (n : Int), mx_ex (d + 1) 116 25 [l0, l1, l2, l3, l4] [(0, x0)] S h n = mx_rt (mx_M d 147 [(0, x0)] S h n) (d + 1) 116 28 [l0, l1, l2, l3, l4] []) ∧
  (∀ (d : Nat) (a : Int) (l0 l1 l2 l3 l4 : Option mx_V) (S h : mx_H) (n : Int), mx_ex d 116 28 [l0, l1, l2, l3, l4] [(0, a)] S h n = mx_br (a = 0) d 116 39 31 [l0, l1, l2, l3, l4] [] S h n) ∧
  (∀ (d : Nat) (x : Int) (l0 l1 l2 l3 : Option mx_V) (S h : mx_H) (n : Int), mx_ex d 116 31 [l0, l1, l2, l3, some (0, x)] [] S h n = mx_ex d 116 33 [l0, l1, l2, l3, some (0, x)] [(0, x)] S h n) ∧
  (∀ (d : Nat) (x0 : Int) (l0 l1 l2 l3 l4 : Option mx_V) (S h : mx_H) (n : Int), mx_ex (d + 1) 116 33 [l0, l1, l2, l3, l4] [(0, x0)] S h n = mx_rt (mx_M d 147 [(0, x0)] S h n) (d + 1) 116 36 [l0, l1, l2, l3, l4] []) ∧
  (∀ (d : Nat) (a : Int) (l0 l1 l2 l3 l4 : Option mx_V) (S h : mx_H) (n : Int), mx_ex d 116 36 [l0, l1, l2, l3, l4] [(0, a)] S h n = mx_br (a = 0) d 116 39 41 [l0, l1, l2, l3, l4] [] S h n) ∧
  (∀ (d : Nat) (l0 l1 l2 l3 l4 : Option mx_V) (S h : mx_H) (n : Int), mx_ex d 116 39 [l0, l1, l2, l3, l4] [] S h n = mx_ex d 116 40 [l0, l1, l2, l3, l4] [(0, (-1))] S h n) ∧
  (∀ (d : Nat) (x : Int) (l0 l1 l2 l3 l4 : Option mx_V) (S h : mx_H) (n : Int), mx_ex d 116 40 [l0, l1, l2, l3, l4] [(0, x)] S h n = some (some (0, x), S, h, n)) ∧
  (∀ (d : Nat) (x : Int) (l1 l2 l3 l4 : Option mx_V) (S h : mx_H) (n : Int), mx_ex d 116 41 [some (2, x), l1, l2, l3, l4] [] S h n = mx_ex d 116 42 [some (2, x), l1, l2, l3, l4] [(2, x)] S h n) ∧
  (∀ (d : Nat) (a : Int) (l0 l1 l2 l3 l4 : Option mx_V) (S h : mx_H) (n : Int), mx_ex d 116 42 [l0, l1, l2, l3, l4] [(2, a)] S h n = mx_gd (7 ≤ S a (-2) ∧ S a (-2) ≤ 7) d 116 45 [l0, l1, l2, l3, l4] [(2, S a 11)] S h n) ∧
  (∀ (d : Nat) (l0 l1 l2 l3 l4 : Option mx_V) (v0 : mx_V) (S h : mx_H) (n : Int), mx_ex d 116 45 [l0, l1, l2, l3, l4] [v0] S h n = mx_ex d 116 46 [l0, l1, l2, l3, l4] [(0, 0), v0] S h n) ∧
  (∀ (d : Nat) (x : Int) (l0 l1 l3 l4 : Option mx_V) (v0 v1 : mx_V) (S h : mx_H) (n : Int), mx_ex d 116 46 [l0, l1, some (0, x), l3, l4] [v0, v1] S h n = mx_ex d 116 47 [l0, l1, some (0, x), l3, l4] [(0, x), v0, v1] S h n) ∧
  (∀ (d : Nat) (v i a : Int) (l0 l1 l2 l3 l4 : Option mx_V) (S h : mx_H) (n : Int), mx_ex d 116 47 [l0, l1, l2, l3, l4] [(0, v), (0, i), (2, a)] S h n = mx_gd (S a (-2) = 20 ∧ 0 ≤ i ∧ i < S a (-1)) d 116 48 [l0, l1, l2, l3, l4] [] S (mx_u h a i v) n) ∧
  (∀ (d : Nat) (x : Int) (l1 l2 l3 l4 : Option mx_V) (S h : mx_H) (n : Int), mx_ex d 116 48 [some (2, x), l1, l2, l3, l4] [] S h n = mx_ex d 116 49 [some (2, x), l1, l2, l3, l4] [(2, x)] S h n) ∧
  (∀ (d : Nat) (a : Int) (l0 l1 l2 l3 l4 : Option mx_V) (S h : mx_H) (n : Int), mx_ex d 116 49 [l0, l1, l2, l3, l4] [(2, a)] S h n = mx_gd (7 ≤ S a (-2) ∧ S a (-2) ≤ 7) d 116 52 [l0, l1, l2, l3, l4] [(2, S a 11)] S h n) ∧
  (∀ (d : Nat) (l0 l1 l2 l3 l4 : Option mx_V) (v0 : mx_V) (S h : mx_H) (n : Int), mx_ex d 116 52 [l0, l1, l2, l3, l4] [v0] S h n = mx_ex d 116 53 [l0, l1, l2, l3, l4] [(0, 1), v0] S h n) ∧
  (∀ (d : Nat) (x : Int) (l0 l1 l2 l4 : Option mx_V) (v0 v1 : mx_V) (S h : mx_H) (n : Int), mx_ex d 116 53 [l0, l1, l2, some (0, x), l4] [v0, v1] S h n = mx_ex d 116 54 [l0, l1, l2, some (0, x), l4] [(0, x), v0, v1] S h n) ∧
  (∀ (d : Nat) (v i a : Int) (l0 l1 l2 l3 l4 : Option mx_V) (S h : mx_H) (n : Int), mx_ex d 116 54 [l0, l1, l2, l3, l4] [(0, v), (0, i), (2, a)] S h n = mx_gd (S a (-2) = 20 ∧ 0 ≤ i ∧ i < S a (-1)) d 116 55 [l0, l1, l2, l3, l4] [] S (mx_u h a i v) n) ∧
  (∀ (d : Nat) (x : Int) (l1 l2 l3 l4 : Option mx_V) (S h : mx_H) (n : Int), mx_ex d 116 55 [some (2, x), l1, l2, l3, l4] [] S h n = mx_ex d 116 56 [some (2, x), l1, l2, l3, l4] [(2, x)] S h n) ∧
  (∀ (d : Nat) (a : Int) (l0 l1 l2 l3 l4 : Option mx_V) (S h : mx_H) (n : Int), mx_ex d 116 56 [l0, l1, l2, l3, l4] [(2, a)] S h n = mx_gd (7 ≤ S a (-2) ∧ S a (-2) ≤ 7) d 116 59 [l0, l1, l2, l3, l4] [(2, S a 11)] S h n) ∧
  (∀ (d : Nat) (l0 l1 l2 l3 l4 : Option mx_V) (v0 : mx_V) (S h : mx_H) (n : Int), mx_ex d 116 59 [l0, l1, l2, l3, l4] [v0] S h n = mx_ex d 116 60 [l0, l1, l2, l3, l4] [(0, 2), v0] S h n) ∧
  (∀ (d : Nat) (x : Int) (l0 l1 l2 l3 : Option mx_V) (v0 v1 : mx_V) (S h : mx_H) (n : Int), mx_ex d 116 60 [l0, l1, l2, l3, some (0, x)] [v0, v1] S h n = mx_ex d 116 62 [l0, l1, l2, l3, some (0, x)] [(0, x), v0, v1] S h n) ∧
  (∀ (d : Nat) (v i a : Int) (l0 l1 l2 l3 l4 : Option mx_V) (S h : mx_H) (n : Int), mx_ex d 116 62 [l0, l1, l2, l3, l4] [(0, v), (0, i), (2, a)] S h n = mx_gd (S a (-2) = 20 ∧ 0 ≤ i ∧ i < S a (-1)) d 116 63 [l0, l1, l2, l3, l4] [] S (mx_u h a i v) n) ∧
  (∀ (d : Nat) (x : Int) (l1 l2 l3 l4 : Option mx_V) (S h : mx_H) (n : Int), mx_ex d 116 63 [some (2, x), l1, l2, l3, l4] [] S h n = mx_ex d 116 64 [some (2, x), l1, l2, l3, l4] [(2, x)] S h n) ∧
  (∀ (d : Nat) (a : Int) (l0 l1 l2 l3 l4 : Option mx_V) (S h : mx_H) (n : Int), mx_ex d 116 64 [l0, l1, l2, l3, l4] [(2, a)] S h n = mx_gd (7 ≤ S a (-2) ∧ S a (-2) ≤ 7) d 116 67 [l0, l1, l2, l3, l4] [(2, S a 3)] S h n) ∧
  (∀ (d : Nat) (x : Int) (l0 l2 l3 l4 : Option mx_V) (v0 : mx_V) (S h : mx_H) (n : Int), mx_ex d 116 67 [l0, some (0, x), l2, l3, l4] [v0] S h n = mx_ex d 116 68 [l0, some (0, x), l2, l3, l4] [(0, x), v0] S h n) ∧
  (∀ (d : Nat) (x : Int) (l1 l2 l3 l4 : Option mx_V) (v0 v1 : mx_V) (S h : mx_H) (n : Int), mx_ex d 116 68 [some (2, x), l1, l2, l3, l4] [v0, v1] S h n = mx_ex d 116 69 [some (2, x), l1, l2, l3, l4] [(2, x), v0, v1] S h n) ∧
  (∀ (d : Nat) (a : Int) (l0 l1 l2 l3 l4 : Option mx_V) (v1 v2 : mx_V) (S h : mx_H) (n : Int), mx_ex d 116 69 [l0, l1, l2, l3, l4] [(2, a), v1, v2] S h n = mx_gd (7 ≤ S a (-2) ∧ S a (-2) ≤ 7) d 116 72 [l0, l1, l2, l3, l4] [(2, S a 11), v1, v2] S h n) ∧
  (∀ (d : Nat) (x0 x1 a : Int) (l0 l1 l2 l3 l4 : Option mx_V) (S h : mx_H) (n : Int), mx_ex (d + 1) 116 72 [l0, l1, l2, l3, l4] [(2, x0), (0, x1), (2, a)] S h n = mx_cl (S a (-2) = 8) d 94 [(2, a), (0, x1), (2, x0)] 116 75 [l0, l1, l2, l3, l4] [] S h n) ∧
  (∀ (d : Nat) (a : Int) (l0 l1 l2 l3 l4 : Option mx_V) (S h : mx_H) (n : Int), mx_ex d 116 75 [l0, l1, l2, l3, l4] [(0, a)] S h n = mx_br (a = 0) d 116 82 78 [l0, l1, l2, l3, l4] [] S h n) ∧
  (∀ (d : Nat) (l0 l1 l2 l3 l4 : Option mx_V) (S h : mx_H) (n : Int), mx_ex d 116 78 [l0, l1, l2, l3, l4] [] S h n = mx_ex d 116 79 [l0, l1, l2, l3, l4] [(0, 1)] S h n) ∧
  (∀ (d : Nat) (l0 l1 l2 l3 l4 : Option mx_V) (v0 : mx_V) (S h : mx_H) (n : Int), mx_ex d 116 79 [l0, l1, l2, l3, l4] [v0] S h n = mx_ex d 116 83 [l0, l1, l2, l3, l4] [v0] S h n) ∧
  (∀ (d : Nat) (l0 l1 l2 l3 l4 : Option mx_V) (S h : mx_H) (n : Int), mx_ex d 116 82 [l0, l1, l2, l3, l4] [] S h n = mx_ex d 116 83 [l0, l1, l2, l3, l4] [(0, 0)] S h n) ∧
  (∀ (d : Nat) (x : Int) (l0 l1 l2 l3 l4 : Option mx_V) (S h : mx_H) (n : Int), mx_ex d 116 83 [l0, l1, l2, l3, l4] [(0, x)] S h n = some (some (0, x), S, h, n)) :=
  ⟨by intros; exact rfl,
   by intros; exact eq_ld rfl rfl,
   by intros; exact eq_push rfl,
   by intros; exact eq_ld rfl rfl,
   by intros; exact eq_gr rfl,
   by intros; exact eq_gi rfl,
   by intros; exact eq_push rfl,
   by intros; exact eq_i2 (o := mx_sub) rfl,
   by intros; exact eq_cs rfl (Nat.le_of_ble_eq_true rfl) rfl rfl rfl (Nat.le_of_ble_eq_true rfl),
   by intros; exact eq_if0 rfl,
   by intros; exact eq_ld rfl rfl,
   by intros; exact eq_cs rfl (Nat.le_of_ble_eq_true rfl) rfl rfl rfl (Nat.le_of_ble_eq_true rfl),
   by intros; exact eq_if0 rfl,
   by intros; exact eq_ld rfl rfl,
   by intros; exact eq_cs rfl (Nat.le_of_ble_eq_true rfl) rfl rfl rfl (Nat.le_of_ble_eq_true rfl),
   by intros; exact eq_if0 rfl,
   by intros; exact eq_ld rfl rfl,
   by intros; exact eq_cs rfl (Nat.le_of_ble_eq_true rfl) rfl rfl rfl (Nat.le_of_ble_eq_true rfl),
   by intros; exact eq_if1 rfl,
   by intros; exact eq_push rfl,
   by intros; exact eq_ret rfl,
   by intros; exact eq_ld rfl rfl,
   by intros; exact eq_gr rfl,
   by intros; exact eq_push rfl,
   by intros; exact eq_ld rfl rfl,
   by intros; exact eq_iast rfl,
   by intros; exact eq_ld rfl rfl,
   by intros; exact eq_gr rfl,
   by intros; exact eq_push rfl,
   by intros; exact eq_ld rfl rfl,
   by intros; exact eq_iast rfl,
   by intros; exact eq_ld rfl rfl,
   by intros; exact eq_gr rfl,
   by intros; exact eq_push rfl,
   by intros; exact eq_ld rfl rfl,
   by intros; exact eq_iast rfl,
   by intros; exact eq_ld rfl rfl,
   by intros; exact eq_gr rfl,
   by intros; exact eq_ld rfl rfl,
   by intros; exact eq_ld rfl rfl,
   by intros; exact eq_gr rfl,
   by intros; exact eq_cv rfl (Nat.le_of_ble_eq_true rfl) rfl rfl rfl (Nat.le_of_ble_eq_true rfl),
   by intros; exact eq_if0 rfl,
   by intros; exact eq_push rfl,
   by intros; exact eq_go rfl,
   by intros; exact eq_push rfl,
   by intros; exact eq_ret rfl⟩
theorem rw_X11_proof :
  (∀ (d : Nat) (a0 : Int) (S h : mx_H) (n : Int), mx_M d 117 [(2, a0)] S h n = mx_ex d 117 0 [some (2, a0)] [] S h n) ∧
  (∀ (d : Nat) (x : Int) (S h : mx_H) (n : Int), mx_ex d 117 0 [some (2, x)] [] S h n = mx_ex d 117 1 [some (2, x)] [(2, x)] S h n) ∧
  (∀ (d : Nat) (a : Int) (l0 : Option mx_V) (S h : mx_H) (n : Int), mx_ex d 117 1 [l0] [(2, a)] S h n = mx_gd (7 ≤ S a (-2) ∧ S a (-2) ≤ 7) d 117 4 [l0] [(2, S a 2)] S h n) ∧
  (∀ (d : Nat) (a : Int) (l0 : Option mx_V) (S h : mx_H) (n : Int), mx_ex (d + 1) 117 4 [l0] [(2, a)] S h n = mx_cl (S a (-2) = 9) d 13 [(2, a)] 117 7 [l0] [] S h n) ∧
  (∀ (d : Nat) (a : Int) (l0 : Option mx_V) (S h : mx_H) (n : Int), mx_ex d 117 7 [l0] [(0, a)] S h n = mx_br (0 < a) d 117 10 15 [l0] [] S h n) ∧
  (∀ (d : Nat) (l0 : Option mx_V) (S h : mx_H) (n : Int), mx_ex d 117 10 [l0] [] S h n = mx_ex d 117 12 [l0] [(0, (-3))] S h n) ∧
  (∀ (d : Nat) (l0 : Option mx_V) (v0 : mx_V) (S h : mx_H) (n : Int), mx_ex d 117 12 [l0] [v0] S h n = mx_ex d 117 22 [l0] [v0] S h n) ∧
  (∀ (d : Nat) (x : Int) (S h : mx_H) (n : Int), mx_ex d 117 15 [some (2, x)] [] S h n = mx_ex d 117 16 [some (2, x)] [(2, x)] S h n) ∧
  (∀ (d : Nat) (a : Int) (l0 : Option mx_V) (S h : mx_H) (n : Int), mx_ex d 117 16 [l0] [(2, a)] S h n = mx_gd (7 ≤ S a (-2) ∧ S a (-2) ≤ 7) d 117 19 [l0] [(2, S a 2)] S h n) ∧
  (∀ (d : Nat) (a : Int) (l0 : Option mx_V) (S h : mx_H) (n : Int), mx_ex (d + 1) 117 19 [l0] [(2, a)] S h n = mx_cl (S a (-2) = 9) d 16 [(2, a)] 117 22 [l0] [] S h n) ∧
  (∀ (d : Nat) (x : Int) (l0 : Option mx_V) (S h : mx_H) (n : Int), mx_ex d 117 22 [l0] [(0, x)] S h n = some (some (0, x), S, h, n)) :=
  ⟨by intros; exact rfl,
   by intros; exact eq_ld rfl rfl,
   by intros; exact eq_gr rfl,
   by intros; exact eq_cv rfl (Nat.le_of_ble_eq_true rfl) rfl rfl rfl (Nat.le_of_ble_eq_true rfl),
   by intros; exact eq_if5 rfl,
   by intros; exact eq_push rfl,
   by intros; exact eq_go rfl,
   by intros; exact eq_ld rfl rfl,
   by intros; exact eq_gr rfl,
   by intros; exact eq_cv rfl (Nat.le_of_ble_eq_true rfl) rfl rfl rfl (Nat.le_of_ble_eq_true rfl),
   by intros; exact eq_ret rfl⟩
theorem rw_X11_mended :
  (∀ (d : Nat) (a0 a1 : Int) (S h : mx_H) (n : Int), mx_M d 118 [(2, a0), (0, a1)] S h n = mx_ex d 118 0 [some (2, a0), some (0, a1)] [] S h n) ∧
  (∀ (d : Nat) (x : Int) (l0 : Option mx_V) (S h : mx_H) (n : Int), mx_ex d 118 0 [l0, some (0, x)] [] S h n = mx_ex d 118 1 [l0, some (0, x)] [(0, x)] S h n) ∧
  (∀ (d : Nat) (l0 l1 : Option mx_V) (v0 : mx_V) (S h : mx_H) (n : Int), mx_ex d 118 1 [l0, l1] [v0] S h n = mx_ex d 118 2 [l0, l1] [(0, 0), v0] S h n) ∧
  (∀ (d : Nat) (l0 l1 : Option mx_V) (v0 v1 : mx_V) (S h : mx_H) (n : Int), mx_ex d 118 2 [l0, l1] [v0, v1] S h n = mx_ex d 118 3 [l0, l1] [(0, 2), v0, v1] S h n) ∧
  (∀ (d : Nat) (x0 x1 x2 : Int) (l0 l1 : Option mx_V) (S h : mx_H) (n : Int), mx_ex (d + 1) 118 3 [l0, l1] [(0, x0), (0, x1), (0, x2)] S h n = mx_rt (mx_M d 145 [(0, x2), (0, x1), (0, x0)] S h n) (d + 1) 118 6 [l0, l1] []) ∧
  (∀ (d : Nat) (a : Int) (l0 l1 : Option mx_V) (S h : mx_H) (n : Int), mx_ex d 118 6 [l0, l1] [(0, a)] S h n = mx_br (a = 0) d 118 9 11 [l0, l1] [] S h n) ∧
  (∀ (d : Nat) (l0 l1 : Option mx_V) (S h : mx_H) (n : Int), mx_ex d 118 9 [l0, l1] [] S h n = mx_ex d 118 10 [l0, l1] [(0, (-1))] S h n) ∧
  (∀ (d : Nat) (x : Int) (l0 l1 : Option mx_V) (S h : mx_H) (n : Int), mx_ex d 118 10 [l0, l1] [(0, x)] S h n = some (some (0, x), S, h, n)) ∧
  (∀ (d : Nat) (x : Int) (l1 : Option mx_V) (S h : mx_H) (n : Int), mx_ex d 118 11 [some (2, x), l1] [] S h n = mx_ex d 118 12 [some (2, x), l1] [(2, x)] S h n) ∧
  (∀ (d : Nat) (a : Int) (l0 l1 : Option mx_V) (S h : mx_H) (n : Int), mx_ex d 118 12 [l0, l1] [(2, a)] S h n = mx_gd (7 ≤ S a (-2) ∧ S a (-2) ≤ 7) d 118 15 [l0, l1] [(2, S a 2)] S h n) ∧
  (∀ (d : Nat) (a : Int) (l0 l1 : Option mx_V) (S h : mx_H) (n : Int), mx_ex (d + 1) 118 15 [l0, l1] [(2, a)] S h n = mx_cl (S a (-2) = 9) d 13 [(2, a)] 118 18 [l0, l1] [] S h n) ∧
  (∀ (d : Nat) (a : Int) (l0 l1 : Option mx_V) (S h : mx_H) (n : Int), mx_ex d 118 18 [l0, l1] [(0, a)] S h n = mx_br (0 < a) d 118 21 24 [l0, l1] [] S h n) ∧
  (∀ (d : Nat) (l0 l1 : Option mx_V) (S h : mx_H) (n : Int), mx_ex d 118 21 [l0, l1] [] S h n = mx_ex d 118 23 [l0, l1] [(0, (-4))] S h n) ∧
  (∀ (d : Nat) (x : Int) (l0 l1 : Option mx_V) (S h : mx_H) (n : Int), mx_ex d 118 23 [l0, l1] [(0, x)] S h n = some (some (0, x), S, h, n)) ∧
  (∀ (d : Nat) (x : Int) (l1 : Option mx_V) (S h : mx_H) (n : Int), mx_ex d 118 24 [some (2, x), l1] [] S h n = mx_ex d 118 25 [some (2, x), l1] [(2, x)] S h n) ∧
  (∀ (d : Nat) (a : Int) (l0 l1 : Option mx_V) (S h : mx_H) (n : Int), mx_ex d 118 25 [l0, l1] [(2, a)] S h n = mx_gd (7 ≤ S a (-2) ∧ S a (-2) ≤ 7) d 118 28 [l0, l1] [(2, S a 2)] S h n) ∧
  (∀ (d : Nat) (a : Int) (l0 l1 : Option mx_V) (S h : mx_H) (n : Int), mx_ex (d + 1) 118 28 [l0, l1] [(2, a)] S h n = mx_cl (S a (-2) = 9) d 18 [(2, a)] 118 31 [l0, l1] [] S h n) ∧
  (∀ (d : Nat) (a : Int) (l0 l1 : Option mx_V) (S h : mx_H) (n : Int), mx_ex d 118 31 [l0, l1] [(0, a)] S h n = mx_br (a = 0) d 118 34 37 [l0, l1] [] S h n) ∧
  (∀ (d : Nat) (l0 l1 : Option mx_V) (S h : mx_H) (n : Int), mx_ex d 118 34 [l0, l1] [] S h n = mx_ex d 118 36 [l0, l1] [(0, (-3))] S h n) ∧
  (∀ (d : Nat) (x : Int) (l0 l1 : Option mx_V) (S h : mx_H) (n : Int), mx_ex d 118 36 [l0, l1] [(0, x)] S h n = some (some (0, x), S, h, n)) ∧
  (∀ (d : Nat) (x : Int) (l0 : Option mx_V) (S h : mx_H) (n : Int), mx_ex d 118 37 [l0, some (0, x)] [] S h n = mx_ex d 118 38 [l0, some (0, x)] [(0, x)] S h n) ∧
  (∀ (d : Nat) (a : Int) (l0 l1 : Option mx_V) (S h : mx_H) (n : Int), mx_ex d 118 38 [l0, l1] [(0, a)] S h n = mx_sw a [(0, 64), (1, 72)] d 118 80 [l0, l1] [] S h n) ∧
  (∀ (d : Nat) (x : Int) (l1 : Option mx_V) (S h : mx_H) (n : Int), mx_ex d 118 64 [some (2, x), l1] [] S h n = mx_ex d 118 65 [some (2, x), l1] [(2, x)] S h n) ∧
  (∀ (d : Nat) (a : Int) (l0 l1 : Option mx_V) (S h : mx_H) (n : Int), mx_ex d 118 65 [l0, l1] [(2, a)] S h n = mx_gd (7 ≤ S a (-2) ∧ S a (-2) ≤ 7) d 118 68 [l0, l1] [(2, S a 2)] S h n) ∧
  (∀ (d : Nat) (a : Int) (l0 l1 : Option mx_V) (S h : mx_H) (n : Int), mx_ex d 118 68 [l0, l1] [(2, a)] S h n = mx_gd (9 ≤ S a (-2) ∧ S a (-2) ≤ 9) d 118 71 [l0, l1] [(0, h a 2)] S h n) ∧
  (∀ (d : Nat) (x : Int) (l0 l1 : Option mx_V) (S h : mx_H) (n : Int), mx_ex d 118 71 [l0, l1] [(0, x)] S h n = some (some (0, x), S, h, n)) ∧
  (∀ (d : Nat) (x : Int) (l1 : Option mx_V) (S h : mx_H) (n : Int), mx_ex d 118 72 [some (2, x), l1] [] S h n = mx_ex d 118 73 [some (2, x), l1] [(2, x)] S h n) ∧
  (∀ (d : Nat) (a : Int) (l0 l1 : Option mx_V) (S h : mx_H) (n : Int), mx_ex d 118 73 [l0, l1] [(2, a)] S h n = mx_gd (7 ≤ S a (-2) ∧ S a (-2) ≤ 7) d 118 76 [l0, l1] [(2, S a 2)] S h n) ∧
  (∀ (d : Nat) (a : Int) (l0 l1 : Option mx_V) (S h : mx_H) (n : Int), mx_ex d 118 76 [l0, l1] [(2, a)] S h n = mx_gd (9 ≤ S a (-2) ∧ S a (-2) ≤ 9) d 118 79 [l0, l1] [(0, h a 3)] S h n) ∧
  (∀ (d : Nat) (x : Int) (l0 l1 : Option mx_V) (S h : mx_H) (n : Int), mx_ex d 118 79 [l0, l1] [(0, x)] S h n = some (some (0, x), S, h, n)) ∧
  (∀ (d : Nat) (x : Int) (l1 : Option mx_V) (S h : mx_H) (n : Int), mx_ex d 118 80 [some (2, x), l1] [] S h n = mx_ex d 118 81 [some (2, x), l1] [(2, x)] S h n) ∧
  (∀ (d : Nat) (a : Int) (l0 l1 : Option mx_V) (S h : mx_H) (n : Int), mx_ex d 118 81 [l0, l1] [(2, a)] S h n = mx_gd (7 ≤ S a (-2) ∧ S a (-2) ≤ 7) d 118 84 [l0, l1] [(2, S a 2)] S h n) ∧
  (∀ (d : Nat) (a : Int) (l0 l1 : Option mx_V) (S h : mx_H) (n : Int), mx_ex d 118 84 [l0, l1] [(2, a)] S h n = mx_gd (9 ≤ S a (-2) ∧ S a (-2) ≤ 9) d 118 87 [l0, l1] [(0, h a 4)] S h n) ∧
  (∀ (d : Nat) (x : Int) (l0 l1 : Option mx_V) (S h : mx_H) (n : Int), mx_ex d 118 87 [l0, l1] [(0, x)] S h n = some (some (0, x), S, h, n)) :=
  ⟨by intros; exact rfl,
   by intros; exact eq_ld rfl rfl,
   by intros; exact eq_push rfl,
   by intros; exact eq_push rfl,
   by intros; exact eq_cs rfl (Nat.le_of_ble_eq_true rfl) rfl rfl rfl (Nat.le_of_ble_eq_true rfl),
   by intros; exact eq_if1 rfl,
   by intros; exact eq_push rfl,
   by intros; exact eq_ret rfl,
   by intros; exact eq_ld rfl rfl,
   by intros; exact eq_gr rfl,
   by intros; exact eq_cv rfl (Nat.le_of_ble_eq_true rfl) rfl rfl rfl (Nat.le_of_ble_eq_true rfl),
   by intros; exact eq_if5 rfl,
   by intros; exact eq_push rfl,
   by intros; exact eq_ret rfl,
   by intros; exact eq_ld rfl rfl,
   by intros; exact eq_gr rfl,
   by intros; exact eq_cv rfl (Nat.le_of_ble_eq_true rfl) rfl rfl rfl (Nat.le_of_ble_eq_true rfl),
   by intros; exact eq_if1 rfl,
   by intros; exact eq_push rfl,
   by intros; exact eq_ret rfl,
   by intros; exact eq_ld rfl rfl,
   by intros; exact eq_sw rfl,
   by intros; exact eq_ld rfl rfl,
   by intros; exact eq_gr rfl,
   by intros; exact eq_gi rfl,
   by intros; exact eq_ret rfl,
   by intros; exact eq_ld rfl rfl,
   by intros; exact eq_gr rfl,
   by intros; exact eq_gi rfl,
   by intros; exact eq_ret rfl,
   by intros; exact eq_ld rfl rfl,
   by intros; exact eq_gr rfl,
   by intros; exact eq_gi rfl,
   by intros; exact eq_ret rfl⟩
theorem rw_X11_which :
  (∀ (d : Nat) (a0 a1 : Int) (S h : mx_H) (n : Int), mx_M d 119 [(2, a0), (0, a1)] S h n = mx_ex d 119 0 [some (2, a0), some (0, a1)] [] S h n) ∧
  (∀ (d : Nat) (x : Int) (l1 : Option mx_V) (S h : mx_H) (n : Int), mx_ex d 119 0 [some (2, x), l1] [] S h n = mx_ex d 119 1 [some (2, x), l1] [(2, x)] S h n) ∧
  (∀ (d : Nat) (a : Int) (l0 l1 : Option mx_V) (S h : mx_H) (n : Int), mx_ex d 119 1 [l0, l1] [(2, a)] S h n = mx_gd (7 ≤ S a (-2) ∧ S a (-2) ≤ 7) d 119 4 [l0, l1] [(2, S a 3)] S h n) ∧
  (∀ (d : Nat) (x : Int) (l0 : Option mx_V) (v0 : mx_V) (S h : mx_H) (n : Int), mx_ex d 119 4 [l0, some (0, x)] [v0] S h n = mx_ex d 119 5 [l0, some (0, x)] [(0, x), v0] S h n) ∧
  (∀ (d : Nat) (x0 a : Int) (l0 l1 : Option mx_V) (S h : mx_H) (n : Int), mx_ex (d + 1) 119 5 [l0, l1] [(0, x0), (2, a)] S h n = mx_cl (S a (-2) = 8) d 90 [(2, a), (0, x0)] 119 8 [l0, l1] [] S h n) ∧
  (∀ (d : Nat) (a : Int) (l0 l1 : Option mx_V) (S h : mx_H) (n : Int), mx_ex d 119 8 [l0, l1] [(2, a)] S h n = mx_br (a = -1) d 119 11 15 [l0, l1] [] S h n) ∧
  (∀ (d : Nat) (l0 l1 : Option mx_V) (S h : mx_H) (n : Int), mx_ex d 119 11 [l0, l1] [] S h n = mx_ex d 119 12 [l0, l1] [(0, (-1))] S h n) ∧
  (∀ (d : Nat) (l0 l1 : Option mx_V) (v0 : mx_V) (S h : mx_H) (n : Int), mx_ex d 119 12 [l0, l1] [v0] S h n = mx_ex d 119 23 [l0, l1] [v0] S h n) ∧
  (∀ (d : Nat) (x : Int) (l1 : Option mx_V) (S h : mx_H) (n : Int), mx_ex d 119 15 [some (2, x), l1] [] S h n = mx_ex d 119 16 [some (2, x), l1] [(2, x)] S h n) ∧
  (∀ (d : Nat) (a : Int) (l0 l1 : Option mx_V) (S h : mx_H) (n : Int), mx_ex d 119 16 [l0, l1] [(2, a)] S h n = mx_gd (7 ≤ S a (-2) ∧ S a (-2) ≤ 7) d 119 19 [l0, l1] [(2, S a 2)] S h n) ∧
  (∀ (d : Nat) (x : Int) (l0 : Option mx_V) (v0 : mx_V) (S h : mx_H) (n : Int), mx_ex d 119 19 [l0, some (0, x)] [v0] S h n = mx_ex d 119 20 [l0, some (0, x)] [(0, x), v0] S h n) ∧
  (∀ (d : Nat) (x0 a : Int) (l0 l1 : Option mx_V) (S h : mx_H) (n : Int), mx_ex (d + 1) 119 20 [l0, l1] [(0, x0), (2, a)] S h n = mx_cl (S a (-2) = 9) d 17 [(2, a), (0, x0)] 119 23 [l0, l1] [] S h n) ∧
  (∀ (d : Nat) (x : Int) (l0 l1 : Option mx_V) (S h : mx_H) (n : Int), mx_ex d 119 23 [l0, l1] [(0, x)] S h n = some (some (0, x), S, h, n)) :=
  ⟨by intros; exact rfl,
   by intros; exact eq_ld rfl rfl,
   by intros; exact eq_gr rfl,
   by intros; exact eq_ld rfl rfl,
   by intros; exact eq_cv rfl (Nat.le_of_ble_eq_true rfl) rfl rfl rfl (Nat.le_of_ble_eq_true rfl),
   by intros; exact eq_nul rfl,
   by intros; exact eq_push rfl,
   by intros; exact eq_go rfl,
   by intros; exact eq_ld rfl rfl,
   by intros; exact eq_gr rfl,
   by intros; exact eq_ld rfl rfl,
   by intros; exact eq_cv rfl (Nat.le_of_ble_eq_true rfl) rfl rfl rfl (Nat.le_of_ble_eq_true rfl),
   by intros; exact eq_ret rfl⟩
theorem rw_X11_gain :
  (∀ (d : Nat) (a0 a1 a2 a3 : Int) (S h : mx_H) (n : Int), mx_M d 120 [(2, a0), (0, a1), (0, a2), (0, a3)] S h n = mx_ex d 120 0 [some (2, a0), some (0, a1), some (0, a2), some (0, a3), none] [] S h n) ∧
  (∀ (d : Nat) (x : Int) (l1 l2 l3 l4 : Option mx_V) (S h : mx_H) (n : Int), mx_ex d 120 0 [some (2, x), l1, l2, l3, l4] [] S h n = mx_ex d 120 1 [some (2, x), l1, l2, l3, l4] [(2, x)] S h n) ∧
  (∀ (d : Nat) (a : Int) (l0 l1 l2 l3 l4 : Option mx_V) (S h : mx_H) (n : Int), mx_ex d 120 1 [l0, l1, l2, l3, l4] [(2, a)] S h n = mx_gd (7 ≤ S a (-2) ∧ S a (-2) ≤ 7) d 120 4 [l0, l1, l2, l3, l4] [(2, S a 3)] S h n) ∧
  (∀ (d : Nat) (x : Int) (l0 l2 l3 l4 : Option mx_V) (v0 : mx_V) (S h : mx_H) (n : Int), mx_ex d 120 4 [l0, some (0, x), l2, l3, l4] [v0] S h n = mx_ex d 120 5 [l0, some (0, x), l2, l3, l4] [(0, x), v0] S h n) ∧
  (∀ (d : Nat) (x0 a : Int) (l0 l1 l2 l3 l4 : Option mx_V) (S h : mx_H) (n : Int), mx_ex (d + 1) 120 5 [l0, l1, l2, l3, l4] [(0, x0), (2, a)] S h n = mx_cl (S a (-2) = 8) d 90 [(2, a), (0, x0)] 120 8 [l0, l1, l2, l3, l4] [] S h n) ∧
  (∀ (d : Nat) (x : Int) (l0 l1 l2 l3 l4 : Option mx_V) (S h : mx_H) (n : Int), mx_ex d 120 8 [l0, l1, l2, l3, l4] [(2, x)] S h n = mx_ex d 120 10 [l0, l1, l2, mx_nl l3, some (2, x)] [] S h n) ∧
  (∀ (d : Nat) (x : Int) (l0 l1 l2 l3 : Option mx_V) (S h : mx_H) (n : Int), mx_ex d 120 10 [l0, l1, l2, l3, some (2, x)] [] S h n = mx_ex d 120 12 [l0, l1, l2, l3, some (2, x)] [(2, x)] S h n) ∧
  (∀ (d : Nat) (a : Int) (l0 l1 l2 l3 l4 : Option mx_V) (S h : mx_H) (n : Int), mx_ex d 120 12 [l0, l1, l2, l3, l4] [(2, a)] S h n = mx_br (a = -1) d 120 29 15 [l0, l1, l2, l3, l4] [] S h n) ∧
  (∀ (d : Nat) (x : Int) (l0 l1 l3 l4 : Option mx_V) (S h : mx_H) (n : Int), mx_ex d 120 15 [l0, l1, some (0, x), l3, l4] [] S h n = mx_ex d 120 16 [l0, l1, some (0, x), l3, l4] [(0, x)] S h n) ∧
  (∀ (d : Nat) (x0 : Int) (l0 l1 l2 l3 l4 : Option mx_V) (S h : mx_H) (n : Int), mx_ex (d + 1) 120 16 [l0, l1, l2, l3, l4] [(0, x0)] S h n = mx_rt (mx_M d 147 [(0, x0)] S h n) (d + 1) 120 19 [l0, l1, l2, l3, l4] []) ∧
  (∀ (d : Nat) (a : Int) (l0 l1 l2 l3 l4 : Option mx_V) (S h : mx_H) (n : Int), mx_ex d 120 19 [l0, l1, l2, l3, l4] [(0, a)] S h n = mx_br (a = 0) d 120 29 22 [l0, l1, l2, l3, l4] [] S h n) ∧
  (∀ (d : Nat) (x : Int) (l0 l1 l2 l4 : Option mx_V) (S h : mx_H) (n : Int), mx_ex d 120 22 [l0, l1, l2, some (0, x), l4] [] S h n = mx_ex d 120 23 [l0, l1, l2, some (0, x), l4] [(0, x)] S h n) ∧
  (∀ (d : Nat) (x0 : Int) (l0 l1 l2 l3 l4 : Option mx_V) (S h : mx_H) (n : Int), mx_ex (d + 1) 120 23 [l0, l1, l2, l3, l4] [(0, x0)] S h n = mx_rt (mx_M d 147 [(0, x0)] S h n) (d + 1) 120 26 [l0, l1, l2, l3, l4] []) ∧
  (∀ (d : Nat) (a : Int) (l0 l1 l2 l3 l4 : Option mx_V) (S h : mx_H) (n : Int), mx_ex d 120 26 [l0, l1, l2, l3, l4] [(0, a)] S h n = mx_br (a = 0) d 120 29 33 [l0, l1, l2, l3, l4] [] S h n) ∧
  (∀ (d : Nat) (l0 l1 l2 l3 l4 : Option mx_V) (S h : mx_H) (n : Int), mx_ex d 120 29 [l0, l1, l2, l3, l4] [] S h n = mx_ex d 120 32 [l0, l1, l2, l3, l4] [(1, (-1000000000000))] S h n) ∧
  (∀ (d : Nat) (x : Int) (l0 l1 l2 l3 l4 : Option mx_V) (S h : mx_H) (n : Int), mx_ex d 120 32 [l0, l1, l2, l3, l4] [(1, x)] S h n = some (some (1, x), S, h, n)) ∧
  (∀ (d : Nat) (x : Int) (l0 l1 l2 l3 : Option mx_V) (S h : mx_H) (n : Int), mx_ex d 120 33 [l0, l1, l2, l3, some (2, x)] [] S h n = mx_ex d 120 35 [l0, l1, l2, l3, some (2, x)] [(2, x)] S h n) ∧
  (∀ (d : Nat) (x : Int) (l0 l1 l2 l4 : Option mx_V) (v0 : mx_V) (S h : mx_H) (n : Int), mx_ex d 120 35 [l0, l1, l2, some (0, x), l4] [v0] S h n = mx_ex d 120 36 [l0, l1, l2, some (0, x), l4] [(0, x), v0] S h n) ∧
  (∀ (d : Nat) (x0 a : Int) (l0 l1 l2 l3 l4 : Option mx_V) (S h : mx_H) (n : Int), mx_ex (d + 1) 120 36 [l0, l1, l2, l3, l4] [(0, x0), (2, a)] S h n = mx_cu (mx_vt (S a (-2)) [(1, 43), (2, 56), (3, 3), (4, 3), (5, 81), (6, 9)]) d [(2, a), (0, x0)] 120 39 [l0, l1, l2, l3, l4] [] S h n) ∧
  (∀ (d : Nat) (x : Int) (l0 l1 l2 l3 : Option mx_V) (v0 : mx_V) (S h : mx_H) (n : Int), mx_ex d 120 39 [l0, l1, l2, l3, some (2, x)] [v0] S h n = mx_ex d 120 41 [l0, l1, l2, l3, some (2, x)] [(2, x), v0] S h n) ∧
  (∀ (d : Nat) (x : Int) (l0 l1 l3 l4 : Option mx_V) (v0 v1 : mx_V) (S h : mx_H) (n : Int), mx_ex d 120 41 [l0, l1, some (0, x), l3, l4] [v0, v1] S h n = mx_ex d 120 42 [l0, l1, some (0, x), l3, l4] [(0, x), v0, v1] S h n) ∧
  (∀ (d : Nat) (x0 a : Int) (l0 l1 l2 l3 l4 : Option mx_V) (v2 : mx_V) (S h : mx_H) (n : Int), mx_ex (d + 1) 120 42 [l0, l1, l2, l3, l4] [(0, x0), (2, a), v2] S h n = mx_cu (mx_vt (S a (-2)) [(1, 43), (2, 56), (3, 3), (4, 3), (5, 81), (6, 9)]) d [(2, a), (0, x0)] 120 45 [l0, l1, l2, l3, l4] [v2] S h n) ∧
  (∀ (d : Nat) (b a : Int) (l0 l1 l2 l3 l4 : Option mx_V) (S h : mx_H) (n : Int), mx_ex d 120 45 [l0, l1, l2, l3, l4] [(0, b), (0, a)] S h n = mx_ex d 120 46 [l0, l1, l2, l3, l4] [(0, mx_w (a - b))] S h n) ∧
  (∀ (d : Nat) (a : Int) (l0 l1 l2 l3 l4 : Option mx_V) (S h : mx_H) (n : Int), mx_ex d 120 46 [l0, l1, l2, l3, l4] [(0, a)] S h n = mx_ex d 120 47 [l0, l1, l2, l3, l4] [(1, a)] S h n) ∧
  (∀ (d : Nat) (x : Int) (l0 l1 l2 l3 l4 : Option mx_V) (S h : mx_H) (n : Int), mx_ex d 120 47 [l0, l1, l2, l3, l4] [(1, x)] S h n = some (some (1, x), S, h, n)) :=
  ⟨by intros; exact rfl,
   by intros; exact eq_ld rfl rfl,
   by intros; exact eq_gr rfl,
   by intros; exact eq_ld rfl rfl,
   by intros; exact eq_cv rfl (Nat.le_of_ble_eq_true rfl) rfl rfl rfl (Nat.le_of_ble_eq_true rfl),
   by intros; exact eq_st rfl (by decide) (Nat.le_of_ble_eq_true rfl) rfl,
   by intros; exact eq_ld rfl rfl,
   by intros; exact eq_nul rfl,
   by intros; exact eq_ld rfl rfl,
   by intros; exact eq_cs rfl (Nat.le_of_ble_eq_true rfl) rfl rfl rfl (Nat.le_of_ble_eq_true rfl),
   by intros; exact eq_if0 rfl,
   by intros; exact eq_ld rfl rfl,
   by intros; exact eq_cs rfl (Nat.le_of_ble_eq_true rfl) rfl rfl rfl (Nat.le_of_ble_eq_true rfl),
   by intros; exact eq_if1 rfl,
   by intros; exact eq_push rfl,
   by intros; exact eq_ret rfl,
   by intros; exact eq_ld rfl rfl,
   by intros; exact eq_ld rfl rfl,
   by intros; exact eq_cu rfl (Nat.le_of_ble_eq_true rfl) rfl rfl rfl (Nat.le_of_ble_eq_true rfl),
   by intros; exact eq_ld rfl rfl,
   by intros; exact eq_ld rfl rfl,
   by intros; exact eq_cu rfl (Nat.le_of_ble_eq_true rfl) rfl rfl rfl (Nat.le_of_ble_eq_true rfl),
   by intros; exact eq_i2 (o := mx_sub) rfl,
   by intros; exact eq_i2l rfl,
   by intros; exact eq_ret rfl⟩
theorem rh_X11_written_58 : ∀ (d : Nat) (x : Int) (l0 l1 l2 l3 l4 l5 : Option mx_V) (S h : mx_H) (n : Int), mx_ex d 121 58 [l0, l1, l2, l3, l4, l5, some (0, x)] [] S h n = mx_ex d 121 60 [l0, l1, l2, l3, l4, l5, some (0, x)] [(0, x)] S h n := by intros; exact eq_ld rfl rfl
theorem rw_X11_written :
  (∀ (d : Nat) (a0 a1 a2 a3 : Int) (S h : mx_H) (n : Int), mx_M d 121 [(2, a0), (0, a1), (0, a2), (0, a3)] S h n = mx_ex d 121 0 [some (2, a0), some (0, a1), some (0, a2), some (0, a3), none, none, none] [] S h n) ∧
  (∀ (d : Nat) (x : Int) (l0 l2 l3 l4 l5 l6 : Option mx_V) (S h : mx_H) (n : Int), mx_ex d 121 0 [l0, some (0, x), l2, l3, l4, l5, l6] [] S h n = mx_ex d 121 1 [l0, some (0, x), l2, l3, l4, l5, l6] [(0, x)] S h n) ∧
  (∀ (d : Nat) (l0 l1 l2 l3 l4 l5 l6 : Option mx_V) (v0 : mx_V) (S h : mx_H) (n : Int), mx_ex d 121 1 [l0, l1, l2, l3, l4, l5, l6] [v0] S h n = mx_ex d 121 2 [l0, l1, l2, l3, l4, l5, l6] [(0, 0), v0] S h n) ∧
  (∀ (d : Nat) (l0 l1 l2 l3 l4 l5 l6 : Option mx_V) (v0 v1 : mx_V) (S h : mx_H) (n : Int), mx_ex d 121 2 [l0, l1, l2, l3, l4, l5, l6] [v0, v1] S h n = mx_ex d 121 5 [l0, l1, l2, l3, l4, l5, l6] [(0, 9999), v0, v1] S h n) ∧
  (∀ (d : Nat) (x0 x1 x2 : Int) (l0 l1 l2 l3 l4 l5 l6 : Option mx_V) (S h : mx_H) (n : Int), mx_ex (d + 1) 121 5 [l0, l1, l2, l3, l4, l5, l6] [(0, x0), (0, x1), (0, x2)] S h n = mx_rt (mx_M d 145 [(0, x2), (0, x1), (0, x0)] S h n) (d + 1) 121 8 [l0, l1, l2, l3, l4, l5, l6] []) ∧
  (∀ (d : Nat) (a : Int) (l0 l1 l2 l3 l4 l5 l6 : Option mx_V) (S h : mx_H) (n : Int), mx_ex d 121 8 [l0, l1, l2, l3, l4, l5, l6] [(0, a)] S h n = mx_br (a = 0) d 121 23 11 [l0, l1, l2, l3, l4, l5, l6] [] S h n) ∧
  (∀ (d : Nat) (x : Int) (l0 l1 l3 l4 l5 l6 : Option mx_V) (S h : mx_H) (n : Int), mx_ex d 121 11 [l0, l1, some (0, x), l3, l4, l5, l6] [] S h n = mx_ex d 121 12 [l0, l1, some (0, x), l3, l4, l5, l6] [(0, x)] S h n) ∧
  (∀ (d : Nat) (x0 : Int) (l0 l1 l2 l3 l4 l5 l6 : Option mx_V) (S h : mx_H) (n : Int), mx_ex (d + 1) 121 12 [l0, l1, l2, l3, l4, l5, l6] [(0, x0)] S h n = mx_rt (mx_M d 147 [(0, x0)] S h n) (d + 1) 121 15 [l0, l1, l2, l3, l4, l5, l6] []) ∧
  (∀ (d : Nat) (a : Int) (l0 l1 l2 l3 l4 l5 l6 : Option mx_V) (S h : mx_H) (n : Int), mx_ex d 121 15 [l0, l1, l2, l3, l4, l5, l6] [(0, a)] S h n = mx_br (a = 0) d 121 23 18 [l0, l1, l2, l3, l4, l5, l6] [] S h n) ∧
  (∀ (d : Nat) (x : Int) (l0 l1 l2 l4 l5 l6 : Option mx_V) (S h : mx_H) (n : Int), mx_ex d 121 18 [l0, l1, l2, some (0, x), l4, l5, l6] [] S h n = mx_ex d 121 19 [l0, l1, l2, some (0, x), l4, l5, l6] [(0, x)] S h n) ∧
  (∀ (d : Nat) (l0 l1 l2 l3 l4 l5 l6 : Option mx_V) (v0 : mx_V) (S h : mx_H) (n : Int), mx_ex d 121 19 [l0, l1, l2, l3, l4, l5, l6] [v0] S h n = mx_ex d 121 20 [l0, l1, l2, l3, l4, l5, l6] [(0, (-1)), v0] S h n) ∧
  (∀ (d : Nat) (b a : Int) (l0 l1 l2 l3 l4 l5 l6 : Option mx_V) (S h : mx_H) (n : Int), mx_ex d 121 20 [l0, l1, l2, l3, l4, l5, l6] [(0, b), (0, a)] S h n = mx_br (a < b) d 121 23 25 [l0, l1, l2, l3, l4, l5, l6] [] S h n) ∧
  (∀ (d : Nat) (l0 l1 l2 l3 l4 l5 l6 : Option mx_V) (S h : mx_H) (n : Int), mx_ex d 121 23 [l0, l1, l2, l3, l4, l5, l6] [] S h n = mx_ex d 121 24 [l0, l1, l2, l3, l4, l5, l6] [(0, (-1))] S h n) ∧
  (∀ (d : Nat) (x : Int) (l0 l1 l2 l3 l4 l5 l6 : Option mx_V) (S h : mx_H) (n : Int), mx_ex d 121 24 [l0, l1, l2, l3, l4, l5, l6] [(0, x)] S h n = some (some (0, x), S, h, n)) ∧
  (∀ (d : Nat) (x : Int) (l0 l2 l3 l4 l5 l6 : Option mx_V) (S h : mx_H) (n : Int), mx_ex d 121 25 [l0, some (0, x), l2, l3, l4, l5, l6] [] S h n = mx_ex d 121 26 [l0, some (0, x), l2, l3, l4, l5, l6] [(0, x)] S h n) ∧
  (∀ (d : Nat) (x : Int) (l0 l1 l3 l4 l5 l6 : Option mx_V) (v0 : mx_V) (S h : mx_H) (n : Int), mx_ex d 121 26 [l0, l1, some (0, x), l3, l4, l5, l6] [v0] S h n = mx_ex d 121 27 [l0, l1, some (0, x), l3, l4, l5, l6] [(0, x), v0] S h n) ∧
  (∀ (d : Nat) (x0 x1 : Int) (l0 l1 l2 l3 l4 l5 l6 : Option mx_V) (S h : mx_H) (n : Int), mx_ex (d + 1) 121 27 [l0, l1, l2, l3, l4, l5, l6] [(0, x0), (0, x1)] S h n = mx_rt (mx_M d 152 [(0, x1), (0, x0)] S h n) (d + 1) 121 30 [l0, l1, l2, l3, l4, l5, l6] []) ∧
  (∀ (d : Nat) (x : Int) (l0 l1 l2 l3 l4 l5 l6 : Option mx_V) (S h : mx_H) (n : Int), mx_ex d 121 30 [l0, l1, l2, l3, l4, l5, l6] [(0, x)] S h n = mx_ex d 121 32 [l0, l1, l2, mx_nl l3, some (0, x), l5, l6] [] S h n) ∧
  (∀ (d : Nat) (x : Int) (l0 l1 l2 l4 l5 l6 : Option mx_V) (S h : mx_H) (n : Int), mx_ex d 121 32 [l0, l1, l2, some (0, x), l4, l5, l6] [] S h n = mx_ex d 121 33 [l0, l1, l2, some (0, x), l4, l5, l6] [(0, x)] S h n) ∧
  (∀ (d : Nat) (l0 l1 l2 l3 l4 l5 l6 : Option mx_V) (v0 : mx_V) (S h : mx_H) (n : Int), mx_ex d 121 33 [l0, l1, l2, l3, l4, l5, l6] [v0] S h n = mx_ex d 121 34 [l0, l1, l2, l3, l4, l5, l6] [(0, (-1)), v0] S h n) ∧
  (∀ (d : Nat) (b a : Int) (l0 l1 l2 l3 l4 l5 l6 : Option mx_V) (S h : mx_H) (n : Int), mx_ex d 121 34 [l0, l1, l2, l3, l4, l5, l6] [(0, b), (0, a)] S h n = mx_br (a = b) d 121 37 40 [l0, l1, l2, l3, l4, l5, l6] [] S h n) ∧
  (∀ (d : Nat) (x : Int) (l0 l1 l2 l3 l5 l6 : Option mx_V) (S h : mx_H) (n : Int), mx_ex d 121 37 [l0, l1, l2, l3, some (0, x), l5, l6] [] S h n = mx_ex d 121 39 [l0, l1, l2, l3, some (0, x), l5, l6] [(0, x)] S h n) ∧
  (∀ (d : Nat) (x : Int) (l0 l1 l2 l3 l4 l5 l6 : Option mx_V) (S h : mx_H) (n : Int), mx_ex d 121 39 [l0, l1, l2, l3, l4, l5, l6] [(0, x)] S h n = some (some (0, x), S, h, n)) ∧
  (∀ (d : Nat) (x : Int) (l0 l1 l2 l4 l5 l6 : Option mx_V) (S h : mx_H) (n : Int), mx_ex d 121 40 [l0, l1, l2, some (0, x), l4, l5, l6] [] S h n = mx_ex d 121 41 [l0, l1, l2, some (0, x), l4, l5, l6] [(0, x)] S h n) ∧
  (∀ (d : Nat) (x : Int) (l0 l1 l2 l3 l5 l6 : Option mx_V) (v0 : mx_V) (S h : mx_H) (n : Int), mx_ex d 121 41 [l0, l1, l2, l3, some (0, x), l5, l6] [v0] S h n = mx_ex d 121 43 [l0, l1, l2, l3, some (0, x), l5, l6] [(0, x), v0] S h n) ∧
  (∀ (d : Nat) (b a : Int) (l0 l1 l2 l3 l4 l5 l6 : Option mx_V) (S h : mx_H) (n : Int), mx_ex d 121 43 [l0, l1, l2, l3, l4, l5, l6] [(0, b), (0, a)] S h n = mx_br (a < b) d 121 49 46 [l0, l1, l2, l3, l4, l5, l6] [] S h n) ∧
  (∀ (d : Nat) (l0 l1 l2 l3 l4 l5 l6 : Option mx_V) (S h : mx_H) (n : Int), mx_ex d 121 46 [l0, l1, l2, l3, l4, l5, l6] [] S h n = mx_ex d 121 48 [l0, l1, l2, l3, l4, l5, l6] [(0, (-3))] S h n) ∧
  (∀ (d : Nat) (x : Int) (l0 l1 l2 l3 l4 l5 l6 : Option mx_V) (S h : mx_H) (n : Int), mx_ex d 121 48 [l0, l1, l2, l3, l4, l5, l6] [(0, x)] S h n = some (some (0, x), S, h, n)) ∧
  (∀ (d : Nat) (x : Int) (l0 l2 l3 l4 l5 l6 : Option mx_V) (S h : mx_H) (n : Int), mx_ex d 121 49 [l0, some (0, x), l2, l3, l4, l5, l6] [] S h n = mx_ex d 121 50 [l0, some (0, x), l2, l3, l4, l5, l6] [(0, x)] S h n) ∧
  (∀ (d : Nat) (x : Int) (l0 l1 l2 l3 l4 l5 l6 : Option mx_V) (S h : mx_H) (n : Int), mx_ex d 121 50 [l0, l1, l2, l3, l4, l5, l6] [(0, x)] S h n = mx_ex d 121 52 [l0, l1, l2, l3, mx_nl l4, some (0, x), l6] [] S h n) ∧
  (∀ (d : Nat) (x : Int) (l0 l1 l2 l3 l5 l6 : Option mx_V) (S h : mx_H) (n : Int), mx_ex d 121 52 [l0, l1, l2, l3, some (0, x), l5, l6] [] S h n = mx_ex d 121 54 [l0, l1, l2, l3, some (0, x), l5, l6] [(0, x)] S h n) ∧
  (∀ (d : Nat) (l0 l1 l2 l3 l4 l5 l6 : Option mx_V) (v0 : mx_V) (S h : mx_H) (n : Int), mx_ex d 121 54 [l0, l1, l2, l3, l4, l5, l6] [v0] S h n = mx_ex d 121 55 [l0, l1, l2, l3, l4, l5, l6] [(0, 1), v0] S h n) ∧
  (∀ (d : Nat) (b a : Int) (l0 l1 l2 l3 l4 l5 l6 : Option mx_V) (S h : mx_H) (n : Int), mx_ex d 121 55 [l0, l1, l2, l3, l4, l5, l6] [(0, b), (0, a)] S h n = mx_ex d 121 56 [l0, l1, l2, l3, l4, l5, l6] [(0, mx_w (a - b))] S h n) ∧
  (∀ (d : Nat) (x : Int) (l0 l1 l2 l3 l4 l5 l6 : Option mx_V) (S h : mx_H) (n : Int), mx_ex d 121 56 [l0, l1, l2, l3, l4, l5, l6] [(0, x)] S h n = mx_ex d 121 58 [l0, l1, l2, l3, l4, mx_nl l5, some (0, x)] [] S h n) ∧
  (∀ (d : Nat) (x : Int) (l0 l1 l2 l4 l5 l6 : Option mx_V) (v0 : mx_V) (S h : mx_H) (n : Int), mx_ex d 121 60 [l0, l1, l2, some (0, x), l4, l5, l6] [v0] S h n = mx_ex d 121 61 [l0, l1, l2, some (0, x), l4, l5, l6] [(0, x), v0] S h n) ∧
  (∀ (d : Nat) (b a : Int) (l0 l1 l2 l3 l4 l5 l6 : Option mx_V) (S h : mx_H) (n : Int), mx_ex d 121 61 [l0, l1, l2, l3, l4, l5, l6] [(0, b), (0, a)] S h n = mx_br (b < a) d 121 64 76 [l0, l1, l2, l3, l4, l5, l6] [] S h n) ∧
  (∀ (d : Nat) (x : Int) (l0 l1 l2 l3 l4 l6 : Option mx_V) (S h : mx_H) (n : Int), mx_ex d 121 64 [l0, l1, l2, l3, l4, some (0, x), l6] [] S h n = mx_ex d 121 66 [l0, l1, l2, l3, l4, some (0, x), l6] [(0, x)] S h n) ∧
  (∀ (d : Nat) (x : Int) (l0 l1 l3 l4 l5 l6 : Option mx_V) (v0 : mx_V) (S h : mx_H) (n : Int), mx_ex d 121 66 [l0, l1, some (0, x), l3, l4, l5, l6] [v0] S h n = mx_ex d 121 67 [l0, l1, some (0, x), l3, l4, l5, l6] [(0, x), v0] S h n) ∧
  (∀ (d : Nat) (b a : Int) (l0 l1 l2 l3 l4 l5 l6 : Option mx_V) (S h : mx_H) (n : Int), mx_ex d 121 67 [l0, l1, l2, l3, l4, l5, l6] [(0, b), (0, a)] S h n = mx_gd (¬ b = 0) d 121 68 [l0, l1, l2, l3, l4, l5, l6] [(0, mx_w (Int.tdiv a b))] S h n) ∧
  (∀ (d : Nat) (x : Int) (l0 l1 l2 l3 l4 l5 l6 : Option mx_V) (S h : mx_H) (n : Int), mx_ex d 121 68 [l0, l1, l2, l3, l4, l5, l6] [(0, x)] S h n = mx_ex d 121 70 [l0, l1, l2, l3, mx_nl l4, some (0, x), l6] [] S h n) ∧
  (∀ (d : Nat) (x : Int) (l0 l1 l2 l3 l4 l5 : Option mx_V) (S h : mx_H) (n : Int), mx_ex d 121 70 [l0, l1, l2, l3, l4, l5, some (0, x)] [] S h n = mx_ex d 121 73 [l0, l1, l2, l3, l4, mx_nl l5, some (0, mx_w (x + (-1)))] [] S h n) ∧
  (∀ (d : Nat) (l0 l1 l2 l3 l4 l5 l6 : Option mx_V) (S h : mx_H) (n : Int), mx_ex d 121 73 [l0, l1, l2, l3, l4, l5, l6] [] S h n = mx_ex d 121 58 [l0, l1, l2, l3, l4, l5, l6] [] S h n) ∧
  (∀ (d : Nat) (x : Int) (l0 l1 l2 l3 l4 l6 : Option mx_V) (S h : mx_H) (n : Int), mx_ex d 121 76 [l0, l1, l2, l3, l4, some (0, x), l6] [] S h n = mx_ex d 121 78 [l0, l1, l2, l3, l4, some (0, x), l6] [(0, x)] S h n) ∧
  (∀ (d : Nat) (x : Int) (l0 l1 l3 l4 l5 l6 : Option mx_V) (v0 : mx_V) (S h : mx_H) (n : Int), mx_ex d 121 78 [l0, l1, some (0, x), l3, l4, l5, l6] [v0] S h n = mx_ex d 121 79 [l0, l1, some (0, x), l3, l4, l5, l6] [(0, x), v0] S h n) ∧
  (∀ (d : Nat) (b a : Int) (l0 l1 l2 l3 l4 l5 l6 : Option mx_V) (S h : mx_H) (n : Int), mx_ex d 121 79 [l0, l1, l2, l3, l4, l5, l6] [(0, b), (0, a)] S h n = mx_gd (¬ b = 0) d 121 80 [l0, l1, l2, l3, l4, l5, l6] [(0, Int.tmod a b)] S h n) ∧
  (∀ (d : Nat) (x : Int) (l0 l1 l2 l3 l4 l5 l6 : Option mx_V) (S h : mx_H) (n : Int), mx_ex d 121 80 [l0, l1, l2, l3, l4, l5, l6] [(0, x)] S h n = some (some (0, x), S, h, n)) :=
  ⟨by intros; exact rfl,
   by intros; exact eq_ld rfl rfl,
   by intros; exact eq_push rfl,
   by intros; exact eq_push rfl,
   by intros; exact eq_cs rfl (Nat.le_of_ble_eq_true rfl) rfl rfl rfl (Nat.le_of_ble_eq_true rfl),
   by intros; exact eq_if0 rfl,
   by intros; exact eq_ld rfl rfl,
   by intros; exact eq_cs rfl (Nat.le_of_ble_eq_true rfl) rfl rfl rfl (Nat.le_of_ble_eq_true rfl),
   by intros; exact eq_if0 rfl,
   by intros; exact eq_ld rfl rfl,
   by intros; exact eq_push rfl,
   by intros; exact eq_ic3 rfl,
   by intros; exact eq_push rfl,
   by intros; exact eq_ret rfl,
   by intros; exact eq_ld rfl rfl,
   by intros; exact eq_ld rfl rfl,
   by intros; exact eq_cs rfl (Nat.le_of_ble_eq_true rfl) rfl rfl rfl (Nat.le_of_ble_eq_true rfl),
   by intros; exact eq_st rfl (by decide) (Nat.le_of_ble_eq_true rfl) rfl,
   by intros; exact eq_ld rfl rfl,
   by intros; exact eq_push rfl,
   by intros; exact eq_ic1 rfl,
   by intros; exact eq_ld rfl rfl,
   by intros; exact eq_ret rfl,
   by intros; exact eq_ld rfl rfl,
   by intros; exact eq_ld rfl rfl,
   by intros; exact eq_ic2 rfl,
   by intros; exact eq_push rfl,
   by intros; exact eq_ret rfl,
   by intros; exact eq_ld rfl rfl,
   by intros; exact eq_st rfl (by decide) (Nat.le_of_ble_eq_true rfl) rfl,
   by intros; exact eq_ld rfl rfl,
   by intros; exact eq_push rfl,
   by intros; exact eq_i2 (o := mx_sub) rfl,
   by intros; exact eq_st rfl (by decide) (Nat.le_of_ble_eq_true rfl) rfl,
   by intros; exact eq_ld rfl rfl,
   by intros; exact eq_ic5 rfl,
   by intros; exact eq_ld rfl rfl,
   by intros; exact eq_ld rfl rfl,
   by intros; exact eq_i2d (o := mx_div) rfl,
   by intros; exact eq_st rfl (by decide) (Nat.le_of_ble_eq_true rfl) rfl,
   by intros; exact eq_inc rfl rfl rfl,
   by intros; exact eq_go rfl,
   by intros; exact eq_ld rfl rfl,
   by intros; exact eq_ld rfl rfl,
   by intros; exact eq_i2d (o := mx_rem) rfl,
   by intros; exact eq_ret rfl⟩
theorem rw_X11_alike :
  (∀ (d : Nat) (a0 a1 a2 : Int) (S h : mx_H) (n : Int), mx_M d 122 [(2, a0), (0, a1), (0, a2)] S h n = mx_ex d 122 0 [some (2, a0), some (0, a1), some (0, a2), none] [] S h n) ∧
  (∀ (d : Nat) (x : Int) (l0 l2 l3 : Option mx_V) (S h : mx_H) (n : Int), mx_ex d 122 0 [l0, some (0, x), l2, l3] [] S h n = mx_ex d 122 1 [l0, some (0, x), l2, l3] [(0, x)] S h n) ∧
  (∀ (d : Nat) (x0 : Int) (l0 l1 l2 l3 : Option mx_V) (S h : mx_H) (n : Int), mx_ex (d + 1) 122 1 [l0, l1, l2, l3] [(0, x0)] S h n = mx_rt (mx_M d 150 [(0, x0)] S h n) (d + 1) 122 4 [l0, l1, l2, l3] []) ∧
  (∀ (d : Nat) (a : Int) (l0 l1 l2 l3 : Option mx_V) (S h : mx_H) (n : Int), mx_ex d 122 4 [l0, l1, l2, l3] [(0, a)] S h n = mx_br (a = 0) d 122 18 7 [l0, l1, l2, l3] [] S h n) ∧
  (∀ (d : Nat) (x : Int) (l0 l1 l3 : Option mx_V) (S h : mx_H) (n : Int), mx_ex d 122 7 [l0, l1, some (0, x), l3] [] S h n = mx_ex d 122 8 [l0, l1, some (0, x), l3] [(0, x)] S h n) ∧
  (∀ (d : Nat) (l0 l1 l2 l3 : Option mx_V) (v0 : mx_V) (S h : mx_H) (n : Int), mx_ex d 122 8 [l0, l1, l2, l3] [v0] S h n = mx_ex d 122 9 [l0, l1, l2, l3] [(0, 0), v0] S h n) ∧
  (∀ (d : Nat) (l0 l1 l2 l3 : Option mx_V) (v0 v1 : mx_V) (S h : mx_H) (n : Int), mx_ex d 122 9 [l0, l1, l2, l3] [v0, v1] S h n = mx_ex d 122 12 [l0, l1, l2, l3] [(0, 9999), v0, v1] S h n) ∧
  (∀ (d : Nat) (x0 x1 x2 : Int) (l0 l1 l2 l3 : Option mx_V) (S h : mx_H) (n : Int), mx_ex (d + 1) 122 12 [l0, l1, l2, l3] [(0, x0), (0, x1), (0, x2)] S h n = mx_rt (mx_M d 145 [(0, x2), (0, x1), (0, x0)] S h n) (d + 1) 122 15 [l0, l1, l2, l3] []) ∧
  (∀ (d : Nat) (a : Int) (l0 l1 l2 l3 : Option mx_V) (S h : mx_H) (n : Int), mx_ex d 122 15 [l0, l1, l2, l3] [(0, a)] S h n = mx_br (a = 0) d 122 18 20 [l0, l1, l2, l3] [] S h n) ∧
  (∀ (d : Nat) (l0 l1 l2 l3 : Option mx_V) (S h : mx_H) (n : Int), mx_ex d 122 18 [l0, l1, l2, l3] [] S h n = mx_ex d 122 19 [l0, l1, l2, l3] [(0, (-1))] S h n) ∧
  (∀ (d : Nat) (x : Int) (l0 l1 l2 l3 : Option mx_V) (S h : mx_H) (n : Int), mx_ex d 122 19 [l0, l1, l2, l3] [(0, x)] S h n = some (some (0, x), S, h, n)) ∧
  (∀ (d : Nat) (x : Int) (l0 l2 l3 : Option mx_V) (S h : mx_H) (n : Int), mx_ex d 122 20 [l0, some (0, x), l2, l3] [] S h n = mx_ex d 122 21 [l0, some (0, x), l2, l3] [(0, x)] S h n) ∧
  (∀ (d : Nat) (x0 : Int) (l0 l1 l2 l3 : Option mx_V) (S h : mx_H) (n : Int), mx_ex (d + 1) 122 21 [l0, l1, l2, l3] [(0, x0)] S h n = mx_rt (mx_M d 248 [(0, x0)] S h n) (d + 1) 122 24 [l0, l1, l2, l3] []) ∧
  (∀ (d : Nat) (l0 l1 l2 l3 : Option mx_V) (v0 : mx_V) (S h : mx_H) (n : Int), mx_ex d 122 24 [l0, l1, l2, l3] [v0] S h n = mx_ex d 122 25 [l0, l1, l2, l3] [(0, 1), v0] S h n) ∧
  (∀ (d : Nat) (b a : Int) (l0 l1 l2 l3 : Option mx_V) (S h : mx_H) (n : Int), mx_ex d 122 25 [l0, l1, l2, l3] [(0, b), (0, a)] S h n = mx_br (a = b) d 122 28 32 [l0, l1, l2, l3] [] S h n) ∧
  (∀ (d : Nat) (l0 l1 l2 l3 : Option mx_V) (S h : mx_H) (n : Int), mx_ex d 122 28 [l0, l1, l2, l3] [] S h n = mx_ex d 122 29 [l0, l1, l2, l3] [(0, 1)] S h n) ∧
  (∀ (d : Nat) (l0 l1 l2 l3 : Option mx_V) (v0 : mx_V) (S h : mx_H) (n : Int), mx_ex d 122 29 [l0, l1, l2, l3] [v0] S h n = mx_ex d 122 33 [l0, l1, l2, l3] [v0] S h n) ∧
  (∀ (d : Nat) (l0 l1 l2 l3 : Option mx_V) (S h : mx_H) (n : Int), mx_ex d 122 32 [l0, l1, l2, l3] [] S h n = mx_ex d 122 33 [l0, l1, l2, l3] [(0, 0)] S h n) ∧
  (∀ (d : Nat) (x : Int) (l0 l1 l2 l3 : Option mx_V) (S h : mx_H) (n : Int), mx_ex d 122 33 [l0, l1, l2, l3] [(0, x)] S h n = mx_ex d 122 34 [l0, l1, mx_nl l2, some (0, x)] [] S h n) ∧
  (∀ (d : Nat) (x : Int) (l0 l1 l2 : Option mx_V) (S h : mx_H) (n : Int), mx_ex d 122 34 [l0, l1, l2, some (0, x)] [] S h n = mx_ex d 122 35 [l0, l1, l2, some (0, x)] [(0, x)] S h n) ∧
  (∀ (d : Nat) (a : Int) (l0 l1 l2 l3 : Option mx_V) (S h : mx_H) (n : Int), mx_ex d 122 35 [l0, l1, l2, l3] [(0, a)] S h n = mx_br (a = 0) d 122 38 47 [l0, l1, l2, l3] [] S h n) ∧
  (∀ (d : Nat) (x : Int) (l0 l1 l3 : Option mx_V) (S h : mx_H) (n : Int), mx_ex d 122 38 [l0, l1, some (0, x), l3] [] S h n = mx_ex d 122 39 [l0, l1, some (0, x), l3] [(0, x)] S h n) ∧
  (∀ (d : Nat) (x : Int) (l0 l2 l3 : Option mx_V) (v0 : mx_V) (S h : mx_H) (n : Int), mx_ex d 122 39 [l0, some (0, x), l2, l3] [v0] S h n = mx_ex d 122 40 [l0, some (0, x), l2, l3] [(0, x), v0] S h n) ∧
  (∀ (d : Nat) (l0 l1 l2 l3 : Option mx_V) (v0 v1 : mx_V) (S h : mx_H) (n : Int), mx_ex d 122 40 [l0, l1, l2, l3] [v0, v1] S h n = mx_ex d 122 41 [l0, l1, l2, l3] [(0, 0), v0, v1] S h n) ∧
  (∀ (d : Nat) (x0 x1 : Int) (l0 l1 l2 l3 : Option mx_V) (v2 : mx_V) (S h : mx_H) (n : Int), mx_ex (d + 1) 122 41 [l0, l1, l2, l3] [(0, x0), (0, x1), v2] S h n = mx_rt (mx_M d 151 [(0, x1), (0, x0)] S h n) (d + 1) 122 44 [l0, l1, l2, l3] [v2]) ∧
  (∀ (d : Nat) (b a : Int) (l0 l1 l2 l3 : Option mx_V) (S h : mx_H) (n : Int), mx_ex d 122 44 [l0, l1, l2, l3] [(0, b), (0, a)] S h n = mx_br (a < b) d 122 47 51 [l0, l1, l2, l3] [] S h n) ∧
  (∀ (d : Nat) (x : Int) (l0 l1 l3 : Option mx_V) (S h : mx_H) (n : Int), mx_ex d 122 47 [l0, l1, some (0, x), l3] [] S h n = mx_ex d 122 48 [l0, l1, some (0, x), l3] [(0, x)] S h n) ∧
  (∀ (d : Nat) (l0 l1 l2 l3 : Option mx_V) (v0 : mx_V) (S h : mx_H) (n : Int), mx_ex d 122 48 [l0, l1, l2, l3] [v0] S h n = mx_ex d 122 53 [l0, l1, l2, l3] [v0] S h n) ∧
  (∀ (d : Nat) (l0 l1 l2 l3 : Option mx_V) (S h : mx_H) (n : Int), mx_ex d 122 51 [l0, l1, l2, l3] [] S h n = mx_ex d 122 53 [l0, l1, l2, l3] [(0, (-3))] S h n) ∧
  (∀ (d : Nat) (x : Int) (l0 l1 l2 l3 : Option mx_V) (S h : mx_H) (n : Int), mx_ex d 122 53 [l0, l1, l2, l3] [(0, x)] S h n = some (some (0, x), S, h, n)) :=
  ⟨by intros; exact rfl,
   by intros; exact eq_ld rfl rfl,
   by intros; exact eq_cs rfl (Nat.le_of_ble_eq_true rfl) rfl rfl rfl (Nat.le_of_ble_eq_true rfl),
   by intros; exact eq_if0 rfl,
   by intros; exact eq_ld rfl rfl,
   by intros; exact eq_push rfl,
   by intros; exact eq_push rfl,
   by intros; exact eq_cs rfl (Nat.le_of_ble_eq_true rfl) rfl rfl rfl (Nat.le_of_ble_eq_true rfl),
   by intros; exact eq_if1 rfl,
   by intros; exact eq_push rfl,
   by intros; exact eq_ret rfl,
   by intros; exact eq_ld rfl rfl,
   by intros; exact eq_cs rfl (Nat.le_of_ble_eq_true rfl) rfl rfl rfl (Nat.le_of_ble_eq_true rfl),
   by intros; exact eq_push rfl,
   by intros; exact eq_ic1 rfl,
   by intros; exact eq_push rfl,
   by intros; exact eq_go rfl,
   by intros; exact eq_push rfl,
   by intros; exact eq_st rfl (by decide) (Nat.le_of_ble_eq_true rfl) rfl,
   by intros; exact eq_ld rfl rfl,
   by intros; exact eq_if1 rfl,
   by intros; exact eq_ld rfl rfl,
   by intros; exact eq_ld rfl rfl,
   by intros; exact eq_push rfl,
   by intros; exact eq_cs rfl (Nat.le_of_ble_eq_true rfl) rfl rfl rfl (Nat.le_of_ble_eq_true rfl),
   by intros; exact eq_ic3 rfl,
   by intros; exact eq_ld rfl rfl,
   by intros; exact eq_go rfl,
   by intros; exact eq_push rfl,
   by intros; exact eq_ret rfl⟩
theorem rh_X11_shortest_29 : ∀ (d : Nat) (x : Int) (l0 l1 l2 l3 : Option mx_V) (S h : mx_H) (n : Int), mx_ex d 123 29 [l0, l1, l2, l3, some (0, x)] [] S h n = mx_ex d 123 31 [l0, l1, l2, l3, some (0, x)] [(0, x)] S h n := by intros; exact eq_ld rfl rfl
theorem rw_X11_shortest :
  (∀ (d : Nat) (a0 a1 a2 : Int) (S h : mx_H) (n : Int), mx_M d 123 [(2, a0), (0, a1), (0, a2)] S h n = mx_ex d 123 0 [some (2, a0), some (0, a1), some (0, a2), none, none] [] S h n) ∧
  (∀ (d : Nat) (x : Int) (l0 l2 l3 l4 : Option mx_V) (S h : mx_H) (n : Int), mx_ex d 123 0 [l0, some (0, x), l2, l3, l4] [] S h n = mx_ex d 123 1 [l0, some (0, x), l2, l3, l4] [(0, x)] S h n) ∧
  (∀ (d : Nat) (l0 l1 l2 l3 l4 : Option mx_V) (v0 : mx_V) (S h : mx_H) (n : Int), mx_ex d 123 1 [l0, l1, l2, l3, l4] [v0] S h n = mx_ex d 123 2 [l0, l1, l2, l3, l4] [(0, 0), v0] S h n) ∧
  (∀ (d : Nat) (l0 l1 l2 l3 l4 : Option mx_V) (v0 v1 : mx_V) (S h : mx_H) (n : Int), mx_ex d 123 2 [l0, l1, l2, l3, l4] [v0, v1] S h n = mx_ex d 123 5 [l0, l1, l2, l3, l4] [(0, 9999), v0, v1] S h n) ∧
  (∀ (d : Nat) (x0 x1 x2 : Int) (l0 l1 l2 l3 l4 : Option mx_V) (S h : mx_H) (n : Int), mx_ex (d + 1) 123 5 [l0, l1, l2, l3, l4] [(0, x0), (0, x1), (0, x2)] S h n = mx_rt (mx_M d 145 [(0, x2), (0, x1), (0, x0)] S h n) (d + 1) 123 8 [l0, l1, l2, l3, l4] []) ∧
  (∀ (d : Nat) (a : Int) (l0 l1 l2 l3 l4 : Option mx_V) (S h : mx_H) (n : Int), mx_ex d 123 8 [l0, l1, l2, l3, l4] [(0, a)] S h n = mx_br (a = 0) d 123 18 11 [l0, l1, l2, l3, l4] [] S h n) ∧
  (∀ (d : Nat) (x : Int) (l0 l1 l3 l4 : Option mx_V) (S h : mx_H) (n : Int), mx_ex d 123 11 [l0, l1, some (0, x), l3, l4] [] S h n = mx_ex d 123 12 [l0, l1, some (0, x), l3, l4] [(0, x)] S h n) ∧
  (∀ (d : Nat) (x0 : Int) (l0 l1 l2 l3 l4 : Option mx_V) (S h : mx_H) (n : Int), mx_ex (d + 1) 123 12 [l0, l1, l2, l3, l4] [(0, x0)] S h n = mx_rt (mx_M d 150 [(0, x0)] S h n) (d + 1) 123 15 [l0, l1, l2, l3, l4] []) ∧
  (∀ (d : Nat) (a : Int) (l0 l1 l2 l3 l4 : Option mx_V) (S h : mx_H) (n : Int), mx_ex d 123 15 [l0, l1, l2, l3, l4] [(0, a)] S h n = mx_br (a = 0) d 123 18 20 [l0, l1, l2, l3, l4] [] S h n) ∧
  (∀ (d : Nat) (l0 l1 l2 l3 l4 : Option mx_V) (S h : mx_H) (n : Int), mx_ex d 123 18 [l0, l1, l2, l3, l4] [] S h n = mx_ex d 123 19 [l0, l1, l2, l3, l4] [(0, (-1))] S h n) ∧
  (∀ (d : Nat) (x : Int) (l0 l1 l2 l3 l4 : Option mx_V) (S h : mx_H) (n : Int), mx_ex d 123 19 [l0, l1, l2, l3, l4] [(0, x)] S h n = some (some (0, x), S, h, n)) ∧
  (∀ (d : Nat) (x : Int) (l0 l1 l3 l4 : Option mx_V) (S h : mx_H) (n : Int), mx_ex d 123 20 [l0, l1, some (0, x), l3, l4] [] S h n = mx_ex d 123 21 [l0, l1, some (0, x), l3, l4] [(0, x)] S h n) ∧
  (∀ (d : Nat) (l0 l1 l2 l3 l4 : Option mx_V) (v0 : mx_V) (S h : mx_H) (n : Int), mx_ex d 123 21 [l0, l1, l2, l3, l4] [v0] S h n = mx_ex d 123 22 [l0, l1, l2, l3, l4] [(0, 0), v0] S h n) ∧
  (∀ (d : Nat) (x0 x1 : Int) (l0 l1 l2 l3 l4 : Option mx_V) (S h : mx_H) (n : Int), mx_ex (d + 1) 123 22 [l0, l1, l2, l3, l4] [(0, x0), (0, x1)] S h n = mx_rt (mx_M d 151 [(0, x1), (0, x0)] S h n) (d + 1) 123 25 [l0, l1, l2, l3, l4] []) ∧
  (∀ (d : Nat) (x : Int) (l0 l1 l2 l3 l4 : Option mx_V) (S h : mx_H) (n : Int), mx_ex d 123 25 [l0, l1, l2, l3, l4] [(0, x)] S h n = mx_ex d 123 26 [l0, l1, mx_nl l2, some (0, x), l4] [] S h n) ∧
  (∀ (d : Nat) (x : Int) (l0 l1 l2 l4 : Option mx_V) (S h : mx_H) (n : Int), mx_ex d 123 26 [l0, l1, l2, some (0, x), l4] [] S h n = mx_ex d 123 27 [l0, l1, l2, some (0, x), l4] [(0, x)] S h n) ∧
  (∀ (d : Nat) (x : Int) (l0 l1 l2 l3 l4 : Option mx_V) (S h : mx_H) (n : Int), mx_ex d 123 27 [l0, l1, l2, l3, l4] [(0, x)] S h n = mx_ex d 123 29 [l0, l1, l2, mx_nl l3, some (0, x)] [] S h n) ∧
  (∀ (d : Nat) (l0 l1 l2 l3 l4 : Option mx_V) (v0 : mx_V) (S h : mx_H) (n : Int), mx_ex d 123 31 [l0, l1, l2, l3, l4] [v0] S h n = mx_ex d 123 33 [l0, l1, l2, l3, l4] [(0, 16), v0] S h n) ∧
  (∀ (d : Nat) (b a : Int) (l0 l1 l2 l3 l4 : Option mx_V) (S h : mx_H) (n : Int), mx_ex d 123 33 [l0, l1, l2, l3, l4] [(0, b), (0, a)] S h n = mx_br (b < a) d 123 68 36 [l0, l1, l2, l3, l4] [] S h n) ∧
  (∀ (d : Nat) (x : Int) (l0 l1 l3 l4 : Option mx_V) (S h : mx_H) (n : Int), mx_ex d 123 36 [l0, l1, some (0, x), l3, l4] [] S h n = mx_ex d 123 37 [l0, l1, some (0, x), l3, l4] [(0, x)] S h n) ∧
  (∀ (d : Nat) (x : Int) (l0 l1 l2 l3 : Option mx_V) (v0 : mx_V) (S h : mx_H) (n : Int), mx_ex d 123 37 [l0, l1, l2, l3, some (0, x)] [v0] S h n = mx_ex d 123 39 [l0, l1, l2, l3, some (0, x)] [(0, x), v0] S h n) ∧
  (∀ (d : Nat) (b a : Int) (l0 l1 l2 l3 l4 : Option mx_V) (S h : mx_H) (n : Int), mx_ex d 123 39 [l0, l1, l2, l3, l4] [(0, b), (0, a)] S h n = mx_ex d 123 40 [l0, l1, l2, l3, l4] [(0, mx_shr a b)] S h n) ∧
  (∀ (d : Nat) (l0 l1 l2 l3 l4 : Option mx_V) (v0 : mx_V) (S h : mx_H) (n : Int), mx_ex d 123 40 [l0, l1, l2, l3, l4] [v0] S h n = mx_ex d 123 41 [l0, l1, l2, l3, l4] [(0, 1), v0] S h n) ∧
  (∀ (d : Nat) (b a : Int) (l0 l1 l2 l3 l4 : Option mx_V) (S h : mx_H) (n : Int), mx_ex d 123 41 [l0, l1, l2, l3, l4] [(0, b), (0, a)] S h n = mx_ex d 123 42 [l0, l1, l2, l3, l4] [(0, mx_and a b)] S h n) ∧
  (∀ (d : Nat) (a : Int) (l0 l1 l2 l3 l4 : Option mx_V) (S h : mx_H) (n : Int), mx_ex d 123 42 [l0, l1, l2, l3, l4] [(0, a)] S h n = mx_br (a = 0) d 123 62 45 [l0, l1, l2, l3, l4] [] S h n) ∧
  (∀ (d : Nat) (x : Int) (l0 l2 l3 l4 : Option mx_V) (S h : mx_H) (n : Int), mx_ex d 123 45 [l0, some (0, x), l2, l3, l4] [] S h n = mx_ex d 123 46 [l0, some (0, x), l2, l3, l4] [(0, x)] S h n) ∧
  (∀ (d : Nat) (x : Int) (l0 l1 l2 l3 : Option mx_V) (v0 : mx_V) (S h : mx_H) (n : Int), mx_ex d 123 46 [l0, l1, l2, l3, some (0, x)] [v0] S h n = mx_ex d 123 48 [l0, l1, l2, l3, some (0, x)] [(0, x), v0] S h n) ∧
  (∀ (d : Nat) (x0 x1 : Int) (l0 l1 l2 l3 l4 : Option mx_V) (S h : mx_H) (n : Int), mx_ex (d + 1) 123 48 [l0, l1, l2, l3, l4] [(0, x0), (0, x1)] S h n = mx_rt (mx_M d 152 [(0, x1), (0, x0)] S h n) (d + 1) 123 51 [l0, l1, l2, l3, l4] []) ∧
  (∀ (d : Nat) (x : Int) (l0 l2 l3 l4 : Option mx_V) (v0 : mx_V) (S h : mx_H) (n : Int), mx_ex d 123 51 [l0, some (0, x), l2, l3, l4] [v0] S h n = mx_ex d 123 52 [l0, some (0, x), l2, l3, l4] [(0, x), v0] S h n) ∧
  (∀ (d : Nat) (x : Int) (l0 l1 l2 l4 : Option mx_V) (v0 v1 : mx_V) (S h : mx_H) (n : Int), mx_ex d 123 52 [l0, l1, l2, some (0, x), l4] [v0, v1] S h n = mx_ex d 123 53 [l0, l1, l2, some (0, x), l4] [(0, x), v0, v1] S h n) ∧
  (∀ (d : Nat) (x0 x1 : Int) (l0 l1 l2 l3 l4 : Option mx_V) (v2 : mx_V) (S h : mx_H) (n : Int), mx_ex (d + 1) 123 53 [l0, l1, l2, l3, l4] [(0, x0), (0, x1), v2] S h n = mx_rt (mx_M d 152 [(0, x1), (0, x0)] S h n) (d + 1) 123 56 [l0, l1, l2, l3, l4] [v2]) ∧
  (∀ (d : Nat) (b a : Int) (l0 l1 l2 l3 l4 : Option mx_V) (S h : mx_H) (n : Int), mx_ex d 123 56 [l0, l1, l2, l3, l4] [(0, b), (0, a)] S h n = mx_br (a < b) d 123 59 62 [l0, l1, l2, l3, l4] [] S h n) ∧
  (∀ (d : Nat) (x : Int) (l0 l1 l2 l3 : Option mx_V) (S h : mx_H) (n : Int), mx_ex d 123 59 [l0, l1, l2, l3, some (0, x)] [] S h n = mx_ex d 123 61 [l0, l1, l2, l3, some (0, x)] [(0, x)] S h n) ∧
  (∀ (d : Nat) (x : Int) (l0 l1 l2 l3 l4 : Option mx_V) (S h : mx_H) (n : Int), mx_ex d 123 61 [l0, l1, l2, l3, l4] [(0, x)] S h n = mx_ex d 123 62 [l0, l1, mx_nl l2, some (0, x), l4] [] S h n) ∧
  (∀ (d : Nat) (x : Int) (l0 l1 l2 l3 : Option mx_V) (S h : mx_H) (n : Int), mx_ex d 123 62 [l0, l1, l2, l3, some (0, x)] [] S h n = mx_ex d 123 65 [l0, l1, l2, mx_nl l3, some (0, mx_w (x + 1))] [] S h n) ∧
  (∀ (d : Nat) (l0 l1 l2 l3 l4 : Option mx_V) (S h : mx_H) (n : Int), mx_ex d 123 65 [l0, l1, l2, l3, l4] [] S h n = mx_ex d 123 29 [l0, l1, l2, l3, l4] [] S h n) ∧
  (∀ (d : Nat) (x : Int) (l0 l1 l2 l4 : Option mx_V) (S h : mx_H) (n : Int), mx_ex d 123 68 [l0, l1, l2, some (0, x), l4] [] S h n = mx_ex d 123 69 [l0, l1, l2, some (0, x), l4] [(0, x)] S h n) ∧
  (∀ (d : Nat) (x : Int) (l0 l1 l2 l3 l4 : Option mx_V) (S h : mx_H) (n : Int), mx_ex d 123 69 [l0, l1, l2, l3, l4] [(0, x)] S h n = some (some (0, x), S, h, n)) :=
  ⟨by intros; exact rfl,
   by intros; exact eq_ld rfl rfl,
   by intros; exact eq_push rfl,
   by intros; exact eq_push rfl,
   by intros; exact eq_cs rfl (Nat.le_of_ble_eq_true rfl) rfl rfl rfl (Nat.le_of_ble_eq_true rfl),
   by intros; exact eq_if0 rfl,
   by intros; exact eq_ld rfl rfl,
   by intros; exact eq_cs rfl (Nat.le_of_ble_eq_true rfl) rfl rfl rfl (Nat.le_of_ble_eq_true rfl),
   by intros; exact eq_if1 rfl,
   by intros; exact eq_push rfl,
   by intros; exact eq_ret rfl,
   by intros; exact eq_ld rfl rfl,
   by intros; exact eq_push rfl,
   by intros; exact eq_cs rfl (Nat.le_of_ble_eq_true rfl) rfl rfl rfl (Nat.le_of_ble_eq_true rfl),
   by intros; exact eq_st rfl (by decide) (Nat.le_of_ble_eq_true rfl) rfl,
   by intros; exact eq_ld rfl rfl,
   by intros; exact eq_st rfl (by decide) (Nat.le_of_ble_eq_true rfl) rfl,
   by intros; exact eq_push rfl,
   by intros; exact eq_ic4 rfl,
   by intros; exact eq_ld rfl rfl,
   by intros; exact eq_ld rfl rfl,
   by intros; exact eq_i2 (o := mx_shr) rfl,
   by intros; exact eq_push rfl,
   by intros; exact eq_i2 (o := mx_and) rfl,
   by intros; exact eq_if0 rfl,
   by intros; exact eq_ld rfl rfl,
   by intros; exact eq_ld rfl rfl,
   by intros; exact eq_cs rfl (Nat.le_of_ble_eq_true rfl) rfl rfl rfl (Nat.le_of_ble_eq_true rfl),
   by intros; exact eq_ld rfl rfl,
   by intros; exact eq_ld rfl rfl,
   by intros; exact eq_cs rfl (Nat.le_of_ble_eq_true rfl) rfl rfl rfl (Nat.le_of_ble_eq_true rfl),
   by intros; exact eq_ic3 rfl,
   by intros; exact eq_ld rfl rfl,
   by intros; exact eq_st rfl (by decide) (Nat.le_of_ble_eq_true rfl) rfl,
   by intros; exact eq_inc rfl rfl rfl,
   by intros; exact eq_go rfl,
   by intros; exact eq_ld rfl rfl,
   by intros; exact eq_ret rfl⟩
theorem rh_X11_add_73 : ∀ (d : Nat) (x : Int) (l0 l1 l2 l3 l4 l5 l6 l8 : Option mx_V) (S h : mx_H) (n : Int), mx_ex d 124 73 [l0, l1, l2, l3, l4, l5, l6, some (0, x), l8] [] S h n = mx_ex d 124 75 [l0, l1, l2, l3, l4, l5, l6, some (0, x), l8] [(0, x)] S h n := by intros; exact eq_ld rfl rfl
theorem rw_X11_add :
  (∀ (d : Nat) (a0 a1 a2 : Int) (S h : mx_H) (n : Int), mx_M d 124 [(2, a0), (0, a1), (0, a2)] S h n = mx_ex d 124 0 [some (2, a0), some (0, a1), some (0, a2), none, none, none, none, none, none] [] S h n) ∧
  (∀ (d : Nat) (x : Int) (l1 l2 l3 l4 l5 l6 l7 l8 : Option mx_V) (S h : mx_H) (n : Int), mx_ex d 124 0 [some (2, x), l1, l2, l3, l4, l5, l6, l7, l8] [] S h n = mx_ex d 124 1 [some (2, x), l1, l2, l3, l4, l5, l6, l7, l8] [(2, x)] S h n) ∧
  (∀ (d : Nat) (a : Int) (l0 l1 l2 l3 l4 l5 l6 l7 l8 : Option mx_V) (S h : mx_H) (n : Int), mx_ex d 124 1 [l0, l1, l2, l3, l4, l5, l6, l7, l8] [(2, a)] S h n = mx_gd (7 ≤ S a (-2) ∧ S a (-2) ≤ 7) d 124 4 [l0, l1, l2, l3, l4, l5, l6, l7, l8] [(2, S a 3)] S h n) ∧
  (∀ (d : Nat) (x : Int) (l0 l2 l3 l4 l5 l6 l7 l8 : Option mx_V) (v0 : mx_V) (S h : mx_H) (n : Int), mx_ex d 124 4 [l0, some (0, x), l2, l3, l4, l5, l6, l7, l8] [v0] S h n = mx_ex d 124 5 [l0, some (0, x), l2, l3, l4, l5, l6, l7, l8] [(0, x), v0] S h n) ∧
  (∀ (d : Nat) (x0 a : Int) (l0 l1 l2 l3 l4 l5 l6 l7 l8 : Option mx_V) (S h : mx_H) (n : Int), mx_ex (d + 1) 124 5 [l0, l1, l2, l3, l4, l5, l6, l7, l8] [(0, x0), (2, a)] S h n = mx_cl (S a (-2) = 8) d 90 [(2, a), (0, x0)] 124 8 [l0, l1, l2, l3, l4, l5, l6, l7, l8] [] S h n) ∧
  (∀ (d : Nat) (x : Int) (l0 l1 l2 l3 l4 l5 l6 l7 l8 : Option mx_V) (S h : mx_H) (n : Int), mx_ex d 124 8 [l0, l1, l2, l3, l4, l5, l6, l7, l8] [(2, x)] S h n = mx_ex d 124 9 [l0, l1, mx_nl l2, some (2, x), l4, l5, l6, l7, l8] [] S h n) ∧
  (∀ (d : Nat) (x : Int) (l1 l2 l3 l4 l5 l6 l7 l8 : Option mx_V) (S h : mx_H) (n : Int), mx_ex d 124 9 [some (2, x), l1, l2, l3, l4, l5, l6, l7, l8] [] S h n = mx_ex d 124 10 [some (2, x), l1, l2, l3, l4, l5, l6, l7, l8] [(2, x)] S h n) ∧
  (∀ (d : Nat) (a : Int) (l0 l1 l2 l3 l4 l5 l6 l7 l8 : Option mx_V) (S h : mx_H) (n : Int), mx_ex d 124 10 [l0, l1, l2, l3, l4, l5, l6, l7, l8] [(2, a)] S h n = mx_gd (7 ≤ S a (-2) ∧ S a (-2) ≤ 7) d 124 13 [l0, l1, l2, l3, l4, l5, l6, l7, l8] [(2, S a 3)] S h n) ∧
  (∀ (d : Nat) (x : Int) (l0 l1 l3 l4 l5 l6 l7 l8 : Option mx_V) (v0 : mx_V) (S h : mx_H) (n : Int), mx_ex d 124 13 [l0, l1, some (0, x), l3, l4, l5, l6, l7, l8] [v0] S h n = mx_ex d 124 14 [l0, l1, some (0, x), l3, l4, l5, l6, l7, l8] [(0, x), v0] S h n) ∧
  (∀ (d : Nat) (x0 a : Int) (l0 l1 l2 l3 l4 l5 l6 l7 l8 : Option mx_V) (S h : mx_H) (n : Int), mx_ex (d + 1) 124 14 [l0, l1, l2, l3, l4, l5, l6, l7, l8] [(0, x0), (2, a)] S h n = mx_cl (S a (-2) = 8) d 90 [(2, a), (0, x0)] 124 17 [l0, l1, l2, l3, l4, l5, l6, l7, l8] [] S h n) ∧
  (∀ (d : Nat) (x : Int) (l0 l1 l2 l3 l4 l5 l6 l7 l8 : Option mx_V) (S h : mx_H) (n : Int), mx_ex d 124 17 [l0, l1, l2, l3, l4, l5, l6, l7, l8] [(2, x)] S h n = mx_ex d 124 19 [l0, l1, l2, mx_nl l3, some (2, x), l5, l6, l7, l8] [] S h n) ∧
  (∀ (d : Nat) (x : Int) (l0 l1 l2 l4 l5 l6 l7 l8 : Option mx_V) (S h : mx_H) (n : Int), mx_ex d 124 19 [l0, l1, l2, some (2, x), l4, l5, l6, l7, l8] [] S h n = mx_ex d 124 20 [l0, l1, l2, some (2, x), l4, l5, l6, l7, l8] [(2, x)] S h n) ∧
  (∀ (d : Nat) (a : Int) (l0 l1 l2 l3 l4 l5 l6 l7 l8 : Option mx_V) (S h : mx_H) (n : Int), mx_ex d 124 20 [l0, l1, l2, l3, l4, l5, l6, l7, l8] [(2, a)] S h n = mx_br (a = -1) d 124 28 23 [l0, l1, l2, l3, l4, l5, l6, l7, l8] [] S h n) ∧
  (∀ (d : Nat) (x : Int) (l0 l1 l2 l3 l5 l6 l7 l8 : Option mx_V) (S h : mx_H) (n : Int), mx_ex d 124 23 [l0, l1, l2, l3, some (2, x), l5, l6, l7, l8] [] S h n = mx_ex d 124 25 [l0, l1, l2, l3, some (2, x), l5, l6, l7, l8] [(2, x)] S h n) ∧
  (∀ (d : Nat) (a : Int) (l0 l1 l2 l3 l4 l5 l6 l7 l8 : Option mx_V) (S h : mx_H) (n : Int), mx_ex d 124 25 [l0, l1, l2, l3, l4, l5, l6, l7, l8] [(2, a)] S h n = mx_br (a = -1) d 124 28 30 [l0, l1, l2, l3, l4, l5, l6, l7, l8] [] S h n) ∧
  (∀ (d : Nat) (l0 l1 l2 l3 l4 l5 l6 l7 l8 : Option mx_V) (S h : mx_H) (n : Int), mx_ex d 124 28 [l0, l1, l2, l3, l4, l5, l6, l7, l8] [] S h n = mx_ex d 124 29 [l0, l1, l2, l3, l4, l5, l6, l7, l8] [(0, (-1))] S h n) ∧
  (∀ (d : Nat) (x : Int) (l0 l1 l2 l3 l4 l5 l6 l7 l8 : Option mx_V) (S h : mx_H) (n : Int), mx_ex d 124 29 [l0, l1, l2, l3, l4, l5, l6, l7, l8] [(0, x)] S h n = some (some (0, x), S, h, n)) ∧
  (∀ (d : Nat) (x : Int) (l0 l1 l2 l4 l5 l6 l7 l8 : Option mx_V) (S h : mx_H) (n : Int), mx_ex d 124 30 [l0, l1, l2, some (2, x), l4, l5, l6, l7, l8] [] S h n = mx_ex d 124 31 [l0, l1, l2, some (2, x), l4, l5, l6, l7, l8] [(2, x)] S h n) ∧
  (∀ (d : Nat) (a : Int) (l0 l1 l2 l3 l4 l5 l6 l7 l8 : Option mx_V) (S h : mx_H) (n : Int), mx_ex (d + 1) 124 31 [l0, l1, l2, l3, l4, l5, l6, l7, l8] [(2, a)] S h n = mx_cu (mx_vt (S a (-2)) [(1, 39), (2, 55), (3, 1), (4, 34), (5, 80), (6, 8)]) d [(2, a)] 124 34 [l0, l1, l2, l3, l4, l5, l6, l7, l8] [] S h n) ∧
  (∀ (d : Nat) (a : Int) (l0 l1 l2 l3 l4 l5 l6 l7 l8 : Option mx_V) (S h : mx_H) (n : Int), mx_ex d 124 34 [l0, l1, l2, l3, l4, l5, l6, l7, l8] [(0, a)] S h n = mx_br (a = 0) d 124 37 45 [l0, l1, l2, l3, l4, l5, l6, l7, l8] [] S h n) ∧
  (∀ (d : Nat) (x : Int) (l0 l1 l2 l3 l5 l6 l7 l8 : Option mx_V) (S h : mx_H) (n : Int), mx_ex d 124 37 [l0, l1, l2, l3, some (2, x), l5, l6, l7, l8] [] S h n = mx_ex d 124 39 [l0, l1, l2, l3, some (2, x), l5, l6, l7, l8] [(2, x)] S h n) ∧
  (∀ (d : Nat) (a : Int) (l0 l1 l2 l3 l4 l5 l6 l7 l8 : Option mx_V) (S h : mx_H) (n : Int), mx_ex (d + 1) 124 39 [l0, l1, l2, l3, l4, l5, l6, l7, l8] [(2, a)] S h n = mx_cu (mx_vt (S a (-2)) [(1, 39), (2, 55), (3, 1), (4, 34), (5, 80), (6, 8)]) d [(2, a)] 124 42 [l0, l1, l2, l3, l4, l5, l6, l7, l8] [] S h n) ∧
  (∀ (d : Nat) (a : Int) (l0 l1 l2 l3 l4 l5 l6 l7 l8 : Option mx_V) (S h : mx_H) (n : Int), mx_ex d 124 42 [l0, l1, l2, l3, l4, l5, l6, l7, l8] [(0, a)] S h n = mx_br (a = 0) d 124 48 45 [l0, l1, l2, l3, l4, l5, l6, l7, l8] [] S h n) ∧
  (∀ (d : Nat) (l0 l1 l2 l3 l4 l5 l6 l7 l8 : Option mx_V) (S h : mx_H) (n : Int), mx_ex d 124 45 [l0, l1, l2, l3, l4, l5, l6, l7, l8] [] S h n = mx_ex d 124 47 [l0, l1, l2, l3, l4, l5, l6, l7, l8] [(0, (-4))] S h n) ∧
  (∀ (d : Nat) (x : Int) (l0 l1 l2 l3 l4 l5 l6 l7 l8 : Option mx_V) (S h : mx_H) (n : Int), mx_ex d 124 47 [l0, l1, l2, l3, l4, l5, l6, l7, l8] [(0, x)] S h n = some (some (0, x), S, h, n)) ∧
  (∀ (d : Nat) (x : Int) (l0 l1 l2 l4 l5 l6 l7 l8 : Option mx_V) (S h : mx_H) (n : Int), mx_ex d 124 48 [l0, l1, l2, some (2, x), l4, l5, l6, l7, l8] [] S h n = mx_ex d 124 49 [l0, l1, l2, some (2, x), l4, l5, l6, l7, l8] [(2, x)] S h n) ∧
  (∀ (d : Nat) (a : Int) (l0 l1 l2 l3 l4 l5 l6 l7 l8 : Option mx_V) (S h : mx_H) (n : Int), mx_ex d 124 49 [l0, l1, l2, l3, l4, l5, l6, l7, l8] [(2, a)] S h n = mx_gd (1 ≤ S a (-2) ∧ S a (-2) ≤ 6) d 124 52 [l0, l1, l2, l3, l4, l5, l6, l7, l8] [(2, S a 2)] S h n) ∧
  (∀ (d : Nat) (a : Int) (l0 l1 l2 l3 l4 l5 l6 l7 l8 : Option mx_V) (S h : mx_H) (n : Int), mx_ex d 124 52 [l0, l1, l2, l3, l4, l5, l6, l7, l8] [(2, a)] S h n = mx_gd (20 ≤ S a (-2) ∧ S a (-2) ≤ 25) d 124 53 [l0, l1, l2, l3, l4, l5, l6, l7, l8] [(0, S a (-1))] S h n) ∧
  (∀ (d : Nat) (x : Int) (l0 l1 l2 l3 l5 l6 l7 l8 : Option mx_V) (v0 : mx_V) (S h : mx_H) (n : Int), mx_ex d 124 53 [l0, l1, l2, l3, some (2, x), l5, l6, l7, l8] [v0] S h n = mx_ex d 124 55 [l0, l1, l2, l3, some (2, x), l5, l6, l7, l8] [(2, x), v0] S h n) ∧
  (∀ (d : Nat) (a : Int) (l0 l1 l2 l3 l4 l5 l6 l7 l8 : Option mx_V) (v1 : mx_V) (S h : mx_H) (n : Int), mx_ex d 124 55 [l0, l1, l2, l3, l4, l5, l6, l7, l8] [(2, a), v1] S h n = mx_gd (1 ≤ S a (-2) ∧ S a (-2) ≤ 6) d 124 58 [l0, l1, l2, l3, l4, l5, l6, l7, l8] [(2, S a 2), v1] S h n) ∧
  (∀ (d : Nat) (a : Int) (l0 l1 l2 l3 l4 l5 l6 l7 l8 : Option mx_V) (v1 : mx_V) (S h : mx_H) (n : Int), mx_ex d 124 58 [l0, l1, l2, l3, l4, l5, l6, l7, l8] [(2, a), v1] S h n = mx_gd (20 ≤ S a (-2) ∧ S a (-2) ≤ 25) d 124 59 [l0, l1, l2, l3, l4, l5, l6, l7, l8] [(0, S a (-1)), v1] S h n) ∧
  (∀ (d : Nat) (b a : Int) (l0 l1 l2 l3 l4 l5 l6 l7 l8 : Option mx_V) (S h : mx_H) (n : Int), mx_ex d 124 59 [l0, l1, l2, l3, l4, l5, l6, l7, l8] [(0, b), (0, a)] S h n = mx_ex d 124 62 [l0, l1, l2, l3, l4, l5, l6, l7, l8] [(0, if a < b then b else a)] S h n) ∧
  (∀ (d : Nat) (x : Int) (l0 l1 l2 l3 l4 l5 l6 l7 l8 : Option mx_V) (S h : mx_H) (n : Int), mx_ex d 124 62 [l0, l1, l2, l3, l4, l5, l6, l7, l8] [(0, x)] S h n = mx_ex d 124 64 [l0, l1, l2, l3, mx_nl l4, some (0, x), l6, l7, l8] [] S h n) ∧
  (∀ (d : Nat) (x : Int) (l0 l1 l2 l3 l4 l6 l7 l8 : Option mx_V) (S h : mx_H) (n : Int), mx_ex d 124 64 [l0, l1, l2, l3, l4, some (0, x), l6, l7, l8] [] S h n = mx_ex d 124 66 [l0, l1, l2, l3, l4, some (0, x), l6, l7, l8] [(0, x)] S h n) ∧
  (∀ (d : Nat) (x : Int) (l0 l1 l2 l3 l4 l5 l6 l7 l8 : Option mx_V) (S h : mx_H) (n : Int), mx_ex d 124 66 [l0, l1, l2, l3, l4, l5, l6, l7, l8] [(0, x)] S h n = mx_gd (0 ≤ x ∧ x ≤ 300) d 124 68 [l0, l1, l2, l3, l4, l5, l6, l7, l8] [(2, n)] (mx_t S n 20 x) (mx_z h n) (n + 1)) ∧
  (∀ (d : Nat) (x : Int) (l0 l1 l2 l3 l4 l5 l6 l7 l8 : Option mx_V) (S h : mx_H) (n : Int), mx_ex d 124 68 [l0, l1, l2, l3, l4, l5, l6, l7, l8] [(2, x)] S h n = mx_ex d 124 70 [l0, l1, l2, l3, l4, mx_nl l5, some (2, x), l7, l8] [] S h n) ∧
  (∀ (d : Nat) (l0 l1 l2 l3 l4 l5 l6 l7 l8 : Option mx_V) (S h : mx_H) (n : Int), mx_ex d 124 70 [l0, l1, l2, l3, l4, l5, l6, l7, l8] [] S h n = mx_ex d 124 71 [l0, l1, l2, l3, l4, l5, l6, l7, l8] [(0, 0)] S h n) ∧
  (∀ (d : Nat) (x : Int) (l0 l1 l2 l3 l4 l5 l6 l7 l8 : Option mx_V) (S h : mx_H) (n : Int), mx_ex d 124 71 [l0, l1, l2, l3, l4, l5, l6, l7, l8] [(0, x)] S h n = mx_ex d 124 73 [l0, l1, l2, l3, l4, l5, mx_nl l6, some (0, x), l8] [] S h n) ∧
  (∀ (d : Nat) (x : Int) (l0 l1 l2 l3 l4 l6 l7 l8 : Option mx_V) (v0 : mx_V) (S h : mx_H) (n : Int), mx_ex d 124 75 [l0, l1, l2, l3, l4, some (0, x), l6, l7, l8] [v0] S h n = mx_ex d 124 77 [l0, l1, l2, l3, l4, some (0, x), l6, l7, l8] [(0, x), v0] S h n) ∧
  (∀ (d : Nat) (b a : Int) (l0 l1 l2 l3 l4 l5 l6 l7 l8 : Option mx_V) (S h : mx_H) (n : Int), mx_ex d 124 77 [l0, l1, l2, l3, l4, l5, l6, l7, l8] [(0, b), (0, a)] S h n = mx_br (a < b) d 124 80 129 [l0, l1, l2, l3, l4, l5, l6, l7, l8] [] S h n) ∧
  (∀ (d : Nat) (x : Int) (l0 l1 l2 l4 l5 l6 l7 l8 : Option mx_V) (S h : mx_H) (n : Int), mx_ex d 124 80 [l0, l1, l2, some (2, x), l4, l5, l6, l7, l8] [] S h n = mx_ex d 124 81 [l0, l1, l2, some (2, x), l4, l5, l6, l7, l8] [(2, x)] S h n) ∧
  (∀ (d : Nat) (x : Int) (l0 l1 l2 l3 l4 l6 l7 l8 : Option mx_V) (v0 : mx_V) (S h : mx_H) (n : Int), mx_ex d 124 81 [l0, l1, l2, l3, l4, some (0, x), l6, l7, l8] [v0] S h n = mx_ex d 124 83 [l0, l1, l2, l3, l4, some (0, x), l6, l7, l8] [(0, x), v0] S h n) ∧
  (∀ (d : Nat) (l0 l1 l2 l3 l4 l5 l6 l7 l8 : Option mx_V) (v0 v1 : mx_V) (S h : mx_H) (n : Int), mx_ex d 124 83 [l0, l1, l2, l3, l4, l5, l6, l7, l8] [v0, v1] S h n = mx_ex d 124 84 [l0, l1, l2, l3, l4, l5, l6, l7, l8] [(0, 1), v0, v1] S h n) ∧
  (∀ (d : Nat) (b a : Int) (l0 l1 l2 l3 l4 l5 l6 l7 l8 : Option mx_V) (v2 : mx_V) (S h : mx_H) (n : Int), mx_ex d 124 84 [l0, l1, l2, l3, l4, l5, l6, l7, l8] [(0, b), (0, a), v2] S h n = mx_ex d 124 85 [l0, l1, l2, l3, l4, l5, l6, l7, l8] [(0, mx_w (a - b)), v2] S h n) ∧
  (∀ (d : Nat) (x : Int) (l0 l1 l2 l3 l4 l5 l6 l8 : Option mx_V) (v0 v1 : mx_V) (S h : mx_H) (n : Int), mx_ex d 124 85 [l0, l1, l2, l3, l4, l5, l6, some (0, x), l8] [v0, v1] S h n = mx_ex d 124 87 [l0, l1, l2, l3, l4, l5, l6, some (0, x), l8] [(0, x), v0, v1] S h n) ∧
  (∀ (d : Nat) (b a : Int) (l0 l1 l2 l3 l4 l5 l6 l7 l8 : Option mx_V) (v2 : mx_V) (S h : mx_H) (n : Int), mx_ex d 124 87 [l0, l1, l2, l3, l4, l5, l6, l7, l8] [(0, b), (0, a), v2] S h n = mx_ex d 124 88 [l0, l1, l2, l3, l4, l5, l6, l7, l8] [(0, mx_w (a - b)), v2] S h n) ∧
  (∀ (d : Nat) (x0 a : Int) (l0 l1 l2 l3 l4 l5 l6 l7 l8 : Option mx_V) (S h : mx_H) (n : Int), mx_ex (d + 1) 124 88 [l0, l1, l2, l3, l4, l5, l6, l7, l8] [(0, x0), (2, a)] S h n = mx_cl (1 ≤ S a (-2) ∧ S a (-2) ≤ 6) d 41 [(2, a), (0, x0)] 124 91 [l0, l1, l2, l3, l4, l5, l6, l7, l8] [] S h n) ∧
  (∀ (d : Nat) (x : Int) (l0 l1 l2 l3 l5 l6 l7 l8 : Option mx_V) (v0 : mx_V) (S h : mx_H) (n : Int), mx_ex d 124 91 [l0, l1, l2, l3, some (2, x), l5, l6, l7, l8] [v0] S h n = mx_ex d 124 93 [l0, l1, l2, l3, some (2, x), l5, l6, l7, l8] [(2, x), v0] S h n) ∧
  (∀ (d : Nat) (x : Int) (l0 l1 l2 l3 l4 l6 l7 l8 : Option mx_V) (v0 v1 : mx_V) (S h : mx_H) (n : Int), mx_ex d 124 93 [l0, l1, l2, l3, l4, some (0, x), l6, l7, l8] [v0, v1] S h n = mx_ex d 124 95 [l0, l1, l2, l3, l4, some (0, x), l6, l7, l8] [(0, x), v0, v1] S h n) ∧
  (∀ (d : Nat) (l0 l1 l2 l3 l4 l5 l6 l7 l8 : Option mx_V) (v0 v1 v2 : mx_V) (S h : mx_H) (n : Int), mx_ex d 124 95 [l0, l1, l2, l3, l4, l5, l6, l7, l8] [v0, v1, v2] S h n = mx_ex d 124 96 [l0, l1, l2, l3, l4, l5, l6, l7, l8] [(0, 1), v0, v1, v2] S h n) ∧
  (∀ (d : Nat) (b a : Int) (l0 l1 l2 l3 l4 l5 l6 l7 l8 : Option mx_V) (v2 v3 : mx_V) (S h : mx_H) (n : Int), mx_ex d 124 96 [l0, l1, l2, l3, l4, l5, l6, l7, l8] [(0, b), (0, a), v2, v3] S h n = mx_ex d 124 97 [l0, l1, l2, l3, l4, l5, l6, l7, l8] [(0, mx_w (a - b)), v2, v3] S h n) ∧
  (∀ (d : Nat) (x : Int) (l0 l1 l2 l3 l4 l5 l6 l8 : Option mx_V) (v0 v1 v2 : mx_V) (S h : mx_H) (n : Int), mx_ex d 124 97 [l0, l1, l2, l3, l4, l5, l6, some (0, x), l8] [v0, v1, v2] S h n = mx_ex d 124 99 [l0, l1, l2, l3, l4, l5, l6, some (0, x), l8] [(0, x), v0, v1, v2] S h n) ∧
  (∀ (d : Nat) (b a : Int) (l0 l1 l2 l3 l4 l5 l6 l7 l8 : Option mx_V) (v2 v3 : mx_V) (S h : mx_H) (n : Int), mx_ex d 124 99 [l0, l1, l2, l3, l4, l5, l6, l7, l8] [(0, b), (0, a), v2, v3] S h n = mx_ex d 124 100 [l0, l1, l2, l3, l4, l5, l6, l7, l8] [(0, mx_w (a - b)), v2, v3] S h n) ∧
  (∀ (d : Nat) (x0 a : Int) (l0 l1 l2 l3 l4 l5 l6 l7 l8 : Option mx_V) (v2 : mx_V) (S h : mx_H) (n : Int), mx_ex (d + 1) 124 100 [l0, l1, l2, l3, l4, l5, l6, l7, l8] [(0, x0), (2, a), v2] S h n = mx_cl (1 ≤ S a (-2) ∧ S a (-2) ≤ 6) d 41 [(2, a), (0, x0)] 124 103 [l0, l1, l2, l3, l4, l5, l6, l7, l8] [v2] S h n) ∧
  (∀ (d : Nat) (b a : Int) (l0 l1 l2 l3 l4 l5 l6 l7 l8 : Option mx_V) (S h : mx_H) (n : Int), mx_ex d 124 103 [l0, l1, l2, l3, l4, l5, l6, l7, l8] [(0, b), (0, a)] S h n = mx_ex d 124 104 [l0, l1, l2, l3, l4, l5, l6, l7, l8] [(0, mx_w (a + b))] S h n) ∧
  (∀ (d : Nat) (x : Int) (l0 l1 l2 l3 l4 l5 l6 l7 l8 : Option mx_V) (S h : mx_H) (n : Int), mx_ex d 124 104 [l0, l1, l2, l3, l4, l5, l6, l7, l8] [(0, x)] S h n = mx_ex d 124 106 [l0, l1, l2, l3, l4, l5, l6, mx_nl l7, some (0, x)] [] S h n) ∧
  (∀ (d : Nat) (x : Int) (l0 l1 l2 l3 l4 l5 l6 l7 : Option mx_V) (S h : mx_H) (n : Int), mx_ex d 124 106 [l0, l1, l2, l3, l4, l5, l6, l7, some (0, x)] [] S h n = mx_ex d 124 108 [l0, l1, l2, l3, l4, l5, l6, l7, some (0, x)] [(0, x)] S h n) ∧
  (∀ (d : Nat) (l0 l1 l2 l3 l4 l5 l6 l7 l8 : Option mx_V) (v0 : mx_V) (S h : mx_H) (n : Int), mx_ex d 124 108 [l0, l1, l2, l3, l4, l5, l6, l7, l8] [v0] S h n = mx_ex d 124 110 [l0, l1, l2, l3, l4, l5, l6, l7, l8] [(0, 15), v0] S h n) ∧
  (∀ (d : Nat) (b a : Int) (l0 l1 l2 l3 l4 l5 l6 l7 l8 : Option mx_V) (S h : mx_H) (n : Int), mx_ex d 124 110 [l0, l1, l2, l3, l4, l5, l6, l7, l8] [(0, b), (0, a)] S h n = mx_br (b < a) d 124 113 116 [l0, l1, l2, l3, l4, l5, l6, l7, l8] [] S h n) ∧
  (∀ (d : Nat) (l0 l1 l2 l3 l4 l5 l6 l7 l8 : Option mx_V) (S h : mx_H) (n : Int), mx_ex d 124 113 [l0, l1, l2, l3, l4, l5, l6, l7, l8] [] S h n = mx_ex d 124 115 [l0, l1, l2, l3, l4, l5, l6, l7, l8] [(0, (-4))] S h n) ∧
  (∀ (d : Nat) (x : Int) (l0 l1 l2 l3 l4 l5 l6 l7 l8 : Option mx_V) (S h : mx_H) (n : Int), mx_ex d 124 115 [l0, l1, l2, l3, l4, l5, l6, l7, l8] [(0, x)] S h n = some (some (0, x), S, h, n)) ∧
  (∀ (d : Nat) (x : Int) (l0 l1 l2 l3 l4 l5 l7 l8 : Option mx_V) (S h : mx_H) (n : Int), mx_ex d 124 116 [l0, l1, l2, l3, l4, l5, some (2, x), l7, l8] [] S h n = mx_ex d 124 118 [l0, l1, l2, l3, l4, l5, some (2, x), l7, l8] [(2, x)] S h n) ∧
  (∀ (d : Nat) (x : Int) (l0 l1 l2 l3 l4 l5 l6 l8 : Option mx_V) (v0 : mx_V) (S h : mx_H) (n : Int), mx_ex d 124 118 [l0, l1, l2, l3, l4, l5, l6, some (0, x), l8] [v0] S h n = mx_ex d 124 120 [l0, l1, l2, l3, l4, l5, l6, some (0, x), l8] [(0, x), v0] S h n) ∧
  (∀ (d : Nat) (x : Int) (l0 l1 l2 l3 l4 l5 l6 l7 : Option mx_V) (v0 v1 : mx_V) (S h : mx_H) (n : Int), mx_ex d 124 120 [l0, l1, l2, l3, l4, l5, l6, l7, some (0, x)] [v0, v1] S h n = mx_ex d 124 122 [l0, l1, l2, l3, l4, l5, l6, l7, some (0, x)] [(0, x), v0, v1] S h n) ∧
  (∀ (d : Nat) (v i a : Int) (l0 l1 l2 l3 l4 l5 l6 l7 l8 : Option mx_V) (S h : mx_H) (n : Int), mx_ex d 124 122 [l0, l1, l2, l3, l4, l5, l6, l7, l8] [(0, v), (0, i), (2, a)] S h n = mx_gd (S a (-2) = 20 ∧ 0 ≤ i ∧ i < S a (-1)) d 124 123 [l0, l1, l2, l3, l4, l5, l6, l7, l8] [] S (mx_u h a i v) n) ∧
  (∀ (d : Nat) (x : Int) (l0 l1 l2 l3 l4 l5 l6 l8 : Option mx_V) (S h : mx_H) (n : Int), mx_ex d 124 123 [l0, l1, l2, l3, l4, l5, l6, some (0, x), l8] [] S h n = mx_ex d 124 126 [l0, l1, l2, l3, l4, l5, mx_nl l6, some (0, mx_w (x + 1)), l8] [] S h n) ∧
  (∀ (d : Nat) (l0 l1 l2 l3 l4 l5 l6 l7 l8 : Option mx_V) (S h : mx_H) (n : Int), mx_ex d 124 126 [l0, l1, l2, l3, l4, l5, l6, l7, l8] [] S h n = mx_ex d 124 73 [l0, l1, l2, l3, l4, l5, l6, l7, l8] [] S h n) ∧
  (∀ (d : Nat) (x : Int) (l1 l2 l3 l4 l5 l6 l7 l8 : Option mx_V) (S h : mx_H) (n : Int), mx_ex d 124 129 [some (2, x), l1, l2, l3, l4, l5, l6, l7, l8] [] S h n = mx_ex d 124 130 [some (2, x), l1, l2, l3, l4, l5, l6, l7, l8] [(2, x)] S h n) ∧
  (∀ (d : Nat) (a : Int) (l0 l1 l2 l3 l4 l5 l6 l7 l8 : Option mx_V) (S h : mx_H) (n : Int), mx_ex d 124 130 [l0, l1, l2, l3, l4, l5, l6, l7, l8] [(2, a)] S h n = mx_gd (7 ≤ S a (-2) ∧ S a (-2) ≤ 7) d 124 133 [l0, l1, l2, l3, l4, l5, l6, l7, l8] [(2, S a 3)] S h n) ∧
  (∀ (d : Nat) (a : Int) (l0 l1 l2 l3 l4 l5 l6 l7 l8 : Option mx_V) (S h : mx_H) (n : Int), mx_ex d 124 133 [l0, l1, l2, l3, l4, l5, l6, l7, l8] [(2, a)] S h n = mx_gd (8 ≤ S a (-2) ∧ S a (-2) ≤ 8) d 124 136 [l0, l1, l2, l3, l4, l5, l6, l7, l8] [(0, h a 3)] S h n) :=
  ⟨by intros; exact rfl,
   by intros; exact eq_ld rfl rfl,
   by intros; exact eq_gr rfl,
   by intros; exact eq_ld rfl rfl,
   by intros; exact eq_cv rfl (Nat.le_of_ble_eq_true rfl) rfl rfl rfl (Nat.le_of_ble_eq_true rfl),
   by intros; exact eq_st rfl (by decide) (Nat.le_of_ble_eq_true rfl) rfl,
   by intros; exact eq_ld rfl rfl,
   by intros; exact eq_gr rfl,
   by intros; exact eq_ld rfl rfl,
   by intros; exact eq_cv rfl (Nat.le_of_ble_eq_true rfl) rfl rfl rfl (Nat.le_of_ble_eq_true rfl),
   by intros; exact eq_st rfl (by decide) (Nat.le_of_ble_eq_true rfl) rfl,
   by intros; exact eq_ld rfl rfl,
   by intros; exact eq_nul rfl,
   by intros; exact eq_ld rfl rfl,
   by intros; exact eq_nul rfl,
   by intros; exact eq_push rfl,
   by intros; exact eq_ret rfl,
   by intros; exact eq_ld rfl rfl,
   by intros; exact eq_cu rfl (Nat.le_of_ble_eq_true rfl) rfl rfl rfl (Nat.le_of_ble_eq_true rfl),
   by intros; exact eq_if1 rfl,
   by intros; exact eq_ld rfl rfl,
   by intros; exact eq_cu rfl (Nat.le_of_ble_eq_true rfl) rfl rfl rfl (Nat.le_of_ble_eq_true rfl),
   by intros; exact eq_if0 rfl,
   by intros; exact eq_push rfl,
   by intros; exact eq_ret rfl,
   by intros; exact eq_ld rfl rfl,
   by intros; exact eq_gr rfl,
   by intros; exact eq_alen rfl,
   by intros; exact eq_ld rfl rfl,
   by intros; exact eq_gr rfl,
   by intros; exact eq_alen rfl,
   by intros; exact eq_m2 (o := mx_max) rfl (Nat.le_of_ble_eq_true rfl),
   by intros; exact eq_st rfl (by decide) (Nat.le_of_ble_eq_true rfl) rfl,
   by intros; exact eq_ld rfl rfl,
   by intros; exact eq_newa rfl,
   by intros; exact eq_st rfl (by decide) (Nat.le_of_ble_eq_true rfl) rfl,
   by intros; exact eq_push rfl,
   by intros; exact eq_st rfl (by decide) (Nat.le_of_ble_eq_true rfl) rfl,
   by intros; exact eq_ld rfl rfl,
   by intros; exact eq_ic3 rfl,
   by intros; exact eq_ld rfl rfl,
   by intros; exact eq_ld rfl rfl,
   by intros; exact eq_push rfl,
   by intros; exact eq_i2 (o := mx_sub) rfl,
   by intros; exact eq_ld rfl rfl,
   by intros; exact eq_i2 (o := mx_sub) rfl,
   by intros; exact eq_ci rfl (Nat.le_of_ble_eq_true rfl) rfl rfl rfl (Nat.le_of_ble_eq_true rfl),
   by intros; exact eq_ld rfl rfl,
   by intros; exact eq_ld rfl rfl,
   by intros; exact eq_push rfl,
   by intros; exact eq_i2 (o := mx_sub) rfl,
   by intros; exact eq_ld rfl rfl,
   by intros; exact eq_i2 (o := mx_sub) rfl,
   by intros; exact eq_ci rfl (Nat.le_of_ble_eq_true rfl) rfl rfl rfl (Nat.le_of_ble_eq_true rfl),
   by intros; exact eq_i2 (o := mx_add) rfl,
   by intros; exact eq_st rfl (by decide) (Nat.le_of_ble_eq_true rfl) rfl,
   by intros; exact eq_ld rfl rfl,
   by intros; exact eq_push rfl,
   by intros; exact eq_ic5 rfl,
   by intros; exact eq_push rfl,
   by intros; exact eq_ret rfl,
   by intros; exact eq_ld rfl rfl,
   by intros; exact eq_ld rfl rfl,
   by intros; exact eq_ld rfl rfl,
   by intros; exact eq_iast rfl,
   by intros; exact eq_inc rfl rfl rfl,
   by intros; exact eq_go rfl,
   by intros; exact eq_ld rfl rfl,
   by intros; exact eq_gr rfl,
   by intros; exact eq_gi rfl⟩
theorem rw_X11_add_1 :
  (∀ (d : Nat) (l0 l1 l2 l3 l4 l5 l6 l7 l8 : Option mx_V) (v0 : mx_V) (S h : mx_H) (n : Int), mx_ex d 124 136 [l0, l1, l2, l3, l4, l5, l6, l7, l8] [v0] S h n = mx_ex d 124 138 [l0, l1, l2, l3, l4, l5, l6, l7, l8] [(0, 6), v0] S h n) ∧
  (∀ (d : Nat) (b a : Int) (l0 l1 l2 l3 l4 l5 l6 l7 l8 : Option mx_V) (S h : mx_H) (n : Int), mx_ex d 124 138 [l0, l1, l2, l3, l4, l5, l6, l7, l8] [(0, b), (0, a)] S h n = mx_br (a < b) d 124 144 141 [l0, l1, l2, l3, l4, l5, l6, l7, l8] [] S h n) ∧
  (∀ (d : Nat) (l0 l1 l2 l3 l4 l5 l6 l7 l8 : Option mx_V) (S h : mx_H) (n : Int), mx_ex d 124 141 [l0, l1, l2, l3, l4, l5, l6, l7, l8] [] S h n = mx_ex d 124 143 [l0, l1, l2, l3, l4, l5, l6, l7, l8] [(0, (-2))] S h n) ∧
  (∀ (d : Nat) (x : Int) (l0 l1 l2 l3 l4 l5 l6 l7 l8 : Option mx_V) (S h : mx_H) (n : Int), mx_ex d 124 143 [l0, l1, l2, l3, l4, l5, l6, l7, l8] [(0, x)] S h n = some (some (0, x), S, h, n)) ∧
  (∀ (d : Nat) (x : Int) (l1 l2 l3 l4 l5 l6 l7 l8 : Option mx_V) (S h : mx_H) (n : Int), mx_ex d 124 144 [some (2, x), l1, l2, l3, l4, l5, l6, l7, l8] [] S h n = mx_ex d 124 145 [some (2, x), l1, l2, l3, l4, l5, l6, l7, l8] [(2, x)] S h n) ∧
  (∀ (d : Nat) (a : Int) (l0 l1 l2 l3 l4 l5 l6 l7 l8 : Option mx_V) (S h : mx_H) (n : Int), mx_ex d 124 145 [l0, l1, l2, l3, l4, l5, l6, l7, l8] [(2, a)] S h n = mx_gd (7 ≤ S a (-2) ∧ S a (-2) ≤ 7) d 124 148 [l0, l1, l2, l3, l4, l5, l6, l7, l8] [(2, S a 3)] S h n) ∧
  (∀ (d : Nat) (l0 l1 l2 l3 l4 l5 l6 l7 l8 : Option mx_V) (v0 : mx_V) (S h : mx_H) (n : Int), mx_ex d 124 148 [l0, l1, l2, l3, l4, l5, l6, l7, l8] [v0] S h n = mx_ex d 124 149 [l0, l1, l2, l3, l4, l5, l6, l7, l8] [(0, 0), v0] S h n) ∧
  (∀ (d : Nat) (x : Int) (l0 l1 l2 l4 l5 l6 l7 l8 : Option mx_V) (v0 v1 : mx_V) (S h : mx_H) (n : Int), mx_ex d 124 149 [l0, l1, l2, some (2, x), l4, l5, l6, l7, l8] [v0, v1] S h n = mx_ex d 124 150 [l0, l1, l2, some (2, x), l4, l5, l6, l7, l8] [(2, x), v0, v1] S h n) ∧
  (∀ (d : Nat) (a : Int) (l0 l1 l2 l3 l4 l5 l6 l7 l8 : Option mx_V) (v1 v2 : mx_V) (S h : mx_H) (n : Int), mx_ex d 124 150 [l0, l1, l2, l3, l4, l5, l6, l7, l8] [(2, a), v1, v2] S h n = mx_gd (1 ≤ S a (-2) ∧ S a (-2) ≤ 6) d 124 153 [l0, l1, l2, l3, l4, l5, l6, l7, l8] [(0, h a 3), v1, v2] S h n) ∧
  (∀ (d : Nat) (l0 l1 l2 l3 l4 l5 l6 l7 l8 : Option mx_V) (v0 v1 v2 : mx_V) (S h : mx_H) (n : Int), mx_ex d 124 153 [l0, l1, l2, l3, l4, l5, l6, l7, l8] [v0, v1, v2] S h n = mx_ex d 124 154 [l0, l1, l2, l3, l4, l5, l6, l7, l8] [(0, 0), v0, v1, v2] S h n) ∧
  (∀ (d : Nat) (x : Int) (l0 l1 l2 l3 l4 l5 l7 l8 : Option mx_V) (v0 v1 v2 v3 : mx_V) (S h : mx_H) (n : Int), mx_ex d 124 154 [l0, l1, l2, l3, l4, l5, some (2, x), l7, l8] [v0, v1, v2, v3] S h n = mx_ex d 124 156 [l0, l1, l2, l3, l4, l5, some (2, x), l7, l8] [(2, x), v0, v1, v2, v3] S h n) ∧
  (∀ (d : Nat) (x0 x1 x2 x3 a : Int) (l0 l1 l2 l3 l4 l5 l6 l7 l8 : Option mx_V) (S h : mx_H) (n : Int), mx_ex (d + 1) 124 156 [l0, l1, l2, l3, l4, l5, l6, l7, l8] [(2, x0), (0, x1), (0, x2), (0, x3), (2, a)] S h n = mx_cl (S a (-2) = 8) d 91 [(2, a), (0, x3), (0, x2), (0, x1), (2, x0)] 124 159 [l0, l1, l2, l3, l4, l5, l6, l7, l8] [] S h n) ∧
  (∀ (d : Nat) (x : Int) (l0 l1 l2 l3 l4 l5 l6 l7 l8 : Option mx_V) (S h : mx_H) (n : Int), mx_ex d 124 159 [l0, l1, l2, l3, l4, l5, l6, l7, l8] [(0, x)] S h n = some (some (0, x), S, h, n)) :=
  ⟨by intros; exact eq_push rfl,
   by intros; exact eq_ic2 rfl,
   by intros; exact eq_push rfl,
   by intros; exact eq_ret rfl,
   by intros; exact eq_ld rfl rfl,
   by intros; exact eq_gr rfl,
   by intros; exact eq_push rfl,
   by intros; exact eq_ld rfl rfl,
   by intros; exact eq_gi rfl,
   by intros; exact eq_push rfl,
   by intros; exact eq_ld rfl rfl,
   by intros; exact eq_cv rfl (Nat.le_of_ble_eq_true rfl) rfl rfl rfl (Nat.le_of_ble_eq_true rfl),
   by intros; exact eq_ret rfl⟩
theorem rw_X11_seed :
  (∀ (d : Nat) (a0 a1 : Int) (S h : mx_H) (n : Int), mx_M d 125 [(2, a0), (0, a1)] S h n = mx_ex d 125 0 [some (2, a0), some (0, a1), none] [] S h n) ∧
  (∀ (d : Nat) (x : Int) (l1 l2 : Option mx_V) (S h : mx_H) (n : Int), mx_ex d 125 0 [some (2, x), l1, l2] [] S h n = mx_ex d 125 1 [some (2, x), l1, l2] [(2, x)] S h n) ∧
  (∀ (d : Nat) (a : Int) (l0 l1 l2 : Option mx_V) (S h : mx_H) (n : Int), mx_ex d 125 1 [l0, l1, l2] [(2, a)] S h n = mx_gd (7 ≤ S a (-2) ∧ S a (-2) ≤ 7) d 125 4 [l0, l1, l2] [(0, h a 6)] S h n) ∧
  (∀ (d : Nat) (x : Int) (l0 l1 l2 : Option mx_V) (S h : mx_H) (n : Int), mx_ex d 125 4 [l0, l1, l2] [(0, x)] S h n = mx_ex d 125 5 [l0, mx_nl l1, some (0, x)] [] S h n) ∧
  (∀ (d : Nat) (x : Int) (l1 l2 : Option mx_V) (S h : mx_H) (n : Int), mx_ex d 125 5 [some (2, x), l1, l2] [] S h n = mx_ex d 125 6 [some (2, x), l1, l2] [(2, x)] S h n) ∧
  (∀ (d : Nat) (x : Int) (l0 l2 : Option mx_V) (v0 : mx_V) (S h : mx_H) (n : Int), mx_ex d 125 6 [l0, some (0, x), l2] [v0] S h n = mx_ex d 125 7 [l0, some (0, x), l2] [(0, x), v0] S h n) ∧
  (∀ (d : Nat) (v a : Int) (l0 l1 l2 : Option mx_V) (S h : mx_H) (n : Int), mx_ex d 125 7 [l0, l1, l2] [(0, v), (2, a)] S h n = mx_gd (7 ≤ S a (-2) ∧ S a (-2) ≤ 7) d 125 10 [l0, l1, l2] [] S (mx_u h a 6 v) n) ∧
  (∀ (d : Nat) (x : Int) (l0 l1 : Option mx_V) (S h : mx_H) (n : Int), mx_ex d 125 10 [l0, l1, some (0, x)] [] S h n = mx_ex d 125 11 [l0, l1, some (0, x)] [(0, x)] S h n) ∧
  (∀ (d : Nat) (x : Int) (l0 l1 l2 : Option mx_V) (S h : mx_H) (n : Int), mx_ex d 125 11 [l0, l1, l2] [(0, x)] S h n = some (some (0, x), S, h, n)) :=
  ⟨by intros; exact rfl,
   by intros; exact eq_ld rfl rfl,
   by intros; exact eq_gi rfl,
   by intros; exact eq_st rfl (by decide) (Nat.le_of_ble_eq_true rfl) rfl,
   by intros; exact eq_ld rfl rfl,
   by intros; exact eq_ld rfl rfl,
   by intros; exact eq_pi rfl,
   by intros; exact eq_ld rfl rfl,
   by intros; exact eq_ret rfl⟩
theorem rw_X11_guess :
  (∀ (d : Nat) (a0 : Int) (S h : mx_H) (n : Int), mx_M d 126 [(2, a0)] S h n = mx_ex d 126 0 [some (2, a0), none] [] S h n) ∧
  (∀ (d : Nat) (x : Int) (l1 : Option mx_V) (S h : mx_H) (n : Int), mx_ex d 126 0 [some (2, x), l1] [] S h n = mx_ex d 126 1 [some (2, x), l1] [(2, x)] S h n) ∧
  (∀ (d : Nat) (a : Int) (l0 l1 : Option mx_V) (S h : mx_H) (n : Int), mx_ex d 126 1 [l0, l1] [(2, a)] S h n = mx_gd (7 ≤ S a (-2) ∧ S a (-2) ≤ 7) d 126 4 [l0, l1] [(2, S a 2)] S h n) ∧
  (∀ (d : Nat) (a : Int) (l0 l1 : Option mx_V) (S h : mx_H) (n : Int), mx_ex (d + 1) 126 4 [l0, l1] [(2, a)] S h n = mx_cl (S a (-2) = 9) d 13 [(2, a)] 126 7 [l0, l1] [] S h n) ∧
  (∀ (d : Nat) (x : Int) (l0 l1 : Option mx_V) (S h : mx_H) (n : Int), mx_ex d 126 7 [l0, l1] [(0, x)] S h n = mx_ex d 126 8 [mx_nl l0, some (0, x)] [] S h n) ∧
  (∀ (d : Nat) (x : Int) (l0 : Option mx_V) (S h : mx_H) (n : Int), mx_ex d 126 8 [l0, some (0, x)] [] S h n = mx_ex d 126 9 [l0, some (0, x)] [(0, x)] S h n) ∧
  (∀ (d : Nat) (a : Int) (l0 l1 : Option mx_V) (S h : mx_H) (n : Int), mx_ex d 126 9 [l0, l1] [(0, a)] S h n = mx_br (0 < a) d 126 15 12 [l0, l1] [] S h n) ∧
  (∀ (d : Nat) (l0 l1 : Option mx_V) (S h : mx_H) (n : Int), mx_ex d 126 12 [l0, l1] [] S h n = mx_ex d 126 14 [l0, l1] [(0, (-3))] S h n) ∧
  (∀ (d : Nat) (x : Int) (l0 l1 : Option mx_V) (S h : mx_H) (n : Int), mx_ex d 126 14 [l0, l1] [(0, x)] S h n = some (some (0, x), S, h, n)) ∧
  (∀ (d : Nat) (x : Int) (l1 : Option mx_V) (S h : mx_H) (n : Int), mx_ex d 126 15 [some (2, x), l1] [] S h n = mx_ex d 126 16 [some (2, x), l1] [(2, x)] S h n) ∧
  (∀ (d : Nat) (x : Int) (l1 : Option mx_V) (v0 : mx_V) (S h : mx_H) (n : Int), mx_ex d 126 16 [some (2, x), l1] [v0] S h n = mx_ex d 126 17 [some (2, x), l1] [(2, x), v0] S h n) ∧
  (∀ (d : Nat) (a : Int) (l0 l1 : Option mx_V) (v1 : mx_V) (S h : mx_H) (n : Int), mx_ex d 126 17 [l0, l1] [(2, a), v1] S h n = mx_gd (7 ≤ S a (-2) ∧ S a (-2) ≤ 7) d 126 20 [l0, l1] [(0, h a 6), v1] S h n) ∧
  (∀ (d : Nat) (l0 l1 : Option mx_V) (v0 v1 : mx_V) (S h : mx_H) (n : Int), mx_ex d 126 20 [l0, l1] [v0, v1] S h n = mx_ex d 126 22 [l0, l1] [(0, 1103515245), v0, v1] S h n) ∧
  (∀ (d : Nat) (b a : Int) (l0 l1 : Option mx_V) (v2 : mx_V) (S h : mx_H) (n : Int), mx_ex d 126 22 [l0, l1] [(0, b), (0, a), v2] S h n = mx_ex d 126 23 [l0, l1] [(0, mx_w (a * b)), v2] S h n) ∧
  (∀ (d : Nat) (l0 l1 : Option mx_V) (v0 v1 : mx_V) (S h : mx_H) (n : Int), mx_ex d 126 23 [l0, l1] [v0, v1] S h n = mx_ex d 126 26 [l0, l1] [(0, 12345), v0, v1] S h n) ∧
  (∀ (d : Nat) (b a : Int) (l0 l1 : Option mx_V) (v2 : mx_V) (S h : mx_H) (n : Int), mx_ex d 126 26 [l0, l1] [(0, b), (0, a), v2] S h n = mx_ex d 126 27 [l0, l1] [(0, mx_w (a + b)), v2] S h n) ∧
  (∀ (d : Nat) (v a : Int) (l0 l1 : Option mx_V) (S h : mx_H) (n : Int), mx_ex d 126 27 [l0, l1] [(0, v), (2, a)] S h n = mx_gd (7 ≤ S a (-2) ∧ S a (-2) ≤ 7) d 126 30 [l0, l1] [] S (mx_u h a 6 v) n) ∧
  (∀ (d : Nat) (x : Int) (l1 : Option mx_V) (S h : mx_H) (n : Int), mx_ex d 126 30 [some (2, x), l1] [] S h n = mx_ex d 126 31 [some (2, x), l1] [(2, x)] S h n) ∧
  (∀ (d : Nat) (a : Int) (l0 l1 : Option mx_V) (S h : mx_H) (n : Int), mx_ex d 126 31 [l0, l1] [(2, a)] S h n = mx_gd (7 ≤ S a (-2) ∧ S a (-2) ≤ 7) d 126 34 [l0, l1] [(0, h a 6)] S h n) ∧
  (∀ (d : Nat) (l0 l1 : Option mx_V) (v0 : mx_V) (S h : mx_H) (n : Int), mx_ex d 126 34 [l0, l1] [v0] S h n = mx_ex d 126 36 [l0, l1] [(0, 16), v0] S h n) ∧
  (∀ (d : Nat) (b a : Int) (l0 l1 : Option mx_V) (S h : mx_H) (n : Int), mx_ex d 126 36 [l0, l1] [(0, b), (0, a)] S h n = mx_ex d 126 37 [l0, l1] [(0, mx_ush a b)] S h n) ∧
  (∀ (d : Nat) (x : Int) (l0 : Option mx_V) (v0 : mx_V) (S h : mx_H) (n : Int), mx_ex d 126 37 [l0, some (0, x)] [v0] S h n = mx_ex d 126 38 [l0, some (0, x)] [(0, x), v0] S h n) ∧
  (∀ (d : Nat) (b a : Int) (l0 l1 : Option mx_V) (S h : mx_H) (n : Int), mx_ex d 126 38 [l0, l1] [(0, b), (0, a)] S h n = mx_gd (¬ b = 0) d 126 39 [l0, l1] [(0, Int.tmod a b)] S h n) ∧
  (∀ (d : Nat) (x : Int) (l0 l1 : Option mx_V) (S h : mx_H) (n : Int), mx_ex d 126 39 [l0, l1] [(0, x)] S h n = some (some (0, x), S, h, n)) :=
  ⟨by intros; exact rfl,
   by intros; exact eq_ld rfl rfl,
   by intros; exact eq_gr rfl,
   by intros; exact eq_cv rfl (Nat.le_of_ble_eq_true rfl) rfl rfl rfl (Nat.le_of_ble_eq_true rfl),
   by intros; exact eq_st rfl (by decide) (Nat.le_of_ble_eq_true rfl) rfl,
   by intros; exact eq_ld rfl rfl,
   by intros; exact eq_if4 rfl,
   by intros; exact eq_push rfl,
   by intros; exact eq_ret rfl,
   by intros; exact eq_ld rfl rfl,
   by intros; exact eq_ld rfl rfl,
   by intros; exact eq_gi rfl,
   by intros; exact eq_push rfl,
   by intros; exact eq_i2 (o := mx_mul) rfl,
   by intros; exact eq_push rfl,
   by intros; exact eq_i2 (o := mx_add) rfl,
   by intros; exact eq_pi rfl,
   by intros; exact eq_ld rfl rfl,
   by intros; exact eq_gi rfl,
   by intros; exact eq_push rfl,
   by intros; exact eq_i2 (o := mx_ush) rfl,
   by intros; exact eq_ld rfl rfl,
   by intros; exact eq_i2d (o := mx_rem) rfl,
   by intros; exact eq_ret rfl⟩
theorem rh_X11_prove_27 : ∀ (d : Nat) (x : Int) (l0 l1 l3 l4 : Option mx_V) (S h : mx_H) (n : Int), mx_ex d 127 27 [l0, l1, some (0, x), l3, l4] [] S h n = mx_ex d 127 28 [l0, l1, some (0, x), l3, l4] [(0, x)] S h n := by intros; exact eq_ld rfl rfl
theorem rw_X11_prove :
  (∀ (d : Nat) (a0 a1 : Int) (S h : mx_H) (n : Int), mx_M d 127 [(2, a0), (0, a1)] S h n = mx_ex d 127 0 [some (2, a0), some (0, a1), none, none, none] [] S h n) ∧
  (∀ (d : Nat) (x : Int) (l1 l2 l3 l4 : Option mx_V) (S h : mx_H) (n : Int), mx_ex d 127 0 [some (2, x), l1, l2, l3, l4] [] S h n = mx_ex d 127 1 [some (2, x), l1, l2, l3, l4] [(2, x)] S h n) ∧
  (∀ (d : Nat) (a : Int) (l0 l1 l2 l3 l4 : Option mx_V) (S h : mx_H) (n : Int), mx_ex d 127 1 [l0, l1, l2, l3, l4] [(2, a)] S h n = mx_gd (7 ≤ S a (-2) ∧ S a (-2) ≤ 7) d 127 4 [l0, l1, l2, l3, l4] [(2, S a 2)] S h n) ∧
  (∀ (d : Nat) (x : Int) (l0 l2 l3 l4 : Option mx_V) (v0 : mx_V) (S h : mx_H) (n : Int), mx_ex d 127 4 [l0, some (0, x), l2, l3, l4] [v0] S h n = mx_ex d 127 5 [l0, some (0, x), l2, l3, l4] [(0, x), v0] S h n) ∧
  (∀ (d : Nat) (x0 a : Int) (l0 l1 l2 l3 l4 : Option mx_V) (S h : mx_H) (n : Int), mx_ex (d + 1) 127 5 [l0, l1, l2, l3, l4] [(0, x0), (2, a)] S h n = mx_cl (S a (-2) = 9) d 15 [(2, a), (0, x0)] 127 8 [l0, l1, l2, l3, l4] [] S h n) ∧
  (∀ (d : Nat) (a : Int) (l0 l1 l2 l3 l4 : Option mx_V) (S h : mx_H) (n : Int), mx_ex d 127 8 [l0, l1, l2, l3, l4] [(0, a)] S h n = mx_br (a = 0) d 127 11 14 [l0, l1, l2, l3, l4] [] S h n) ∧
  (∀ (d : Nat) (l0 l1 l2 l3 l4 : Option mx_V) (S h : mx_H) (n : Int), mx_ex d 127 11 [l0, l1, l2, l3, l4] [] S h n = mx_ex d 127 13 [l0, l1, l2, l3, l4] [(0, (-3))] S h n) ∧
  (∀ (d : Nat) (x : Int) (l0 l1 l2 l3 l4 : Option mx_V) (S h : mx_H) (n : Int), mx_ex d 127 13 [l0, l1, l2, l3, l4] [(0, x)] S h n = some (some (0, x), S, h, n)) ∧
  (∀ (d : Nat) (x : Int) (l1 l2 l3 l4 : Option mx_V) (S h : mx_H) (n : Int), mx_ex d 127 14 [some (2, x), l1, l2, l3, l4] [] S h n = mx_ex d 127 15 [some (2, x), l1, l2, l3, l4] [(2, x)] S h n) ∧
  (∀ (d : Nat) (x : Int) (l1 l2 l3 l4 : Option mx_V) (v0 : mx_V) (S h : mx_H) (n : Int), mx_ex d 127 15 [some (2, x), l1, l2, l3, l4] [v0] S h n = mx_ex d 127 16 [some (2, x), l1, l2, l3, l4] [(2, x), v0] S h n) ∧
  (∀ (d : Nat) (a : Int) (l0 l1 l2 l3 l4 : Option mx_V) (v1 : mx_V) (S h : mx_H) (n : Int), mx_ex d 127 16 [l0, l1, l2, l3, l4] [(2, a), v1] S h n = mx_gd (7 ≤ S a (-2) ∧ S a (-2) ≤ 7) d 127 19 [l0, l1, l2, l3, l4] [(2, S a 3), v1] S h n) ∧
  (∀ (d : Nat) (a : Int) (l0 l1 l2 l3 l4 : Option mx_V) (v1 : mx_V) (S h : mx_H) (n : Int), mx_ex d 127 19 [l0, l1, l2, l3, l4] [(2, a), v1] S h n = mx_gd (8 ≤ S a (-2) ∧ S a (-2) ≤ 8) d 127 22 [l0, l1, l2, l3, l4] [(0, h a 3), v1] S h n) ∧
  (∀ (d : Nat) (v a : Int) (l0 l1 l2 l3 l4 : Option mx_V) (S h : mx_H) (n : Int), mx_ex d 127 22 [l0, l1, l2, l3, l4] [(0, v), (2, a)] S h n = mx_gd (7 ≤ S a (-2) ∧ S a (-2) ≤ 7) d 127 25 [l0, l1, l2, l3, l4] [] S (mx_u h a 10 v) n) ∧
  (∀ (d : Nat) (l0 l1 l2 l3 l4 : Option mx_V) (S h : mx_H) (n : Int), mx_ex d 127 25 [l0, l1, l2, l3, l4] [] S h n = mx_ex d 127 26 [l0, l1, l2, l3, l4] [(0, 0)] S h n) ∧
  (∀ (d : Nat) (x : Int) (l0 l1 l2 l3 l4 : Option mx_V) (S h : mx_H) (n : Int), mx_ex d 127 26 [l0, l1, l2, l3, l4] [(0, x)] S h n = mx_ex d 127 27 [l0, mx_nl l1, some (0, x), l3, l4] [] S h n) ∧
  (∀ (d : Nat) (x : Int) (l1 l2 l3 l4 : Option mx_V) (v0 : mx_V) (S h : mx_H) (n : Int), mx_ex d 127 28 [some (2, x), l1, l2, l3, l4] [v0] S h n = mx_ex d 127 29 [some (2, x), l1, l2, l3, l4] [(2, x), v0] S h n) ∧
  (∀ (d : Nat) (a : Int) (l0 l1 l2 l3 l4 : Option mx_V) (v1 : mx_V) (S h : mx_H) (n : Int), mx_ex d 127 29 [l0, l1, l2, l3, l4] [(2, a), v1] S h n = mx_gd (7 ≤ S a (-2) ∧ S a (-2) ≤ 7) d 127 32 [l0, l1, l2, l3, l4] [(0, h a 10), v1] S h n) ∧
  (∀ (d : Nat) (b a : Int) (l0 l1 l2 l3 l4 : Option mx_V) (S h : mx_H) (n : Int), mx_ex d 127 32 [l0, l1, l2, l3, l4] [(0, b), (0, a)] S h n = mx_br (a < b) d 127 35 111 [l0, l1, l2, l3, l4] [] S h n) ∧
  (∀ (d : Nat) (x : Int) (l1 l2 l3 l4 : Option mx_V) (S h : mx_H) (n : Int), mx_ex d 127 35 [some (2, x), l1, l2, l3, l4] [] S h n = mx_ex d 127 36 [some (2, x), l1, l2, l3, l4] [(2, x)] S h n) ∧
  (∀ (d : Nat) (a : Int) (l0 l1 l2 l3 l4 : Option mx_V) (S h : mx_H) (n : Int), mx_ex d 127 36 [l0, l1, l2, l3, l4] [(2, a)] S h n = mx_gd (7 ≤ S a (-2) ∧ S a (-2) ≤ 7) d 127 39 [l0, l1, l2, l3, l4] [(2, S a 3)] S h n) ∧
  (∀ (d : Nat) (x : Int) (l0 l1 l3 l4 : Option mx_V) (v0 : mx_V) (S h : mx_H) (n : Int), mx_ex d 127 39 [l0, l1, some (0, x), l3, l4] [v0] S h n = mx_ex d 127 40 [l0, l1, some (0, x), l3, l4] [(0, x), v0] S h n) ∧
  (∀ (d : Nat) (x0 a : Int) (l0 l1 l2 l3 l4 : Option mx_V) (S h : mx_H) (n : Int), mx_ex (d + 1) 127 40 [l0, l1, l2, l3, l4] [(0, x0), (2, a)] S h n = mx_cl (S a (-2) = 8) d 90 [(2, a), (0, x0)] 127 43 [l0, l1, l2, l3, l4] [] S h n) ∧
  (∀ (d : Nat) (x : Int) (l0 l1 l2 l3 l4 : Option mx_V) (S h : mx_H) (n : Int), mx_ex d 127 43 [l0, l1, l2, l3, l4] [(2, x)] S h n = mx_ex d 127 44 [l0, l1, mx_nl l2, some (2, x), l4] [] S h n) ∧
  (∀ (d : Nat) (x : Int) (l0 l1 l2 l4 : Option mx_V) (S h : mx_H) (n : Int), mx_ex d 127 44 [l0, l1, l2, some (2, x), l4] [] S h n = mx_ex d 127 45 [l0, l1, l2, some (2, x), l4] [(2, x)] S h n) ∧
  (∀ (d : Nat) (a : Int) (l0 l1 l2 l3 l4 : Option mx_V) (S h : mx_H) (n : Int), mx_ex d 127 45 [l0, l1, l2, l3, l4] [(2, a)] S h n = mx_br (a = -1) d 127 48 51 [l0, l1, l2, l3, l4] [] S h n) ∧
  (∀ (d : Nat) (l0 l1 l2 l3 l4 : Option mx_V) (S h : mx_H) (n : Int), mx_ex d 127 48 [l0, l1, l2, l3, l4] [] S h n = mx_ex d 127 105 [l0, l1, l2, l3, l4] [] S h n) ∧
  (∀ (d : Nat) (x : Int) (l1 l2 l3 l4 : Option mx_V) (S h : mx_H) (n : Int), mx_ex d 127 51 [some (2, x), l1, l2, l3, l4] [] S h n = mx_ex d 127 52 [some (2, x), l1, l2, l3, l4] [(2, x)] S h n) ∧
  (∀ (d : Nat) (a : Int) (l0 l1 l2 l3 l4 : Option mx_V) (S h : mx_H) (n : Int), mx_ex d 127 52 [l0, l1, l2, l3, l4] [(2, a)] S h n = mx_gd (7 ≤ S a (-2) ∧ S a (-2) ≤ 7) d 127 55 [l0, l1, l2, l3, l4] [(2, S a 2)] S h n) ∧
  (∀ (d : Nat) (a : Int) (l0 l1 l2 l3 l4 : Option mx_V) (S h : mx_H) (n : Int), mx_ex d 127 55 [l0, l1, l2, l3, l4] [(2, a)] S h n = mx_gd (9 ≤ S a (-2) ∧ S a (-2) ≤ 9) d 127 58 [l0, l1, l2, l3, l4] [(2, S a 1)] S h n) ∧
  (∀ (d : Nat) (x : Int) (l0 l1 l2 l4 : Option mx_V) (v0 : mx_V) (S h : mx_H) (n : Int), mx_ex d 127 58 [l0, l1, l2, some (2, x), l4] [v0] S h n = mx_ex d 127 59 [l0, l1, l2, some (2, x), l4] [(2, x), v0] S h n) ∧
  (∀ (d : Nat) (a : Int) (l0 l1 l2 l3 l4 : Option mx_V) (v1 : mx_V) (S h : mx_H) (n : Int), mx_ex d 127 59 [l0, l1, l2, l3, l4] [(2, a), v1] S h n = mx_gd (1 ≤ S a (-2) ∧ S a (-2) ≤ 6) d 127 62 [l0, l1, l2, l3, l4] [(0, h a 3), v1] S h n) ∧
  (∀ (d : Nat) (i a : Int) (l0 l1 l2 l3 l4 : Option mx_V) (S h : mx_H) (n : Int), mx_ex d 127 62 [l0, l1, l2, l3, l4] [(0, i), (2, a)] S h n = mx_gd ((S a (-2) = 20 ∨ S a (-2) = 24) ∧ 0 ≤ i ∧ i < S a (-1)) d 127 63 [l0, l1, l2, l3, l4] [(0, h a i)] S h n) ∧
  (∀ (d : Nat) (x : Int) (l0 l1 l2 l3 l4 : Option mx_V) (S h : mx_H) (n : Int), mx_ex d 127 63 [l0, l1, l2, l3, l4] [(0, x)] S h n = mx_ex d 127 65 [l0, l1, l2, mx_nl l3, some (0, x)] [] S h n) ∧
  (∀ (d : Nat) (x : Int) (l1 l2 l3 l4 : Option mx_V) (S h : mx_H) (n : Int), mx_ex d 127 65 [some (2, x), l1, l2, l3, l4] [] S h n = mx_ex d 127 66 [some (2, x), l1, l2, l3, l4] [(2, x)] S h n) ∧
  (∀ (d : Nat) (a : Int) (l0 l1 l2 l3 l4 : Option mx_V) (S h : mx_H) (n : Int), mx_ex d 127 66 [l0, l1, l2, l3, l4] [(2, a)] S h n = mx_gd (7 ≤ S a (-2) ∧ S a (-2) ≤ 7) d 127 69 [l0, l1, l2, l3, l4] [(2, S a 9)] S h n) ∧
  (∀ (d : Nat) (x : Int) (l0 l1 l3 l4 : Option mx_V) (v0 : mx_V) (S h : mx_H) (n : Int), mx_ex d 127 69 [l0, l1, some (0, x), l3, l4] [v0] S h n = mx_ex d 127 70 [l0, l1, some (0, x), l3, l4] [(0, x), v0] S h n) ∧
  (∀ (d : Nat) (l0 l1 l2 l3 l4 : Option mx_V) (v0 v1 : mx_V) (S h : mx_H) (n : Int), mx_ex d 127 70 [l0, l1, l2, l3, l4] [v0, v1] S h n = mx_ex d 127 71 [l0, l1, l2, l3, l4] [(0, 3), v0, v1] S h n) ∧
  (∀ (d : Nat) (b a : Int) (l0 l1 l2 l3 l4 : Option mx_V) (v2 : mx_V) (S h : mx_H) (n : Int), mx_ex d 127 71 [l0, l1, l2, l3, l4] [(0, b), (0, a), v2] S h n = mx_ex d 127 72 [l0, l1, l2, l3, l4] [(0, mx_w (a * b)), v2] S h n) ∧
  (∀ (d : Nat) (x : Int) (l0 l1 l3 l4 : Option mx_V) (v0 v1 : mx_V) (S h : mx_H) (n : Int), mx_ex d 127 72 [l0, l1, some (0, x), l3, l4] [v0, v1] S h n = mx_ex d 127 73 [l0, l1, some (0, x), l3, l4] [(0, x), v0, v1] S h n) ∧
  (∀ (d : Nat) (a : Int) (l0 l1 l2 l3 l4 : Option mx_V) (v1 v2 : mx_V) (S h : mx_H) (n : Int), mx_ex d 127 73 [l0, l1, l2, l3, l4] [(0, a), v1, v2] S h n = mx_ex d 127 74 [l0, l1, l2, l3, l4] [(1, a), v1, v2] S h n) ∧
  (∀ (d : Nat) (v i a : Int) (l0 l1 l2 l3 l4 : Option mx_V) (S h : mx_H) (n : Int), mx_ex d 127 74 [l0, l1, l2, l3, l4] [(1, v), (0, i), (2, a)] S h n = mx_gd (S a (-2) = 21 ∧ 0 ≤ i ∧ i < S a (-1)) d 127 75 [l0, l1, l2, l3, l4] [] S (mx_u h a i v) n) ∧
  (∀ (d : Nat) (x : Int) (l1 l2 l3 l4 : Option mx_V) (S h : mx_H) (n : Int), mx_ex d 127 75 [some (2, x), l1, l2, l3, l4] [] S h n = mx_ex d 127 76 [some (2, x), l1, l2, l3, l4] [(2, x)] S h n) ∧
  (∀ (d : Nat) (a : Int) (l0 l1 l2 l3 l4 : Option mx_V) (S h : mx_H) (n : Int), mx_ex d 127 76 [l0, l1, l2, l3, l4] [(2, a)] S h n = mx_gd (7 ≤ S a (-2) ∧ S a (-2) ≤ 7) d 127 79 [l0, l1, l2, l3, l4] [(2, S a 9)] S h n) ∧
  (∀ (d : Nat) (x : Int) (l0 l1 l3 l4 : Option mx_V) (v0 : mx_V) (S h : mx_H) (n : Int), mx_ex d 127 79 [l0, l1, some (0, x), l3, l4] [v0] S h n = mx_ex d 127 80 [l0, l1, some (0, x), l3, l4] [(0, x), v0] S h n) ∧
  (∀ (d : Nat) (l0 l1 l2 l3 l4 : Option mx_V) (v0 v1 : mx_V) (S h : mx_H) (n : Int), mx_ex d 127 80 [l0, l1, l2, l3, l4] [v0, v1] S h n = mx_ex d 127 81 [l0, l1, l2, l3, l4] [(0, 3), v0, v1] S h n) ∧
  (∀ (d : Nat) (b a : Int) (l0 l1 l2 l3 l4 : Option mx_V) (v2 : mx_V) (S h : mx_H) (n : Int), mx_ex d 127 81 [l0, l1, l2, l3, l4] [(0, b), (0, a), v2] S h n = mx_ex d 127 82 [l0, l1, l2, l3, l4] [(0, mx_w (a * b)), v2] S h n) ∧
  (∀ (d : Nat) (l0 l1 l2 l3 l4 : Option mx_V) (v0 v1 : mx_V) (S h : mx_H) (n : Int), mx_ex d 127 82 [l0, l1, l2, l3, l4] [v0, v1] S h n = mx_ex d 127 83 [l0, l1, l2, l3, l4] [(0, 1), v0, v1] S h n) ∧
  (∀ (d : Nat) (b a : Int) (l0 l1 l2 l3 l4 : Option mx_V) (v2 : mx_V) (S h : mx_H) (n : Int), mx_ex d 127 83 [l0, l1, l2, l3, l4] [(0, b), (0, a), v2] S h n = mx_ex d 127 84 [l0, l1, l2, l3, l4] [(0, mx_w (a + b)), v2] S h n) ∧
  (∀ (d : Nat) (x : Int) (l0 l1 l2 l3 : Option mx_V) (v0 v1 : mx_V) (S h : mx_H) (n : Int), mx_ex d 127 84 [l0, l1, l2, l3, some (0, x)] [v0, v1] S h n = mx_ex d 127 86 [l0, l1, l2, l3, some (0, x)] [(0, x), v0, v1] S h n) ∧
  (∀ (d : Nat) (a : Int) (l0 l1 l2 l3 l4 : Option mx_V) (v1 v2 : mx_V) (S h : mx_H) (n : Int), mx_ex d 127 86 [l0, l1, l2, l3, l4] [(0, a), v1, v2] S h n = mx_ex d 127 87 [l0, l1, l2, l3, l4] [(1, a), v1, v2] S h n) ∧
  (∀ (d : Nat) (v i a : Int) (l0 l1 l2 l3 l4 : Option mx_V) (S h : mx_H) (n : Int), mx_ex d 127 87 [l0, l1, l2, l3, l4] [(1, v), (0, i), (2, a)] S h n = mx_gd (S a (-2) = 21 ∧ 0 ≤ i ∧ i < S a (-1)) d 127 88 [l0, l1, l2, l3, l4] [] S (mx_u h a i v) n) ∧
  (∀ (d : Nat) (x : Int) (l1 l2 l3 l4 : Option mx_V) (S h : mx_H) (n : Int), mx_ex d 127 88 [some (2, x), l1, l2, l3, l4] [] S h n = mx_ex d 127 89 [some (2, x), l1, l2, l3, l4] [(2, x)] S h n) ∧
  (∀ (d : Nat) (a : Int) (l0 l1 l2 l3 l4 : Option mx_V) (S h : mx_H) (n : Int), mx_ex d 127 89 [l0, l1, l2, l3, l4] [(2, a)] S h n = mx_gd (7 ≤ S a (-2) ∧ S a (-2) ≤ 7) d 127 92 [l0, l1, l2, l3, l4] [(2, S a 9)] S h n) ∧
  (∀ (d : Nat) (x : Int) (l0 l1 l3 l4 : Option mx_V) (v0 : mx_V) (S h : mx_H) (n : Int), mx_ex d 127 92 [l0, l1, some (0, x), l3, l4] [v0] S h n = mx_ex d 127 93 [l0, l1, some (0, x), l3, l4] [(0, x), v0] S h n) ∧
  (∀ (d : Nat) (l0 l1 l2 l3 l4 : Option mx_V) (v0 v1 : mx_V) (S h : mx_H) (n : Int), mx_ex d 127 93 [l0, l1, l2, l3, l4] [v0, v1] S h n = mx_ex d 127 94 [l0, l1, l2, l3, l4] [(0, 3), v0, v1] S h n) ∧
  (∀ (d : Nat) (b a : Int) (l0 l1 l2 l3 l4 : Option mx_V) (v2 : mx_V) (S h : mx_H) (n : Int), mx_ex d 127 94 [l0, l1, l2, l3, l4] [(0, b), (0, a), v2] S h n = mx_ex d 127 95 [l0, l1, l2, l3, l4] [(0, mx_w (a * b)), v2] S h n) ∧
  (∀ (d : Nat) (l0 l1 l2 l3 l4 : Option mx_V) (v0 v1 : mx_V) (S h : mx_H) (n : Int), mx_ex d 127 95 [l0, l1, l2, l3, l4] [v0, v1] S h n = mx_ex d 127 96 [l0, l1, l2, l3, l4] [(0, 2), v0, v1] S h n) ∧
  (∀ (d : Nat) (b a : Int) (l0 l1 l2 l3 l4 : Option mx_V) (v2 : mx_V) (S h : mx_H) (n : Int), mx_ex d 127 96 [l0, l1, l2, l3, l4] [(0, b), (0, a), v2] S h n = mx_ex d 127 97 [l0, l1, l2, l3, l4] [(0, mx_w (a + b)), v2] S h n) ∧
  (∀ (d : Nat) (x : Int) (l0 l1 l2 l4 : Option mx_V) (v0 v1 : mx_V) (S h : mx_H) (n : Int), mx_ex d 127 97 [l0, l1, l2, some (2, x), l4] [v0, v1] S h n = mx_ex d 127 98 [l0, l1, l2, some (2, x), l4] [(2, x), v0, v1] S h n) ∧
  (∀ (d : Nat) (x : Int) (l0 l1 l2 l3 : Option mx_V) (v0 v1 v2 : mx_V) (S h : mx_H) (n : Int), mx_ex d 127 98 [l0, l1, l2, l3, some (0, x)] [v0, v1, v2] S h n = mx_ex d 127 100 [l0, l1, l2, l3, some (0, x)] [(0, x), v0, v1, v2] S h n) ∧
  (∀ (d : Nat) (x0 a : Int) (l0 l1 l2 l3 l4 : Option mx_V) (v2 v3 : mx_V) (S h : mx_H) (n : Int), mx_ex (d + 1) 127 100 [l0, l1, l2, l3, l4] [(0, x0), (2, a), v2, v3] S h n = mx_cu (mx_vt (S a (-2)) [(1, 43), (2, 56), (3, 3), (4, 3), (5, 81), (6, 9)]) d [(2, a), (0, x0)] 127 103 [l0, l1, l2, l3, l4] [v2, v3] S h n) ∧
  (∀ (d : Nat) (a : Int) (l0 l1 l2 l3 l4 : Option mx_V) (v1 v2 : mx_V) (S h : mx_H) (n : Int), mx_ex d 127 103 [l0, l1, l2, l3, l4] [(0, a), v1, v2] S h n = mx_ex d 127 104 [l0, l1, l2, l3, l4] [(1, a), v1, v2] S h n) ∧
  (∀ (d : Nat) (v i a : Int) (l0 l1 l2 l3 l4 : Option mx_V) (S h : mx_H) (n : Int), mx_ex d 127 104 [l0, l1, l2, l3, l4] [(1, v), (0, i), (2, a)] S h n = mx_gd (S a (-2) = 21 ∧ 0 ≤ i ∧ i < S a (-1)) d 127 105 [l0, l1, l2, l3, l4] [] S (mx_u h a i v) n) ∧
  (∀ (d : Nat) (x : Int) (l0 l1 l3 l4 : Option mx_V) (S h : mx_H) (n : Int), mx_ex d 127 105 [l0, l1, some (0, x), l3, l4] [] S h n = mx_ex d 127 108 [l0, mx_nl l1, some (0, mx_w (x + 1)), l3, l4] [] S h n) ∧
  (∀ (d : Nat) (l0 l1 l2 l3 l4 : Option mx_V) (S h : mx_H) (n : Int), mx_ex d 127 108 [l0, l1, l2, l3, l4] [] S h n = mx_ex d 127 27 [l0, l1, l2, l3, l4] [] S h n) ∧
  (∀ (d : Nat) (x : Int) (l1 l2 l3 l4 : Option mx_V) (S h : mx_H) (n : Int), mx_ex d 127 111 [some (2, x), l1, l2, l3, l4] [] S h n = mx_ex d 127 112 [some (2, x), l1, l2, l3, l4] [(2, x)] S h n) ∧
  (∀ (d : Nat) (a : Int) (l0 l1 l2 l3 l4 : Option mx_V) (S h : mx_H) (n : Int), mx_ex d 127 112 [l0, l1, l2, l3, l4] [(2, a)] S h n = mx_gd (7 ≤ S a (-2) ∧ S a (-2) ≤ 7) d 127 115 [l0, l1, l2, l3, l4] [(0, h a 10)] S h n) ∧
  (∀ (d : Nat) (x : Int) (l0 l1 l2 l3 l4 : Option mx_V) (S h : mx_H) (n : Int), mx_ex d 127 115 [l0, l1, l2, l3, l4] [(0, x)] S h n = some (some (0, x), S, h, n)) :=
  ⟨by intros; exact rfl,
   by intros; exact eq_ld rfl rfl,
   by intros; exact eq_gr rfl,
   by intros; exact eq_ld rfl rfl,
   by intros; exact eq_cv rfl (Nat.le_of_ble_eq_true rfl) rfl rfl rfl (Nat.le_of_ble_eq_true rfl),
   by intros; exact eq_if1 rfl,
   by intros; exact eq_push rfl,
   by intros; exact eq_ret rfl,
   by intros; exact eq_ld rfl rfl,
   by intros; exact eq_ld rfl rfl,
   by intros; exact eq_gr rfl,
   by intros; exact eq_gi rfl,
   by intros; exact eq_pi rfl,
   by intros; exact eq_push rfl,
   by intros; exact eq_st rfl (by decide) (Nat.le_of_ble_eq_true rfl) rfl,
   by intros; exact eq_ld rfl rfl,
   by intros; exact eq_gi rfl,
   by intros; exact eq_ic3 rfl,
   by intros; exact eq_ld rfl rfl,
   by intros; exact eq_gr rfl,
   by intros; exact eq_ld rfl rfl,
   by intros; exact eq_cv rfl (Nat.le_of_ble_eq_true rfl) rfl rfl rfl (Nat.le_of_ble_eq_true rfl),
   by intros; exact eq_st rfl (by decide) (Nat.le_of_ble_eq_true rfl) rfl,
   by intros; exact eq_ld rfl rfl,
   by intros; exact eq_nul rfl,
   by intros; exact eq_go rfl,
   by intros; exact eq_ld rfl rfl,
   by intros; exact eq_gr rfl,
   by intros; exact eq_gr rfl,
   by intros; exact eq_ld rfl rfl,
   by intros; exact eq_gi rfl,
   by intros; exact eq_iald rfl,
   by intros; exact eq_st rfl (by decide) (Nat.le_of_ble_eq_true rfl) rfl,
   by intros; exact eq_ld rfl rfl,
   by intros; exact eq_gr rfl,
   by intros; exact eq_ld rfl rfl,
   by intros; exact eq_push rfl,
   by intros; exact eq_i2 (o := mx_mul) rfl,
   by intros; exact eq_ld rfl rfl,
   by intros; exact eq_i2l rfl,
   by intros; exact eq_last rfl,
   by intros; exact eq_ld rfl rfl,
   by intros; exact eq_gr rfl,
   by intros; exact eq_ld rfl rfl,
   by intros; exact eq_push rfl,
   by intros; exact eq_i2 (o := mx_mul) rfl,
   by intros; exact eq_push rfl,
   by intros; exact eq_i2 (o := mx_add) rfl,
   by intros; exact eq_ld rfl rfl,
   by intros; exact eq_i2l rfl,
   by intros; exact eq_last rfl,
   by intros; exact eq_ld rfl rfl,
   by intros; exact eq_gr rfl,
   by intros; exact eq_ld rfl rfl,
   by intros; exact eq_push rfl,
   by intros; exact eq_i2 (o := mx_mul) rfl,
   by intros; exact eq_push rfl,
   by intros; exact eq_i2 (o := mx_add) rfl,
   by intros; exact eq_ld rfl rfl,
   by intros; exact eq_ld rfl rfl,
   by intros; exact eq_cu rfl (Nat.le_of_ble_eq_true rfl) rfl rfl rfl (Nat.le_of_ble_eq_true rfl),
   by intros; exact eq_i2l rfl,
   by intros; exact eq_last rfl,
   by intros; exact eq_inc rfl rfl rfl,
   by intros; exact eq_go rfl,
   by intros; exact eq_ld rfl rfl,
   by intros; exact eq_gi rfl,
   by intros; exact eq_ret rfl⟩
theorem rw_X11_row :
  (∀ (d : Nat) (a0 a1 a2 : Int) (S h : mx_H) (n : Int), mx_M d 128 [(2, a0), (0, a1), (0, a2)] S h n = mx_ex d 128 0 [some (2, a0), some (0, a1), some (0, a2)] [] S h n) ∧
  (∀ (d : Nat) (x : Int) (l1 l2 : Option mx_V) (S h : mx_H) (n : Int), mx_ex d 128 0 [some (2, x), l1, l2] [] S h n = mx_ex d 128 1 [some (2, x), l1, l2] [(2, x)] S h n) ∧
  (∀ (d : Nat) (x : Int) (l0 l2 : Option mx_V) (v0 : mx_V) (S h : mx_H) (n : Int), mx_ex d 128 1 [l0, some (0, x), l2] [v0] S h n = mx_ex d 128 2 [l0, some (0, x), l2] [(0, x), v0] S h n) ∧
  (∀ (d : Nat) (x : Int) (l0 l1 : Option mx_V) (v0 v1 : mx_V) (S h : mx_H) (n : Int), mx_ex d 128 2 [l0, l1, some (0, x)] [v0, v1] S h n = mx_ex d 128 3 [l0, l1, some (0, x)] [(0, x), v0, v1] S h n) ∧
  (∀ (d : Nat) (x0 x1 a : Int) (l0 l1 l2 : Option mx_V) (S h : mx_H) (n : Int), mx_ex (d + 1) 128 3 [l0, l1, l2] [(0, x0), (0, x1), (2, a)] S h n = mx_cl (S a (-2) = 7) d 142 [(2, a), (0, x1), (0, x0)] 128 6 [l0, l1, l2] [] S h n) ∧
  (∀ (d : Nat) (a : Int) (l0 l1 l2 : Option mx_V) (S h : mx_H) (n : Int), mx_ex d 128 6 [l0, l1, l2] [(0, a)] S h n = mx_br (a = 0) d 128 22 9 [l0, l1, l2] [] S h n) ∧
  (∀ (d : Nat) (x : Int) (l1 l2 : Option mx_V) (S h : mx_H) (n : Int), mx_ex d 128 9 [some (2, x), l1, l2] [] S h n = mx_ex d 128 10 [some (2, x), l1, l2] [(2, x)] S h n) ∧
  (∀ (d : Nat) (a : Int) (l0 l1 l2 : Option mx_V) (S h : mx_H) (n : Int), mx_ex d 128 10 [l0, l1, l2] [(2, a)] S h n = mx_gd (7 ≤ S a (-2) ∧ S a (-2) ≤ 7) d 128 13 [l0, l1, l2] [(2, S a 9)] S h n) ∧
  (∀ (d : Nat) (x : Int) (l0 l2 : Option mx_V) (v0 : mx_V) (S h : mx_H) (n : Int), mx_ex d 128 13 [l0, some (0, x), l2] [v0] S h n = mx_ex d 128 14 [l0, some (0, x), l2] [(0, x), v0] S h n) ∧
  (∀ (d : Nat) (l0 l1 l2 : Option mx_V) (v0 v1 : mx_V) (S h : mx_H) (n : Int), mx_ex d 128 14 [l0, l1, l2] [v0, v1] S h n = mx_ex d 128 15 [l0, l1, l2] [(0, 3), v0, v1] S h n) ∧
  (∀ (d : Nat) (b a : Int) (l0 l1 l2 : Option mx_V) (v2 : mx_V) (S h : mx_H) (n : Int), mx_ex d 128 15 [l0, l1, l2] [(0, b), (0, a), v2] S h n = mx_ex d 128 16 [l0, l1, l2] [(0, mx_w (a * b)), v2] S h n) ∧
  (∀ (d : Nat) (x : Int) (l0 l1 : Option mx_V) (v0 v1 : mx_V) (S h : mx_H) (n : Int), mx_ex d 128 16 [l0, l1, some (0, x)] [v0, v1] S h n = mx_ex d 128 17 [l0, l1, some (0, x)] [(0, x), v0, v1] S h n) ∧
  (∀ (d : Nat) (b a : Int) (l0 l1 l2 : Option mx_V) (v2 : mx_V) (S h : mx_H) (n : Int), mx_ex d 128 17 [l0, l1, l2] [(0, b), (0, a), v2] S h n = mx_ex d 128 18 [l0, l1, l2] [(0, mx_w (a + b)), v2] S h n) ∧
  (∀ (d : Nat) (i a : Int) (l0 l1 l2 : Option mx_V) (S h : mx_H) (n : Int), mx_ex d 128 18 [l0, l1, l2] [(0, i), (2, a)] S h n = mx_gd (S a (-2) = 21 ∧ 0 ≤ i ∧ i < S a (-1)) d 128 19 [l0, l1, l2] [(1, h a i)] S h n) ∧
  (∀ (d : Nat) (l0 l1 l2 : Option mx_V) (v0 : mx_V) (S h : mx_H) (n : Int), mx_ex d 128 19 [l0, l1, l2] [v0] S h n = mx_ex d 128 25 [l0, l1, l2] [v0] S h n) ∧
  (∀ (d : Nat) (l0 l1 l2 : Option mx_V) (S h : mx_H) (n : Int), mx_ex d 128 22 [l0, l1, l2] [] S h n = mx_ex d 128 25 [l0, l1, l2] [(1, (-1000000000000))] S h n) ∧
  (∀ (d : Nat) (x : Int) (l0 l1 l2 : Option mx_V) (S h : mx_H) (n : Int), mx_ex d 128 25 [l0, l1, l2] [(1, x)] S h n = some (some (1, x), S, h, n)) :=
  ⟨by intros; exact rfl,
   by intros; exact eq_ld rfl rfl,
   by intros; exact eq_ld rfl rfl,
   by intros; exact eq_ld rfl rfl,
   by intros; exact eq_cv rfl (Nat.le_of_ble_eq_true rfl) rfl rfl rfl (Nat.le_of_ble_eq_true rfl),
   by intros; exact eq_if0 rfl,
   by intros; exact eq_ld rfl rfl,
   by intros; exact eq_gr rfl,
   by intros; exact eq_ld rfl rfl,
   by intros; exact eq_push rfl,
   by intros; exact eq_i2 (o := mx_mul) rfl,
   by intros; exact eq_ld rfl rfl,
   by intros; exact eq_i2 (o := mx_add) rfl,
   by intros; exact eq_lald rfl,
   by intros; exact eq_go rfl,
   by intros; exact eq_push rfl,
   by intros; exact eq_ret rfl⟩
theorem rw_X11_alterRow :
  (∀ (d : Nat) (a0 a1 a2 a3 : Int) (S h : mx_H) (n : Int), mx_M d 129 [(2, a0), (0, a1), (0, a2), (1, a3)] S h n = mx_ex d 129 0 [some (2, a0), some (0, a1), some (0, a2), some (1, a3), none, none, none] [] S h n) ∧
  (∀ (d : Nat) (x : Int) (l1 l2 l3 l4 l5 l6 : Option mx_V) (S h : mx_H) (n : Int), mx_ex d 129 0 [some (2, x), l1, l2, l3, l4, l5, l6] [] S h n = mx_ex d 129 1 [some (2, x), l1, l2, l3, l4, l5, l6] [(2, x)] S h n) ∧
  (∀ (d : Nat) (x : Int) (l0 l2 l3 l4 l5 l6 : Option mx_V) (v0 : mx_V) (S h : mx_H) (n : Int), mx_ex d 129 1 [l0, some (0, x), l2, l3, l4, l5, l6] [v0] S h n = mx_ex d 129 2 [l0, some (0, x), l2, l3, l4, l5, l6] [(0, x), v0] S h n) ∧
  (∀ (d : Nat) (x : Int) (l0 l1 l3 l4 l5 l6 : Option mx_V) (v0 v1 : mx_V) (S h : mx_H) (n : Int), mx_ex d 129 2 [l0, l1, some (0, x), l3, l4, l5, l6] [v0, v1] S h n = mx_ex d 129 3 [l0, l1, some (0, x), l3, l4, l5, l6] [(0, x), v0, v1] S h n) ∧
  (∀ (d : Nat) (x0 x1 a : Int) (l0 l1 l2 l3 l4 l5 l6 : Option mx_V) (S h : mx_H) (n : Int), mx_ex (d + 1) 129 3 [l0, l1, l2, l3, l4, l5, l6] [(0, x0), (0, x1), (2, a)] S h n = mx_cl (S a (-2) = 7) d 142 [(2, a), (0, x1), (0, x0)] 129 6 [l0, l1, l2, l3, l4, l5, l6] [] S h n) ∧
  (∀ (d : Nat) (a : Int) (l0 l1 l2 l3 l4 l5 l6 : Option mx_V) (S h : mx_H) (n : Int), mx_ex d 129 6 [l0, l1, l2, l3, l4, l5, l6] [(0, a)] S h n = mx_br (a = 0) d 129 9 13 [l0, l1, l2, l3, l4, l5, l6] [] S h n) ∧
  (∀ (d : Nat) (l0 l1 l2 l3 l4 l5 l6 : Option mx_V) (S h : mx_H) (n : Int), mx_ex d 129 9 [l0, l1, l2, l3, l4, l5, l6] [] S h n = mx_ex d 129 12 [l0, l1, l2, l3, l4, l5, l6] [(1, (-1000000000000))] S h n) ∧
  (∀ (d : Nat) (x : Int) (l0 l1 l2 l3 l4 l5 l6 : Option mx_V) (S h : mx_H) (n : Int), mx_ex d 129 12 [l0, l1, l2, l3, l4, l5, l6] [(1, x)] S h n = some (some (1, x), S, h, n)) ∧
  (∀ (d : Nat) (x : Int) (l1 l2 l3 l4 l5 l6 : Option mx_V) (S h : mx_H) (n : Int), mx_ex d 129 13 [some (2, x), l1, l2, l3, l4, l5, l6] [] S h n = mx_ex d 129 14 [some (2, x), l1, l2, l3, l4, l5, l6] [(2, x)] S h n) ∧
  (∀ (d : Nat) (a : Int) (l0 l1 l2 l3 l4 l5 l6 : Option mx_V) (S h : mx_H) (n : Int), mx_ex d 129 14 [l0, l1, l2, l3, l4, l5, l6] [(2, a)] S h n = mx_gd (7 ≤ S a (-2) ∧ S a (-2) ≤ 7) d 129 17 [l0, l1, l2, l3, l4, l5, l6] [(2, S a 9)] S h n) ∧
  (∀ (d : Nat) (x : Int) (l0 l2 l3 l4 l5 l6 : Option mx_V) (v0 : mx_V) (S h : mx_H) (n : Int), mx_ex d 129 17 [l0, some (0, x), l2, l3, l4, l5, l6] [v0] S h n = mx_ex d 129 18 [l0, some (0, x), l2, l3, l4, l5, l6] [(0, x), v0] S h n) ∧
  (∀ (d : Nat) (l0 l1 l2 l3 l4 l5 l6 : Option mx_V) (v0 v1 : mx_V) (S h : mx_H) (n : Int), mx_ex d 129 18 [l0, l1, l2, l3, l4, l5, l6] [v0, v1] S h n = mx_ex d 129 19 [l0, l1, l2, l3, l4, l5, l6] [(0, 3), v0, v1] S h n) ∧
  (∀ (d : Nat) (b a : Int) (l0 l1 l2 l3 l4 l5 l6 : Option mx_V) (v2 : mx_V) (S h : mx_H) (n : Int), mx_ex d 129 19 [l0, l1, l2, l3, l4, l5, l6] [(0, b), (0, a), v2] S h n = mx_ex d 129 20 [l0, l1, l2, l3, l4, l5, l6] [(0, mx_w (a * b)), v2] S h n) ∧
  (∀ (d : Nat) (x : Int) (l0 l1 l3 l4 l5 l6 : Option mx_V) (v0 v1 : mx_V) (S h : mx_H) (n : Int), mx_ex d 129 20 [l0, l1, some (0, x), l3, l4, l5, l6] [v0, v1] S h n = mx_ex d 129 21 [l0, l1, some (0, x), l3, l4, l5, l6] [(0, x), v0, v1] S h n) ∧
  (∀ (d : Nat) (b a : Int) (l0 l1 l2 l3 l4 l5 l6 : Option mx_V) (v2 : mx_V) (S h : mx_H) (n : Int), mx_ex d 129 21 [l0, l1, l2, l3, l4, l5, l6] [(0, b), (0, a), v2] S h n = mx_ex d 129 22 [l0, l1, l2, l3, l4, l5, l6] [(0, mx_w (a + b)), v2] S h n) ∧
  (∀ (d : Nat) (i a : Int) (l0 l1 l2 l3 l4 l5 l6 : Option mx_V) (S h : mx_H) (n : Int), mx_ex d 129 22 [l0, l1, l2, l3, l4, l5, l6] [(0, i), (2, a)] S h n = mx_gd (S a (-2) = 21 ∧ 0 ≤ i ∧ i < S a (-1)) d 129 23 [l0, l1, l2, l3, l4, l5, l6] [(1, h a i)] S h n) ∧
  (∀ (d : Nat) (x : Int) (l0 l1 l2 l3 l4 l5 l6 : Option mx_V) (S h : mx_H) (n : Int), mx_ex d 129 23 [l0, l1, l2, l3, l4, l5, l6] [(1, x)] S h n = mx_ex d 129 25 [l0, l1, l2, l3, mx_nl l4, some (1, x), none] [] S h n) ∧
  (∀ (d : Nat) (x : Int) (l1 l2 l3 l4 l5 l6 : Option mx_V) (S h : mx_H) (n : Int), mx_ex d 129 25 [some (2, x), l1, l2, l3, l4, l5, l6] [] S h n = mx_ex d 129 26 [some (2, x), l1, l2, l3, l4, l5, l6] [(2, x)] S h n) ∧
  (∀ (d : Nat) (a : Int) (l0 l1 l2 l3 l4 l5 l6 : Option mx_V) (S h : mx_H) (n : Int), mx_ex d 129 26 [l0, l1, l2, l3, l4, l5, l6] [(2, a)] S h n = mx_gd (7 ≤ S a (-2) ∧ S a (-2) ≤ 7) d 129 29 [l0, l1, l2, l3, l4, l5, l6] [(2, S a 9)] S h n) ∧
  (∀ (d : Nat) (x : Int) (l0 l2 l3 l4 l5 l6 : Option mx_V) (v0 : mx_V) (S h : mx_H) (n : Int), mx_ex d 129 29 [l0, some (0, x), l2, l3, l4, l5, l6] [v0] S h n = mx_ex d 129 30 [l0, some (0, x), l2, l3, l4, l5, l6] [(0, x), v0] S h n) ∧
  (∀ (d : Nat) (l0 l1 l2 l3 l4 l5 l6 : Option mx_V) (v0 v1 : mx_V) (S h : mx_H) (n : Int), mx_ex d 129 30 [l0, l1, l2, l3, l4, l5, l6] [v0, v1] S h n = mx_ex d 129 31 [l0, l1, l2, l3, l4, l5, l6] [(0, 3), v0, v1] S h n) ∧
  (∀ (d : Nat) (b a : Int) (l0 l1 l2 l3 l4 l5 l6 : Option mx_V) (v2 : mx_V) (S h : mx_H) (n : Int), mx_ex d 129 31 [l0, l1, l2, l3, l4, l5, l6] [(0, b), (0, a), v2] S h n = mx_ex d 129 32 [l0, l1, l2, l3, l4, l5, l6] [(0, mx_w (a * b)), v2] S h n) ∧
  (∀ (d : Nat) (x : Int) (l0 l1 l3 l4 l5 l6 : Option mx_V) (v0 v1 : mx_V) (S h : mx_H) (n : Int), mx_ex d 129 32 [l0, l1, some (0, x), l3, l4, l5, l6] [v0, v1] S h n = mx_ex d 129 33 [l0, l1, some (0, x), l3, l4, l5, l6] [(0, x), v0, v1] S h n) ∧
  (∀ (d : Nat) (b a : Int) (l0 l1 l2 l3 l4 l5 l6 : Option mx_V) (v2 : mx_V) (S h : mx_H) (n : Int), mx_ex d 129 33 [l0, l1, l2, l3, l4, l5, l6] [(0, b), (0, a), v2] S h n = mx_ex d 129 34 [l0, l1, l2, l3, l4, l5, l6] [(0, mx_w (a + b)), v2] S h n) ∧
  (∀ (d : Nat) (x : Int) (l0 l1 l2 l4 l5 l6 : Option mx_V) (v0 v1 : mx_V) (S h : mx_H) (n : Int), mx_ex d 129 34 [l0, l1, l2, some (1, x), l4, l5, l6] [v0, v1] S h n = mx_ex d 129 35 [l0, l1, l2, some (1, x), l4, l5, l6] [(1, x), v0, v1] S h n) ∧
  (∀ (d : Nat) (v i a : Int) (l0 l1 l2 l3 l4 l5 l6 : Option mx_V) (S h : mx_H) (n : Int), mx_ex d 129 35 [l0, l1, l2, l3, l4, l5, l6] [(1, v), (0, i), (2, a)] S h n = mx_gd (S a (-2) = 21 ∧ 0 ≤ i ∧ i < S a (-1)) d 129 36 [l0, l1, l2, l3, l4, l5, l6] [] S (mx_u h a i v) n) ∧
  (∀ (d : Nat) (x : Int) (l0 l1 l2 l3 l4 l6 : Option mx_V) (S h : mx_H) (n : Int), mx_ex d 129 36 [l0, l1, l2, l3, l4, some (1, x), l6] [] S h n = mx_ex d 129 38 [l0, l1, l2, l3, l4, some (1, x), l6] [(1, x)] S h n) ∧
  (∀ (d : Nat) (x : Int) (l0 l1 l2 l3 l4 l5 l6 : Option mx_V) (S h : mx_H) (n : Int), mx_ex d 129 38 [l0, l1, l2, l3, l4, l5, l6] [(1, x)] S h n = some (some (1, x), S, h, n)) :=
  ⟨by intros; exact rfl,
   by intros; exact eq_ld rfl rfl,
   by intros; exact eq_ld rfl rfl,
   by intros; exact eq_ld rfl rfl,
   by intros; exact eq_cv rfl (Nat.le_of_ble_eq_true rfl) rfl rfl rfl (Nat.le_of_ble_eq_true rfl),
   by intros; exact eq_if1 rfl,
   by intros; exact eq_push rfl,
   by intros; exact eq_ret rfl,
   by intros; exact eq_ld rfl rfl,
   by intros; exact eq_gr rfl,
   by intros; exact eq_ld rfl rfl,
   by intros; exact eq_push rfl,
   by intros; exact eq_i2 (o := mx_mul) rfl,
   by intros; exact eq_ld rfl rfl,
   by intros; exact eq_i2 (o := mx_add) rfl,
   by intros; exact eq_lald rfl,
   by intros; exact eq_st2 rfl (Nat.le_of_ble_eq_true rfl) rfl,
   by intros; exact eq_ld rfl rfl,
   by intros; exact eq_gr rfl,
   by intros; exact eq_ld rfl rfl,
   by intros; exact eq_push rfl,
   by intros; exact eq_i2 (o := mx_mul) rfl,
   by intros; exact eq_ld rfl rfl,
   by intros; exact eq_i2 (o := mx_add) rfl,
   by intros; exact eq_ld rfl rfl,
   by intros; exact eq_last rfl,
   by intros; exact eq_ld rfl rfl,
   by intros; exact eq_ret rfl⟩
theorem rh_X11_judge_10 : ∀ (d : Nat) (x : Int) (l0 : Option mx_V) (S h : mx_H) (n : Int), mx_ex d 130 10 [l0, some (0, x)] [] S h n = mx_ex d 130 11 [l0, some (0, x)] [(0, x)] S h n := by intros; exact eq_ld rfl rfl
theorem rh_X11_judge_56 : ∀ (d : Nat) (x : Int) (l0 : Option mx_V) (S h : mx_H) (n : Int), mx_ex d 130 56 [l0, some (0, x)] [] S h n = mx_ex d 130 57 [l0, some (0, x)] [(0, x)] S h n := by intros; exact eq_ld rfl rfl
theorem rw_X11_judge :
  (∀ (d : Nat) (a0 : Int) (S h : mx_H) (n : Int), mx_M d 130 [(2, a0)] S h n = mx_ex d 130 0 [some (2, a0), none] [] S h n) ∧
  (∀ (d : Nat) (x : Int) (l1 : Option mx_V) (S h : mx_H) (n : Int), mx_ex d 130 0 [some (2, x), l1] [] S h n = mx_ex d 130 1 [some (2, x), l1] [(2, x)] S h n) ∧
  (∀ (d : Nat) (a : Int) (l0 l1 : Option mx_V) (S h : mx_H) (n : Int), mx_ex d 130 1 [l0, l1] [(2, a)] S h n = mx_gd (7 ≤ S a (-2) ∧ S a (-2) ≤ 7) d 130 4 [l0, l1] [(2, S a 11)] S h n) ∧
  (∀ (d : Nat) (l0 l1 : Option mx_V) (v0 : mx_V) (S h : mx_H) (n : Int), mx_ex d 130 4 [l0, l1] [v0] S h n = mx_ex d 130 5 [l0, l1] [(0, 0), v0] S h n) ∧
  (∀ (d : Nat) (x0 x1 : Int) (l0 l1 : Option mx_V) (S h : mx_H) (n : Int), mx_ex (d + 1) 130 5 [l0, l1] [(0, x0), (2, x1)] S h n = mx_rt (mx_M d 255 [(2, x1), (0, x0)] S h n) (d + 1) 130 8 [l0, l1] []) ∧
  (∀ (d : Nat) (l0 l1 : Option mx_V) (S h : mx_H) (n : Int), mx_ex d 130 8 [l0, l1] [] S h n = mx_ex d 130 9 [l0, l1] [(0, 0)] S h n) ∧
  (∀ (d : Nat) (x : Int) (l0 l1 : Option mx_V) (S h : mx_H) (n : Int), mx_ex d 130 9 [l0, l1] [(0, x)] S h n = mx_ex d 130 10 [mx_nl l0, some (0, x)] [] S h n) ∧
  (∀ (d : Nat) (x : Int) (l1 : Option mx_V) (v0 : mx_V) (S h : mx_H) (n : Int), mx_ex d 130 11 [some (2, x), l1] [v0] S h n = mx_ex d 130 12 [some (2, x), l1] [(2, x), v0] S h n) ∧
  (∀ (d : Nat) (a : Int) (l0 l1 : Option mx_V) (v1 : mx_V) (S h : mx_H) (n : Int), mx_ex d 130 12 [l0, l1] [(2, a), v1] S h n = mx_gd (7 ≤ S a (-2) ∧ S a (-2) ≤ 7) d 130 15 [l0, l1] [(0, h a 10), v1] S h n) ∧
  (∀ (d : Nat) (b a : Int) (l0 l1 : Option mx_V) (S h : mx_H) (n : Int), mx_ex d 130 15 [l0, l1] [(0, b), (0, a)] S h n = mx_br (a < b) d 130 18 36 [l0, l1] [] S h n) ∧
  (∀ (d : Nat) (x : Int) (l1 : Option mx_V) (S h : mx_H) (n : Int), mx_ex d 130 18 [some (2, x), l1] [] S h n = mx_ex d 130 19 [some (2, x), l1] [(2, x)] S h n) ∧
  (∀ (d : Nat) (x : Int) (l0 : Option mx_V) (v0 : mx_V) (S h : mx_H) (n : Int), mx_ex d 130 19 [l0, some (0, x)] [v0] S h n = mx_ex d 130 20 [l0, some (0, x)] [(0, x), v0] S h n) ∧
  (∀ (d : Nat) (x0 a : Int) (l0 l1 : Option mx_V) (S h : mx_H) (n : Int), mx_ex (d + 1) 130 20 [l0, l1] [(0, x0), (2, a)] S h n = mx_cl (S a (-2) = 7) d 143 [(2, a), (0, x0)] 130 23 [l0, l1] [] S h n) ∧
  (∀ (d : Nat) (a : Int) (l0 l1 : Option mx_V) (S h : mx_H) (n : Int), mx_ex d 130 23 [l0, l1] [(0, a)] S h n = mx_br (a = 0) d 130 26 30 [l0, l1] [] S h n) ∧
  (∀ (d : Nat) (x : Int) (l0 : Option mx_V) (S h : mx_H) (n : Int), mx_ex d 130 26 [l0, some (0, x)] [] S h n = mx_ex d 130 27 [l0, some (0, x)] [(0, x)] S h n) ∧
  (∀ (d : Nat) (l0 l1 : Option mx_V) (v0 : mx_V) (S h : mx_H) (n : Int), mx_ex d 130 27 [l0, l1] [v0] S h n = mx_ex d 130 28 [l0, l1] [(0, 1), v0] S h n) ∧
  (∀ (d : Nat) (b a : Int) (l0 l1 : Option mx_V) (S h : mx_H) (n : Int), mx_ex d 130 28 [l0, l1] [(0, b), (0, a)] S h n = mx_ex d 130 29 [l0, l1] [(0, mx_w (a + b))] S h n) ∧
  (∀ (d : Nat) (x : Int) (l0 l1 : Option mx_V) (S h : mx_H) (n : Int), mx_ex d 130 29 [l0, l1] [(0, x)] S h n = some (some (0, x), S, h, n)) ∧
  (∀ (d : Nat) (x : Int) (l0 : Option mx_V) (S h : mx_H) (n : Int), mx_ex d 130 30 [l0, some (0, x)] [] S h n = mx_ex d 130 33 [mx_nl l0, some (0, mx_w (x + 1))] [] S h n) ∧
  (∀ (d : Nat) (l0 l1 : Option mx_V) (S h : mx_H) (n : Int), mx_ex d 130 33 [l0, l1] [] S h n = mx_ex d 130 10 [l0, l1] [] S h n) ∧
  (∀ (d : Nat) (x : Int) (l1 : Option mx_V) (S h : mx_H) (n : Int), mx_ex d 130 36 [some (2, x), l1] [] S h n = mx_ex d 130 37 [some (2, x), l1] [(2, x)] S h n) ∧
  (∀ (d : Nat) (a : Int) (l0 l1 : Option mx_V) (S h : mx_H) (n : Int), mx_ex d 130 37 [l0, l1] [(2, a)] S h n = mx_gd (7 ≤ S a (-2) ∧ S a (-2) ≤ 7) d 130 40 [l0, l1] [(0, h a 10)] S h n) ∧
  (∀ (d : Nat) (x : Int) (l1 : Option mx_V) (v0 : mx_V) (S h : mx_H) (n : Int), mx_ex d 130 40 [some (2, x), l1] [v0] S h n = mx_ex d 130 41 [some (2, x), l1] [(2, x), v0] S h n) ∧
  (∀ (d : Nat) (a : Int) (l0 l1 : Option mx_V) (v1 : mx_V) (S h : mx_H) (n : Int), mx_ex d 130 41 [l0, l1] [(2, a), v1] S h n = mx_gd (7 ≤ S a (-2) ∧ S a (-2) ≤ 7) d 130 44 [l0, l1] [(2, S a 3), v1] S h n) ∧
  (∀ (d : Nat) (a : Int) (l0 l1 : Option mx_V) (v1 : mx_V) (S h : mx_H) (n : Int), mx_ex d 130 44 [l0, l1] [(2, a), v1] S h n = mx_gd (8 ≤ S a (-2) ∧ S a (-2) ≤ 8) d 130 47 [l0, l1] [(0, h a 3), v1] S h n) ∧
  (∀ (d : Nat) (b a : Int) (l0 l1 : Option mx_V) (S h : mx_H) (n : Int), mx_ex d 130 47 [l0, l1] [(0, b), (0, a)] S h n = mx_br (a < b) d 130 50 54 [l0, l1] [] S h n) ∧
  (∀ (d : Nat) (l0 l1 : Option mx_V) (S h : mx_H) (n : Int), mx_ex d 130 50 [l0, l1] [] S h n = mx_ex d 130 53 [l0, l1] [(0, 222)] S h n) ∧
  (∀ (d : Nat) (x : Int) (l0 l1 : Option mx_V) (S h : mx_H) (n : Int), mx_ex d 130 53 [l0, l1] [(0, x)] S h n = some (some (0, x), S, h, n)) ∧
  (∀ (d : Nat) (l0 l1 : Option mx_V) (S h : mx_H) (n : Int), mx_ex d 130 54 [l0, l1] [] S h n = mx_ex d 130 55 [l0, l1] [(0, 0)] S h n) ∧
  (∀ (d : Nat) (x : Int) (l0 l1 : Option mx_V) (S h : mx_H) (n : Int), mx_ex d 130 55 [l0, l1] [(0, x)] S h n = mx_ex d 130 56 [mx_nl l0, some (0, x)] [] S h n) ∧
  (∀ (d : Nat) (x : Int) (l1 : Option mx_V) (v0 : mx_V) (S h : mx_H) (n : Int), mx_ex d 130 57 [some (2, x), l1] [v0] S h n = mx_ex d 130 58 [some (2, x), l1] [(2, x), v0] S h n) ∧
  (∀ (d : Nat) (a : Int) (l0 l1 : Option mx_V) (v1 : mx_V) (S h : mx_H) (n : Int), mx_ex d 130 58 [l0, l1] [(2, a), v1] S h n = mx_gd (7 ≤ S a (-2) ∧ S a (-2) ≤ 7) d 130 61 [l0, l1] [(2, S a 3), v1] S h n) ∧
  (∀ (d : Nat) (a : Int) (l0 l1 : Option mx_V) (v1 : mx_V) (S h : mx_H) (n : Int), mx_ex d 130 61 [l0, l1] [(2, a), v1] S h n = mx_gd (8 ≤ S a (-2) ∧ S a (-2) ≤ 8) d 130 64 [l0, l1] [(0, h a 4), v1] S h n) ∧
  (∀ (d : Nat) (b a : Int) (l0 l1 : Option mx_V) (S h : mx_H) (n : Int), mx_ex d 130 64 [l0, l1] [(0, b), (0, a)] S h n = mx_br (a < b) d 130 67 94 [l0, l1] [] S h n) ∧
  (∀ (d : Nat) (x : Int) (l1 : Option mx_V) (S h : mx_H) (n : Int), mx_ex d 130 67 [some (2, x), l1] [] S h n = mx_ex d 130 68 [some (2, x), l1] [(2, x)] S h n) ∧
  (∀ (d : Nat) (a : Int) (l0 l1 : Option mx_V) (S h : mx_H) (n : Int), mx_ex d 130 68 [l0, l1] [(2, a)] S h n = mx_gd (7 ≤ S a (-2) ∧ S a (-2) ≤ 7) d 130 71 [l0, l1] [(2, S a 3)] S h n) ∧
  (∀ (d : Nat) (x : Int) (l0 : Option mx_V) (v0 : mx_V) (S h : mx_H) (n : Int), mx_ex d 130 71 [l0, some (0, x)] [v0] S h n = mx_ex d 130 72 [l0, some (0, x)] [(0, x), v0] S h n) ∧
  (∀ (d : Nat) (x : Int) (l1 : Option mx_V) (v0 v1 : mx_V) (S h : mx_H) (n : Int), mx_ex d 130 72 [some (2, x), l1] [v0, v1] S h n = mx_ex d 130 73 [some (2, x), l1] [(2, x), v0, v1] S h n) ∧
  (∀ (d : Nat) (a : Int) (l0 l1 : Option mx_V) (v1 v2 : mx_V) (S h : mx_H) (n : Int), mx_ex d 130 73 [l0, l1] [(2, a), v1, v2] S h n = mx_gd (7 ≤ S a (-2) ∧ S a (-2) ≤ 7) d 130 76 [l0, l1] [(2, S a 11), v1, v2] S h n) ∧
  (∀ (d : Nat) (x0 x1 a : Int) (l0 l1 : Option mx_V) (S h : mx_H) (n : Int), mx_ex (d + 1) 130 76 [l0, l1] [(2, x0), (0, x1), (2, a)] S h n = mx_cl (S a (-2) = 8) d 94 [(2, a), (0, x1), (2, x0)] 130 79 [l0, l1] [] S h n) ∧
  (∀ (d : Nat) (a : Int) (l0 l1 : Option mx_V) (S h : mx_H) (n : Int), mx_ex d 130 79 [l0, l1] [(0, a)] S h n = mx_br (a = 0) d 130 82 88 [l0, l1] [] S h n) ∧
  (∀ (d : Nat) (l0 l1 : Option mx_V) (S h : mx_H) (n : Int), mx_ex d 130 82 [l0, l1] [] S h n = mx_ex d 130 85 [l0, l1] [(0, 300)] S h n) ∧
  (∀ (d : Nat) (x : Int) (l0 : Option mx_V) (v0 : mx_V) (S h : mx_H) (n : Int), mx_ex d 130 85 [l0, some (0, x)] [v0] S h n = mx_ex d 130 86 [l0, some (0, x)] [(0, x), v0] S h n) ∧
  (∀ (d : Nat) (b a : Int) (l0 l1 : Option mx_V) (S h : mx_H) (n : Int), mx_ex d 130 86 [l0, l1] [(0, b), (0, a)] S h n = mx_ex d 130 87 [l0, l1] [(0, mx_w (a + b))] S h n) ∧
  (∀ (d : Nat) (x : Int) (l0 l1 : Option mx_V) (S h : mx_H) (n : Int), mx_ex d 130 87 [l0, l1] [(0, x)] S h n = some (some (0, x), S, h, n)) ∧
  (∀ (d : Nat) (x : Int) (l0 : Option mx_V) (S h : mx_H) (n : Int), mx_ex d 130 88 [l0, some (0, x)] [] S h n = mx_ex d 130 91 [mx_nl l0, some (0, mx_w (x + 1))] [] S h n) ∧
  (∀ (d : Nat) (l0 l1 : Option mx_V) (S h : mx_H) (n : Int), mx_ex d 130 91 [l0, l1] [] S h n = mx_ex d 130 56 [l0, l1] [] S h n) ∧
  (∀ (d : Nat) (l0 l1 : Option mx_V) (S h : mx_H) (n : Int), mx_ex d 130 94 [l0, l1] [] S h n = mx_ex d 130 95 [l0, l1] [(0, 0)] S h n) ∧
  (∀ (d : Nat) (x : Int) (l0 l1 : Option mx_V) (S h : mx_H) (n : Int), mx_ex d 130 95 [l0, l1] [(0, x)] S h n = some (some (0, x), S, h, n)) :=
  ⟨by intros; exact rfl,
   by intros; exact eq_ld rfl rfl,
   by intros; exact eq_gr rfl,
   by intros; exact eq_push rfl,
   by intros; exact eq_cs rfl (Nat.le_of_ble_eq_true rfl) rfl rfl rfl (Nat.le_of_ble_eq_true rfl),
   by intros; exact eq_push rfl,
   by intros; exact eq_st rfl (by decide) (Nat.le_of_ble_eq_true rfl) rfl,
   by intros; exact eq_ld rfl rfl,
   by intros; exact eq_gi rfl,
   by intros; exact eq_ic3 rfl,
   by intros; exact eq_ld rfl rfl,
   by intros; exact eq_ld rfl rfl,
   by intros; exact eq_cv rfl (Nat.le_of_ble_eq_true rfl) rfl rfl rfl (Nat.le_of_ble_eq_true rfl),
   by intros; exact eq_if1 rfl,
   by intros; exact eq_ld rfl rfl,
   by intros; exact eq_push rfl,
   by intros; exact eq_i2 (o := mx_add) rfl,
   by intros; exact eq_ret rfl,
   by intros; exact eq_inc rfl rfl rfl,
   by intros; exact eq_go rfl,
   by intros; exact eq_ld rfl rfl,
   by intros; exact eq_gi rfl,
   by intros; exact eq_ld rfl rfl,
   by intros; exact eq_gr rfl,
   by intros; exact eq_gi rfl,
   by intros; exact eq_ic3 rfl,
   by intros; exact eq_push rfl,
   by intros; exact eq_ret rfl,
   by intros; exact eq_push rfl,
   by intros; exact eq_st rfl (by decide) (Nat.le_of_ble_eq_true rfl) rfl,
   by intros; exact eq_ld rfl rfl,
   by intros; exact eq_gr rfl,
   by intros; exact eq_gi rfl,
   by intros; exact eq_ic3 rfl,
   by intros; exact eq_ld rfl rfl,
   by intros; exact eq_gr rfl,
   by intros; exact eq_ld rfl rfl,
   by intros; exact eq_ld rfl rfl,
   by intros; exact eq_gr rfl,
   by intros; exact eq_cv rfl (Nat.le_of_ble_eq_true rfl) rfl rfl rfl (Nat.le_of_ble_eq_true rfl),
   by intros; exact eq_if1 rfl,
   by intros; exact eq_push rfl,
   by intros; exact eq_ld rfl rfl,
   by intros; exact eq_i2 (o := mx_add) rfl,
   by intros; exact eq_ret rfl,
   by intros; exact eq_inc rfl rfl rfl,
   by intros; exact eq_go rfl,
   by intros; exact eq_push rfl,
   by intros; exact eq_ret rfl⟩
theorem rh_X11_signs_89 : ∀ (d : Nat) (x : Int) (l0 l1 l2 l3 l4 l5 l6 : Option mx_V) (S h : mx_H) (n : Int), mx_ex d 131 89 [l0, l1, l2, l3, l4, l5, l6, some (0, x)] [] S h n = mx_ex d 131 91 [l0, l1, l2, l3, l4, l5, l6, some (0, x)] [(0, x)] S h n := by intros; exact eq_ld rfl rfl
theorem rw_X11_signs :
  (∀ (d : Nat) (a0 a1 a2 a3 a4 : Int) (S h : mx_H) (n : Int), mx_M d 131 [(2, a0), (0, a1), (0, a2), (0, a3), (0, a4)] S h n = mx_ex d 131 0 [some (2, a0), some (0, a1), some (0, a2), some (0, a3), some (0, a4), none, none, none] [] S h n) ∧
  (∀ (d : Nat) (x : Int) (l1 l2 l3 l4 l5 l6 l7 : Option mx_V) (S h : mx_H) (n : Int), mx_ex d 131 0 [some (2, x), l1, l2, l3, l4, l5, l6, l7] [] S h n = mx_ex d 131 1 [some (2, x), l1, l2, l3, l4, l5, l6, l7] [(2, x)] S h n) ∧
  (∀ (d : Nat) (a : Int) (l0 l1 l2 l3 l4 l5 l6 l7 : Option mx_V) (S h : mx_H) (n : Int), mx_ex d 131 1 [l0, l1, l2, l3, l4, l5, l6, l7] [(2, a)] S h n = mx_gd (7 ≤ S a (-2) ∧ S a (-2) ≤ 7) d 131 4 [l0, l1, l2, l3, l4, l5, l6, l7] [(2, S a 3)] S h n) ∧
  (∀ (d : Nat) (x : Int) (l0 l2 l3 l4 l5 l6 l7 : Option mx_V) (v0 : mx_V) (S h : mx_H) (n : Int), mx_ex d 131 4 [l0, some (0, x), l2, l3, l4, l5, l6, l7] [v0] S h n = mx_ex d 131 5 [l0, some (0, x), l2, l3, l4, l5, l6, l7] [(0, x), v0] S h n) ∧
  (∀ (d : Nat) (x0 a : Int) (l0 l1 l2 l3 l4 l5 l6 l7 : Option mx_V) (S h : mx_H) (n : Int), mx_ex (d + 1) 131 5 [l0, l1, l2, l3, l4, l5, l6, l7] [(0, x0), (2, a)] S h n = mx_cl (S a (-2) = 8) d 90 [(2, a), (0, x0)] 131 8 [l0, l1, l2, l3, l4, l5, l6, l7] [] S h n) ∧
  (∀ (d : Nat) (x : Int) (l0 l1 l2 l3 l4 l5 l6 l7 : Option mx_V) (S h : mx_H) (n : Int), mx_ex d 131 8 [l0, l1, l2, l3, l4, l5, l6, l7] [(2, x)] S h n = mx_ex d 131 10 [l0, l1, l2, l3, mx_nl l4, some (2, x), l6, l7] [] S h n) ∧
  (∀ (d : Nat) (x : Int) (l0 l1 l2 l3 l4 l6 l7 : Option mx_V) (S h : mx_H) (n : Int), mx_ex d 131 10 [l0, l1, l2, l3, l4, some (2, x), l6, l7] [] S h n = mx_ex d 131 12 [l0, l1, l2, l3, l4, some (2, x), l6, l7] [(2, x)] S h n) ∧
  (∀ (d : Nat) (a : Int) (l0 l1 l2 l3 l4 l5 l6 l7 : Option mx_V) (S h : mx_H) (n : Int), mx_ex d 131 12 [l0, l1, l2, l3, l4, l5, l6, l7] [(2, a)] S h n = mx_br (a = -1) d 131 37 15 [l0, l1, l2, l3, l4, l5, l6, l7] [] S h n) ∧
  (∀ (d : Nat) (x : Int) (l0 l1 l3 l4 l5 l6 l7 : Option mx_V) (S h : mx_H) (n : Int), mx_ex d 131 15 [l0, l1, some (0, x), l3, l4, l5, l6, l7] [] S h n = mx_ex d 131 16 [l0, l1, some (0, x), l3, l4, l5, l6, l7] [(0, x)] S h n) ∧
  (∀ (d : Nat) (x0 : Int) (l0 l1 l2 l3 l4 l5 l6 l7 : Option mx_V) (S h : mx_H) (n : Int), mx_ex (d + 1) 131 16 [l0, l1, l2, l3, l4, l5, l6, l7] [(0, x0)] S h n = mx_rt (mx_M d 148 [(0, x0)] S h n) (d + 1) 131 19 [l0, l1, l2, l3, l4, l5, l6, l7] []) ∧
  (∀ (d : Nat) (a : Int) (l0 l1 l2 l3 l4 l5 l6 l7 : Option mx_V) (S h : mx_H) (n : Int), mx_ex d 131 19 [l0, l1, l2, l3, l4, l5, l6, l7] [(0, a)] S h n = mx_br (a = 0) d 131 37 22 [l0, l1, l2, l3, l4, l5, l6, l7] [] S h n) ∧
  (∀ (d : Nat) (x : Int) (l0 l1 l2 l3 l5 l6 l7 : Option mx_V) (S h : mx_H) (n : Int), mx_ex d 131 22 [l0, l1, l2, l3, some (0, x), l5, l6, l7] [] S h n = mx_ex d 131 24 [l0, l1, l2, l3, some (0, x), l5, l6, l7] [(0, x)] S h n) ∧
  (∀ (d : Nat) (l0 l1 l2 l3 l4 l5 l6 l7 : Option mx_V) (v0 : mx_V) (S h : mx_H) (n : Int), mx_ex d 131 24 [l0, l1, l2, l3, l4, l5, l6, l7] [v0] S h n = mx_ex d 131 25 [l0, l1, l2, l3, l4, l5, l6, l7] [(0, 0), v0] S h n) ∧
  (∀ (d : Nat) (x : Int) (l0 l1 l2 l3 l4 l6 l7 : Option mx_V) (v0 v1 : mx_V) (S h : mx_H) (n : Int), mx_ex d 131 25 [l0, l1, l2, l3, l4, some (2, x), l6, l7] [v0, v1] S h n = mx_ex d 131 27 [l0, l1, l2, l3, l4, some (2, x), l6, l7] [(2, x), v0, v1] S h n) ∧
  (∀ (d : Nat) (a : Int) (l0 l1 l2 l3 l4 l5 l6 l7 : Option mx_V) (v1 v2 : mx_V) (S h : mx_H) (n : Int), mx_ex d 131 27 [l0, l1, l2, l3, l4, l5, l6, l7] [(2, a), v1, v2] S h n = mx_gd (1 ≤ S a (-2) ∧ S a (-2) ≤ 6) d 131 30 [l0, l1, l2, l3, l4, l5, l6, l7] [(2, S a 2), v1, v2] S h n) ∧
  (∀ (d : Nat) (a : Int) (l0 l1 l2 l3 l4 l5 l6 l7 : Option mx_V) (v1 v2 : mx_V) (S h : mx_H) (n : Int), mx_ex d 131 30 [l0, l1, l2, l3, l4, l5, l6, l7] [(2, a), v1, v2] S h n = mx_gd (20 ≤ S a (-2) ∧ S a (-2) ≤ 25) d 131 31 [l0, l1, l2, l3, l4, l5, l6, l7] [(0, S a (-1)), v1, v2] S h n) ∧
  (∀ (d : Nat) (x0 x1 x2 : Int) (l0 l1 l2 l3 l4 l5 l6 l7 : Option mx_V) (S h : mx_H) (n : Int), mx_ex (d + 1) 131 31 [l0, l1, l2, l3, l4, l5, l6, l7] [(0, x0), (0, x1), (0, x2)] S h n = mx_rt (mx_M d 145 [(0, x2), (0, x1), (0, x0)] S h n) (d + 1) 131 34 [l0, l1, l2, l3, l4, l5, l6, l7] []) ∧
  (∀ (d : Nat) (a : Int) (l0 l1 l2 l3 l4 l5 l6 l7 : Option mx_V) (S h : mx_H) (n : Int), mx_ex d 131 34 [l0, l1, l2, l3, l4, l5, l6, l7] [(0, a)] S h n = mx_br (a = 0) d 131 37 39 [l0, l1, l2, l3, l4, l5, l6, l7] [] S h n) ∧
  (∀ (d : Nat) (l0 l1 l2 l3 l4 l5 l6 l7 : Option mx_V) (S h : mx_H) (n : Int), mx_ex d 131 37 [l0, l1, l2, l3, l4, l5, l6, l7] [] S h n = mx_ex d 131 38 [l0, l1, l2, l3, l4, l5, l6, l7] [(0, (-1))] S h n) ∧
  (∀ (d : Nat) (x : Int) (l0 l1 l2 l3 l4 l5 l6 l7 : Option mx_V) (S h : mx_H) (n : Int), mx_ex d 131 38 [l0, l1, l2, l3, l4, l5, l6, l7] [(0, x)] S h n = some (some (0, x), S, h, n)) ∧
  (∀ (d : Nat) (x : Int) (l1 l2 l3 l4 l5 l6 l7 : Option mx_V) (S h : mx_H) (n : Int), mx_ex d 131 39 [some (2, x), l1, l2, l3, l4, l5, l6, l7] [] S h n = mx_ex d 131 40 [some (2, x), l1, l2, l3, l4, l5, l6, l7] [(2, x)] S h n) ∧
  (∀ (d : Nat) (a : Int) (l0 l1 l2 l3 l4 l5 l6 l7 : Option mx_V) (S h : mx_H) (n : Int), mx_ex d 131 40 [l0, l1, l2, l3, l4, l5, l6, l7] [(2, a)] S h n = mx_gd (7 ≤ S a (-2) ∧ S a (-2) ≤ 7) d 131 43 [l0, l1, l2, l3, l4, l5, l6, l7] [(2, S a 12)] S h n) ∧
  (∀ (d : Nat) (x : Int) (l0 l1 l3 l4 l5 l6 l7 : Option mx_V) (v0 : mx_V) (S h : mx_H) (n : Int), mx_ex d 131 43 [l0, l1, some (0, x), l3, l4, l5, l6, l7] [v0] S h n = mx_ex d 131 44 [l0, l1, some (0, x), l3, l4, l5, l6, l7] [(0, x), v0] S h n) ∧
  (∀ (d : Nat) (i a : Int) (l0 l1 l2 l3 l4 l5 l6 l7 : Option mx_V) (S h : mx_H) (n : Int), mx_ex d 131 44 [l0, l1, l2, l3, l4, l5, l6, l7] [(0, i), (2, a)] S h n = mx_gd (S a (-2) = 23 ∧ 0 ≤ i ∧ i < S a (-1)) d 131 45 [l0, l1, l2, l3, l4, l5, l6, l7] [(2, S a i)] S h n) ∧
  (∀ (d : Nat) (x : Int) (l0 l1 l2 l3 l4 l5 l6 l7 : Option mx_V) (S h : mx_H) (n : Int), mx_ex d 131 45 [l0, l1, l2, l3, l4, l5, l6, l7] [(2, x)] S h n = mx_ex d 131 47 [l0, l1, l2, l3, l4, mx_nl l5, some (2, x), l7] [] S h n) ∧
  (∀ (d : Nat) (x : Int) (l0 l1 l2 l3 l4 l5 l7 : Option mx_V) (S h : mx_H) (n : Int), mx_ex d 131 47 [l0, l1, l2, l3, l4, l5, some (2, x), l7] [] S h n = mx_ex d 131 49 [l0, l1, l2, l3, l4, l5, some (2, x), l7] [(2, x)] S h n) ∧
  (∀ (d : Nat) (a : Int) (l0 l1 l2 l3 l4 l5 l6 l7 : Option mx_V) (S h : mx_H) (n : Int), mx_ex d 131 49 [l0, l1, l2, l3, l4, l5, l6, l7] [(2, a)] S h n = mx_br (a = -1) d 131 52 55 [l0, l1, l2, l3, l4, l5, l6, l7] [] S h n) ∧
  (∀ (d : Nat) (l0 l1 l2 l3 l4 l5 l6 l7 : Option mx_V) (S h : mx_H) (n : Int), mx_ex d 131 52 [l0, l1, l2, l3, l4, l5, l6, l7] [] S h n = mx_ex d 131 54 [l0, l1, l2, l3, l4, l5, l6, l7] [(0, (-11))] S h n) ∧
  (∀ (d : Nat) (x : Int) (l0 l1 l2 l3 l4 l5 l6 l7 : Option mx_V) (S h : mx_H) (n : Int), mx_ex d 131 54 [l0, l1, l2, l3, l4, l5, l6, l7] [(0, x)] S h n = some (some (0, x), S, h, n)) ∧
  (∀ (d : Nat) (x : Int) (l0 l1 l2 l3 l4 l5 l7 : Option mx_V) (S h : mx_H) (n : Int), mx_ex d 131 55 [l0, l1, l2, l3, l4, l5, some (2, x), l7] [] S h n = mx_ex d 131 57 [l0, l1, l2, l3, l4, l5, some (2, x), l7] [(2, x)] S h n) ∧
  (∀ (d : Nat) (a : Int) (l0 l1 l2 l3 l4 l5 l6 l7 : Option mx_V) (S h : mx_H) (n : Int), mx_ex d 131 57 [l0, l1, l2, l3, l4, l5, l6, l7] [(2, a)] S h n = mx_gd (12 ≤ S a (-2) ∧ S a (-2) ≤ 12) d 131 60 [l0, l1, l2, l3, l4, l5, l6, l7] [(0, h a 0)] S h n) ∧
  (∀ (d : Nat) (a : Int) (l0 l1 l2 l3 l4 l5 l6 l7 : Option mx_V) (S h : mx_H) (n : Int), mx_ex d 131 60 [l0, l1, l2, l3, l4, l5, l6, l7] [(0, a)] S h n = mx_br (a = 0) d 131 66 63 [l0, l1, l2, l3, l4, l5, l6, l7] [] S h n) ∧
  (∀ (d : Nat) (l0 l1 l2 l3 l4 l5 l6 l7 : Option mx_V) (S h : mx_H) (n : Int), mx_ex d 131 63 [l0, l1, l2, l3, l4, l5, l6, l7] [] S h n = mx_ex d 131 65 [l0, l1, l2, l3, l4, l5, l6, l7] [(0, (-13))] S h n) ∧
  (∀ (d : Nat) (x : Int) (l0 l1 l2 l3 l4 l5 l6 l7 : Option mx_V) (S h : mx_H) (n : Int), mx_ex d 131 65 [l0, l1, l2, l3, l4, l5, l6, l7] [(0, x)] S h n = some (some (0, x), S, h, n)) ∧
  (∀ (d : Nat) (x : Int) (l0 l1 l2 l4 l5 l6 l7 : Option mx_V) (S h : mx_H) (n : Int), mx_ex d 131 66 [l0, l1, l2, some (0, x), l4, l5, l6, l7] [] S h n = mx_ex d 131 67 [l0, l1, l2, some (0, x), l4, l5, l6, l7] [(0, x)] S h n) ∧
  (∀ (d : Nat) (l0 l1 l2 l3 l4 l5 l6 l7 : Option mx_V) (v0 : mx_V) (S h : mx_H) (n : Int), mx_ex d 131 67 [l0, l1, l2, l3, l4, l5, l6, l7] [v0] S h n = mx_ex d 131 68 [l0, l1, l2, l3, l4, l5, l6, l7] [(0, 0), v0] S h n) ∧
  (∀ (d : Nat) (x : Int) (l0 l1 l2 l3 l4 l5 l7 : Option mx_V) (v0 v1 : mx_V) (S h : mx_H) (n : Int), mx_ex d 131 68 [l0, l1, l2, l3, l4, l5, some (2, x), l7] [v0, v1] S h n = mx_ex d 131 70 [l0, l1, l2, l3, l4, l5, some (2, x), l7] [(2, x), v0, v1] S h n) ∧
  (∀ (d : Nat) (a : Int) (l0 l1 l2 l3 l4 l5 l6 l7 : Option mx_V) (v1 v2 : mx_V) (S h : mx_H) (n : Int), mx_ex d 131 70 [l0, l1, l2, l3, l4, l5, l6, l7] [(2, a), v1, v2] S h n = mx_gd (12 ≤ S a (-2) ∧ S a (-2) ≤ 12) d 131 73 [l0, l1, l2, l3, l4, l5, l6, l7] [(2, S a 1), v1, v2] S h n) ∧
  (∀ (d : Nat) (a : Int) (l0 l1 l2 l3 l4 l5 l6 l7 : Option mx_V) (v1 v2 : mx_V) (S h : mx_H) (n : Int), mx_ex d 131 73 [l0, l1, l2, l3, l4, l5, l6, l7] [(2, a), v1, v2] S h n = mx_gd (20 ≤ S a (-2) ∧ S a (-2) ≤ 25) d 131 74 [l0, l1, l2, l3, l4, l5, l6, l7] [(0, S a (-1)), v1, v2] S h n) ∧
  (∀ (d : Nat) (x : Int) (l0 l1 l2 l3 l5 l6 l7 : Option mx_V) (v0 v1 v2 : mx_V) (S h : mx_H) (n : Int), mx_ex d 131 74 [l0, l1, l2, l3, some (0, x), l5, l6, l7] [v0, v1, v2] S h n = mx_ex d 131 76 [l0, l1, l2, l3, some (0, x), l5, l6, l7] [(0, x), v0, v1, v2] S h n) ∧
  (∀ (d : Nat) (b a : Int) (l0 l1 l2 l3 l4 l5 l6 l7 : Option mx_V) (v2 v3 : mx_V) (S h : mx_H) (n : Int), mx_ex d 131 76 [l0, l1, l2, l3, l4, l5, l6, l7] [(0, b), (0, a), v2, v3] S h n = mx_ex d 131 77 [l0, l1, l2, l3, l4, l5, l6, l7] [(0, mx_w (a - b)), v2, v3] S h n) ∧
  (∀ (d : Nat) (x0 x1 x2 : Int) (l0 l1 l2 l3 l4 l5 l6 l7 : Option mx_V) (S h : mx_H) (n : Int), mx_ex (d + 1) 131 77 [l0, l1, l2, l3, l4, l5, l6, l7] [(0, x0), (0, x1), (0, x2)] S h n = mx_rt (mx_M d 145 [(0, x2), (0, x1), (0, x0)] S h n) (d + 1) 131 80 [l0, l1, l2, l3, l4, l5, l6, l7] []) ∧
  (∀ (d : Nat) (a : Int) (l0 l1 l2 l3 l4 l5 l6 l7 : Option mx_V) (S h : mx_H) (n : Int), mx_ex d 131 80 [l0, l1, l2, l3, l4, l5, l6, l7] [(0, a)] S h n = mx_br (a = 0) d 131 83 86 [l0, l1, l2, l3, l4, l5, l6, l7] [] S h n) ∧
  (∀ (d : Nat) (l0 l1 l2 l3 l4 l5 l6 l7 : Option mx_V) (S h : mx_H) (n : Int), mx_ex d 131 83 [l0, l1, l2, l3, l4, l5, l6, l7] [] S h n = mx_ex d 131 85 [l0, l1, l2, l3, l4, l5, l6, l7] [(0, (-12))] S h n) ∧
  (∀ (d : Nat) (x : Int) (l0 l1 l2 l3 l4 l5 l6 l7 : Option mx_V) (S h : mx_H) (n : Int), mx_ex d 131 85 [l0, l1, l2, l3, l4, l5, l6, l7] [(0, x)] S h n = some (some (0, x), S, h, n)) ∧
  (∀ (d : Nat) (l0 l1 l2 l3 l4 l5 l6 l7 : Option mx_V) (S h : mx_H) (n : Int), mx_ex d 131 86 [l0, l1, l2, l3, l4, l5, l6, l7] [] S h n = mx_ex d 131 87 [l0, l1, l2, l3, l4, l5, l6, l7] [(0, 0)] S h n) ∧
  (∀ (d : Nat) (x : Int) (l0 l1 l2 l3 l4 l5 l6 l7 : Option mx_V) (S h : mx_H) (n : Int), mx_ex d 131 87 [l0, l1, l2, l3, l4, l5, l6, l7] [(0, x)] S h n = mx_ex d 131 89 [l0, l1, l2, l3, l4, l5, mx_nl l6, some (0, x)] [] S h n) ∧
  (∀ (d : Nat) (x : Int) (l0 l1 l2 l3 l5 l6 l7 : Option mx_V) (v0 : mx_V) (S h : mx_H) (n : Int), mx_ex d 131 91 [l0, l1, l2, l3, some (0, x), l5, l6, l7] [v0] S h n = mx_ex d 131 93 [l0, l1, l2, l3, some (0, x), l5, l6, l7] [(0, x), v0] S h n) ∧
  (∀ (d : Nat) (b a : Int) (l0 l1 l2 l3 l4 l5 l6 l7 : Option mx_V) (S h : mx_H) (n : Int), mx_ex d 131 93 [l0, l1, l2, l3, l4, l5, l6, l7] [(0, b), (0, a)] S h n = mx_br (a < b) d 131 96 131 [l0, l1, l2, l3, l4, l5, l6, l7] [] S h n) ∧
  (∀ (d : Nat) (x : Int) (l0 l1 l2 l3 l4 l6 l7 : Option mx_V) (S h : mx_H) (n : Int), mx_ex d 131 96 [l0, l1, l2, l3, l4, some (2, x), l6, l7] [] S h n = mx_ex d 131 98 [l0, l1, l2, l3, l4, some (2, x), l6, l7] [(2, x)] S h n) ∧
  (∀ (d : Nat) (a : Int) (l0 l1 l2 l3 l4 l5 l6 l7 : Option mx_V) (S h : mx_H) (n : Int), mx_ex d 131 98 [l0, l1, l2, l3, l4, l5, l6, l7] [(2, a)] S h n = mx_gd (1 ≤ S a (-2) ∧ S a (-2) ≤ 6) d 131 101 [l0, l1, l2, l3, l4, l5, l6, l7] [(2, S a 2)] S h n) ∧
  (∀ (d : Nat) (x : Int) (l0 l1 l2 l3 l4 l5 l6 : Option mx_V) (v0 : mx_V) (S h : mx_H) (n : Int), mx_ex d 131 101 [l0, l1, l2, l3, l4, l5, l6, some (0, x)] [v0] S h n = mx_ex d 131 103 [l0, l1, l2, l3, l4, l5, l6, some (0, x)] [(0, x), v0] S h n) ∧
  (∀ (d : Nat) (l0 l1 l2 l3 l4 l5 l6 l7 : Option mx_V) (v0 v1 : mx_V) (S h : mx_H) (n : Int), mx_ex d 131 103 [l0, l1, l2, l3, l4, l5, l6, l7] [v0, v1] S h n = mx_ex d 131 104 [l0, l1, l2, l3, l4, l5, l6, l7] [(1, 0), v0, v1] S h n) ∧
  (∀ (d : Nat) (l0 l1 l2 l3 l4 l5 l6 l7 : Option mx_V) (v0 v1 v2 : mx_V) (S h : mx_H) (n : Int), mx_ex d 131 104 [l0, l1, l2, l3, l4, l5, l6, l7] [v0, v1, v2] S h n = mx_ex d 131 107 [l0, l1, l2, l3, l4, l5, l6, l7] [(1, 15), v0, v1, v2] S h n) ∧
  (∀ (d : Nat) (x : Int) (l0 l1 l2 l3 l4 l5 l7 : Option mx_V) (v0 v1 v2 v3 : mx_V) (S h : mx_H) (n : Int), mx_ex d 131 107 [l0, l1, l2, l3, l4, l5, some (2, x), l7] [v0, v1, v2, v3] S h n = mx_ex d 131 109 [l0, l1, l2, l3, l4, l5, some (2, x), l7] [(2, x), v0, v1, v2, v3] S h n) ∧
  (∀ (d : Nat) (a : Int) (l0 l1 l2 l3 l4 l5 l6 l7 : Option mx_V) (v1 v2 v3 v4 : mx_V) (S h : mx_H) (n : Int), mx_ex d 131 109 [l0, l1, l2, l3, l4, l5, l6, l7] [(2, a), v1, v2, v3, v4] S h n = mx_gd (12 ≤ S a (-2) ∧ S a (-2) ≤ 12) d 131 112 [l0, l1, l2, l3, l4, l5, l6, l7] [(2, S a 1), v1, v2, v3, v4] S h n) ∧
  (∀ (d : Nat) (x : Int) (l0 l1 l2 l4 l5 l6 l7 : Option mx_V) (v0 v1 v2 v3 v4 : mx_V) (S h : mx_H) (n : Int), mx_ex d 131 112 [l0, l1, l2, some (0, x), l4, l5, l6, l7] [v0, v1, v2, v3, v4] S h n = mx_ex d 131 113 [l0, l1, l2, some (0, x), l4, l5, l6, l7] [(0, x), v0, v1, v2, v3, v4] S h n) ∧
  (∀ (d : Nat) (x : Int) (l0 l1 l2 l3 l4 l5 l6 : Option mx_V) (v0 v1 v2 v3 v4 v5 : mx_V) (S h : mx_H) (n : Int), mx_ex d 131 113 [l0, l1, l2, l3, l4, l5, l6, some (0, x)] [v0, v1, v2, v3, v4, v5] S h n = mx_ex d 131 115 [l0, l1, l2, l3, l4, l5, l6, some (0, x)] [(0, x), v0, v1, v2, v3, v4, v5] S h n) ∧
  (∀ (d : Nat) (b a : Int) (l0 l1 l2 l3 l4 l5 l6 l7 : Option mx_V) (v2 v3 v4 v5 v6 : mx_V) (S h : mx_H) (n : Int), mx_ex d 131 115 [l0, l1, l2, l3, l4, l5, l6, l7] [(0, b), (0, a), v2, v3, v4, v5, v6] S h n = mx_ex d 131 116 [l0, l1, l2, l3, l4, l5, l6, l7] [(0, mx_w (a + b)), v2, v3, v4, v5, v6] S h n) ∧
  (∀ (d : Nat) (i a : Int) (l0 l1 l2 l3 l4 l5 l6 l7 : Option mx_V) (v2 v3 v4 v5 : mx_V) (S h : mx_H) (n : Int), mx_ex d 131 116 [l0, l1, l2, l3, l4, l5, l6, l7] [(0, i), (2, a), v2, v3, v4, v5] S h n = mx_gd (S a (-2) = 21 ∧ 0 ≤ i ∧ i < S a (-1)) d 131 117 [l0, l1, l2, l3, l4, l5, l6, l7] [(1, h a i), v2, v3, v4, v5] S h n) ∧
  (∀ (d : Nat) (b a : Int) (l0 l1 l2 l3 l4 l5 l6 l7 : Option mx_V) (v2 v3 v4 : mx_V) (S h : mx_H) (n : Int), mx_ex d 131 117 [l0, l1, l2, l3, l4, l5, l6, l7] [(1, b), (1, a), v2, v3, v4] S h n = mx_ex d 131 120 [l0, l1, l2, l3, l4, l5, l6, l7] [(1, if b < a then b else a), v2, v3, v4] S h n) ∧
  (∀ (d : Nat) (b a : Int) (l0 l1 l2 l3 l4 l5 l6 l7 : Option mx_V) (v2 v3 : mx_V) (S h : mx_H) (n : Int), mx_ex d 131 120 [l0, l1, l2, l3, l4, l5, l6, l7] [(1, b), (1, a), v2, v3] S h n = mx_ex d 131 123 [l0, l1, l2, l3, l4, l5, l6, l7] [(1, if b < a then a else b), v2, v3] S h n) ∧
  (∀ (d : Nat) (a : Int) (l0 l1 l2 l3 l4 l5 l6 l7 : Option mx_V) (v1 v2 : mx_V) (S h : mx_H) (n : Int), mx_ex d 131 123 [l0, l1, l2, l3, l4, l5, l6, l7] [(1, a), v1, v2] S h n = mx_ex d 131 124 [l0, l1, l2, l3, l4, l5, l6, l7] [(0, mx_w a), v1, v2] S h n) ∧
  (∀ (d : Nat) (v i a : Int) (l0 l1 l2 l3 l4 l5 l6 l7 : Option mx_V) (S h : mx_H) (n : Int), mx_ex d 131 124 [l0, l1, l2, l3, l4, l5, l6, l7] [(0, v), (0, i), (2, a)] S h n = mx_gd (S a (-2) = 20 ∧ 0 ≤ i ∧ i < S a (-1)) d 131 125 [l0, l1, l2, l3, l4, l5, l6, l7] [] S (mx_u h a i v) n) ∧
  (∀ (d : Nat) (x : Int) (l0 l1 l2 l3 l4 l5 l6 : Option mx_V) (S h : mx_H) (n : Int), mx_ex d 131 125 [l0, l1, l2, l3, l4, l5, l6, some (0, x)] [] S h n = mx_ex d 131 128 [l0, l1, l2, l3, l4, l5, mx_nl l6, some (0, mx_w (x + 1))] [] S h n) ∧
  (∀ (d : Nat) (l0 l1 l2 l3 l4 l5 l6 l7 : Option mx_V) (S h : mx_H) (n : Int), mx_ex d 131 128 [l0, l1, l2, l3, l4, l5, l6, l7] [] S h n = mx_ex d 131 89 [l0, l1, l2, l3, l4, l5, l6, l7] [] S h n) ∧
  (∀ (d : Nat) (x : Int) (l1 l2 l3 l4 l5 l6 l7 : Option mx_V) (S h : mx_H) (n : Int), mx_ex d 131 131 [some (2, x), l1, l2, l3, l4, l5, l6, l7] [] S h n = mx_ex d 131 132 [some (2, x), l1, l2, l3, l4, l5, l6, l7] [(2, x)] S h n) ∧
  (∀ (d : Nat) (a : Int) (l0 l1 l2 l3 l4 l5 l6 l7 : Option mx_V) (S h : mx_H) (n : Int), mx_ex d 131 132 [l0, l1, l2, l3, l4, l5, l6, l7] [(2, a)] S h n = mx_gd (7 ≤ S a (-2) ∧ S a (-2) ≤ 7) d 131 135 [l0, l1, l2, l3, l4, l5, l6, l7] [(2, S a 3)] S h n) ∧
  (∀ (d : Nat) (a : Int) (l0 l1 l2 l3 l4 l5 l6 l7 : Option mx_V) (S h : mx_H) (n : Int), mx_ex d 131 135 [l0, l1, l2, l3, l4, l5, l6, l7] [(2, a)] S h n = mx_ex d 131 136 [l0, l1, l2, l3, l4, l5, l6, l7] [(2, a), (2, a)] S h n) ∧
  (∀ (d : Nat) (a : Int) (l0 l1 l2 l3 l4 l5 l6 l7 : Option mx_V) (v1 : mx_V) (S h : mx_H) (n : Int), mx_ex d 131 136 [l0, l1, l2, l3, l4, l5, l6, l7] [(2, a), v1] S h n = mx_gd (8 ≤ S a (-2) ∧ S a (-2) ≤ 8) d 131 139 [l0, l1, l2, l3, l4, l5, l6, l7] [(0, h a 5), v1] S h n) :=
  ⟨by intros; exact rfl,
   by intros; exact eq_ld rfl rfl,
   by intros; exact eq_gr rfl,
   by intros; exact eq_ld rfl rfl,
   by intros; exact eq_cv rfl (Nat.le_of_ble_eq_true rfl) rfl rfl rfl (Nat.le_of_ble_eq_true rfl),
   by intros; exact eq_st rfl (by decide) (Nat.le_of_ble_eq_true rfl) rfl,
   by intros; exact eq_ld rfl rfl,
   by intros; exact eq_nul rfl,
   by intros; exact eq_ld rfl rfl,
   by intros; exact eq_cs rfl (Nat.le_of_ble_eq_true rfl) rfl rfl rfl (Nat.le_of_ble_eq_true rfl),
   by intros; exact eq_if0 rfl,
   by intros; exact eq_ld rfl rfl,
   by intros; exact eq_push rfl,
   by intros; exact eq_ld rfl rfl,
   by intros; exact eq_gr rfl,
   by intros; exact eq_alen rfl,
   by intros; exact eq_cs rfl (Nat.le_of_ble_eq_true rfl) rfl rfl rfl (Nat.le_of_ble_eq_true rfl),
   by intros; exact eq_if1 rfl,
   by intros; exact eq_push rfl,
   by intros; exact eq_ret rfl,
   by intros; exact eq_ld rfl rfl,
   by intros; exact eq_gr rfl,
   by intros; exact eq_ld rfl rfl,
   by intros; exact eq_aald rfl,
   by intros; exact eq_st rfl (by decide) (Nat.le_of_ble_eq_true rfl) rfl,
   by intros; exact eq_ld rfl rfl,
   by intros; exact eq_nul rfl,
   by intros; exact eq_push rfl,
   by intros; exact eq_ret rfl,
   by intros; exact eq_ld rfl rfl,
   by intros; exact eq_gi rfl,
   by intros; exact eq_if0 rfl,
   by intros; exact eq_push rfl,
   by intros; exact eq_ret rfl,
   by intros; exact eq_ld rfl rfl,
   by intros; exact eq_push rfl,
   by intros; exact eq_ld rfl rfl,
   by intros; exact eq_gr rfl,
   by intros; exact eq_alen rfl,
   by intros; exact eq_ld rfl rfl,
   by intros; exact eq_i2 (o := mx_sub) rfl,
   by intros; exact eq_cs rfl (Nat.le_of_ble_eq_true rfl) rfl rfl rfl (Nat.le_of_ble_eq_true rfl),
   by intros; exact eq_if1 rfl,
   by intros; exact eq_push rfl,
   by intros; exact eq_ret rfl,
   by intros; exact eq_push rfl,
   by intros; exact eq_st rfl (by decide) (Nat.le_of_ble_eq_true rfl) rfl,
   by intros; exact eq_ld rfl rfl,
   by intros; exact eq_ic3 rfl,
   by intros; exact eq_ld rfl rfl,
   by intros; exact eq_gr rfl,
   by intros; exact eq_ld rfl rfl,
   by intros; exact eq_push rfl,
   by intros; exact eq_push rfl,
   by intros; exact eq_ld rfl rfl,
   by intros; exact eq_gr rfl,
   by intros; exact eq_ld rfl rfl,
   by intros; exact eq_ld rfl rfl,
   by intros; exact eq_i2 (o := mx_add) rfl,
   by intros; exact eq_lald rfl,
   by intros; exact eq_ml (o := ml_min) rfl (Nat.le_of_ble_eq_true rfl),
   by intros; exact eq_ml (o := ml_max) rfl (Nat.le_of_ble_eq_true rfl),
   by intros; exact eq_l2i rfl,
   by intros; exact eq_iast rfl,
   by intros; exact eq_inc rfl rfl rfl,
   by intros; exact eq_go rfl,
   by intros; exact eq_ld rfl rfl,
   by intros; exact eq_gr rfl,
   by intros; exact eq_dup rfl (by decide),
   by intros; exact eq_gi rfl⟩
theorem rw_X11_signs_1 :
  (∀ (d : Nat) (l0 l1 l2 l3 l4 l5 l6 l7 : Option mx_V) (v0 v1 : mx_V) (S h : mx_H) (n : Int), mx_ex d 131 139 [l0, l1, l2, l3, l4, l5, l6, l7] [v0, v1] S h n = mx_ex d 131 140 [l0, l1, l2, l3, l4, l5, l6, l7] [(0, 1), v0, v1] S h n) ∧
  (∀ (d : Nat) (b a : Int) (l0 l1 l2 l3 l4 l5 l6 l7 : Option mx_V) (v2 : mx_V) (S h : mx_H) (n : Int), mx_ex d 131 140 [l0, l1, l2, l3, l4, l5, l6, l7] [(0, b), (0, a), v2] S h n = mx_ex d 131 141 [l0, l1, l2, l3, l4, l5, l6, l7] [(0, mx_w (a + b)), v2] S h n) ∧
  (∀ (d : Nat) (v a : Int) (l0 l1 l2 l3 l4 l5 l6 l7 : Option mx_V) (S h : mx_H) (n : Int), mx_ex d 131 141 [l0, l1, l2, l3, l4, l5, l6, l7] [(0, v), (2, a)] S h n = mx_gd (8 ≤ S a (-2) ∧ S a (-2) ≤ 8) d 131 144 [l0, l1, l2, l3, l4, l5, l6, l7] [] S (mx_u h a 5 v) n) ∧
  (∀ (d : Nat) (x : Int) (l0 l1 l2 l3 l5 l6 l7 : Option mx_V) (S h : mx_H) (n : Int), mx_ex d 131 144 [l0, l1, l2, l3, some (0, x), l5, l6, l7] [] S h n = mx_ex d 131 146 [l0, l1, l2, l3, some (0, x), l5, l6, l7] [(0, x)] S h n) ∧
  (∀ (d : Nat) (x : Int) (l0 l1 l2 l3 l4 l5 l6 l7 : Option mx_V) (S h : mx_H) (n : Int), mx_ex d 131 146 [l0, l1, l2, l3, l4, l5, l6, l7] [(0, x)] S h n = some (some (0, x), S, h, n)) :=
  ⟨by intros; exact eq_push rfl,
   by intros; exact eq_i2 (o := mx_add) rfl,
   by intros; exact eq_pi rfl,
   by intros; exact eq_ld rfl rfl,
   by intros; exact eq_ret rfl⟩
theorem rw_X11_sheet :
  (∀ (d : Nat) (a0 a1 a2 a3 : Int) (S h : mx_H) (n : Int), mx_M d 132 [(2, a0), (0, a1), (0, a2), (0, a3)] S h n = mx_ex d 132 0 [some (2, a0), some (0, a1), some (0, a2), some (0, a3)] [] S h n) ∧
  (∀ (d : Nat) (x : Int) (l0 l2 l3 : Option mx_V) (S h : mx_H) (n : Int), mx_ex d 132 0 [l0, some (0, x), l2, l3] [] S h n = mx_ex d 132 1 [l0, some (0, x), l2, l3] [(0, x)] S h n) ∧
  (∀ (d : Nat) (x0 : Int) (l0 l1 l2 l3 : Option mx_V) (S h : mx_H) (n : Int), mx_ex (d + 1) 132 1 [l0, l1, l2, l3] [(0, x0)] S h n = mx_rt (mx_M d 148 [(0, x0)] S h n) (d + 1) 132 4 [l0, l1, l2, l3] []) ∧
  (∀ (d : Nat) (a : Int) (l0 l1 l2 l3 : Option mx_V) (S h : mx_H) (n : Int), mx_ex d 132 4 [l0, l1, l2, l3] [(0, a)] S h n = mx_br (a = 0) d 132 16 7 [l0, l1, l2, l3] [] S h n) ∧
  (∀ (d : Nat) (x : Int) (l0 l1 l3 : Option mx_V) (S h : mx_H) (n : Int), mx_ex d 132 7 [l0, l1, some (0, x), l3] [] S h n = mx_ex d 132 8 [l0, l1, some (0, x), l3] [(0, x)] S h n) ∧
  (∀ (d : Nat) (l0 l1 l2 l3 : Option mx_V) (v0 : mx_V) (S h : mx_H) (n : Int), mx_ex d 132 8 [l0, l1, l2, l3] [v0] S h n = mx_ex d 132 9 [l0, l1, l2, l3] [(0, (-1)), v0] S h n) ∧
  (∀ (d : Nat) (l0 l1 l2 l3 : Option mx_V) (v0 v1 : mx_V) (S h : mx_H) (n : Int), mx_ex d 132 9 [l0, l1, l2, l3] [v0, v1] S h n = mx_ex d 132 10 [l0, l1, l2, l3] [(0, 3), v0, v1] S h n) ∧
  (∀ (d : Nat) (x0 x1 x2 : Int) (l0 l1 l2 l3 : Option mx_V) (S h : mx_H) (n : Int), mx_ex (d + 1) 132 10 [l0, l1, l2, l3] [(0, x0), (0, x1), (0, x2)] S h n = mx_rt (mx_M d 145 [(0, x2), (0, x1), (0, x0)] S h n) (d + 1) 132 13 [l0, l1, l2, l3] []) ∧
  (∀ (d : Nat) (a : Int) (l0 l1 l2 l3 : Option mx_V) (S h : mx_H) (n : Int), mx_ex d 132 13 [l0, l1, l2, l3] [(0, a)] S h n = mx_br (a = 0) d 132 16 18 [l0, l1, l2, l3] [] S h n) ∧
  (∀ (d : Nat) (l0 l1 l2 l3 : Option mx_V) (S h : mx_H) (n : Int), mx_ex d 132 16 [l0, l1, l2, l3] [] S h n = mx_ex d 132 17 [l0, l1, l2, l3] [(0, (-1))] S h n) ∧
  (∀ (d : Nat) (x : Int) (l0 l1 l2 l3 : Option mx_V) (S h : mx_H) (n : Int), mx_ex d 132 17 [l0, l1, l2, l3] [(0, x)] S h n = some (some (0, x), S, h, n)) ∧
  (∀ (d : Nat) (x : Int) (l0 l1 l3 : Option mx_V) (S h : mx_H) (n : Int), mx_ex d 132 18 [l0, l1, some (0, x), l3] [] S h n = mx_ex d 132 19 [l0, l1, some (0, x), l3] [(0, x)] S h n) ∧
  (∀ (d : Nat) (l0 l1 l2 l3 : Option mx_V) (v0 : mx_V) (S h : mx_H) (n : Int), mx_ex d 132 19 [l0, l1, l2, l3] [v0] S h n = mx_ex d 132 20 [l0, l1, l2, l3] [(0, (-1)), v0] S h n) ∧
  (∀ (d : Nat) (b a : Int) (l0 l1 l2 l3 : Option mx_V) (S h : mx_H) (n : Int), mx_ex d 132 20 [l0, l1, l2, l3] [(0, b), (0, a)] S h n = mx_br (a = b) d 132 23 32 [l0, l1, l2, l3] [] S h n) ∧
  (∀ (d : Nat) (x : Int) (l1 l2 l3 : Option mx_V) (S h : mx_H) (n : Int), mx_ex d 132 23 [some (2, x), l1, l2, l3] [] S h n = mx_ex d 132 24 [some (2, x), l1, l2, l3] [(2, x)] S h n) ∧
  (∀ (d : Nat) (a : Int) (l0 l1 l2 l3 : Option mx_V) (S h : mx_H) (n : Int), mx_ex d 132 24 [l0, l1, l2, l3] [(2, a)] S h n = mx_gd (7 ≤ S a (-2) ∧ S a (-2) ≤ 7) d 132 27 [l0, l1, l2, l3] [(2, S a 12)] S h n) ∧
  (∀ (d : Nat) (x : Int) (l0 l2 l3 : Option mx_V) (v0 : mx_V) (S h : mx_H) (n : Int), mx_ex d 132 27 [l0, some (0, x), l2, l3] [v0] S h n = mx_ex d 132 28 [l0, some (0, x), l2, l3] [(0, x), v0] S h n) ∧
  (∀ (d : Nat) (l0 l1 l2 l3 : Option mx_V) (v0 v1 : mx_V) (S h : mx_H) (n : Int), mx_ex d 132 28 [l0, l1, l2, l3] [v0, v1] S h n = mx_ex d 132 29 [l0, l1, l2, l3] [(2, (-1)), v0, v1] S h n) ∧
  (∀ (d : Nat) (v i a : Int) (l0 l1 l2 l3 : Option mx_V) (S h : mx_H) (n : Int), mx_ex d 132 29 [l0, l1, l2, l3] [(2, v), (0, i), (2, a)] S h n = mx_gd (S a (-2) = 23 ∧ 0 ≤ i ∧ i < S a (-1) ∧ (v = -1 ∨ 12 ≤ S v (-2) ∧ S v (-2) ≤ 12)) d 132 30 [l0, l1, l2, l3] [] (mx_u S a i v) h n) ∧
  (∀ (d : Nat) (l0 l1 l2 l3 : Option mx_V) (S h : mx_H) (n : Int), mx_ex d 132 30 [l0, l1, l2, l3] [] S h n = mx_ex d 132 31 [l0, l1, l2, l3] [(0, 1)] S h n) ∧
  (∀ (d : Nat) (x : Int) (l0 l1 l2 l3 : Option mx_V) (S h : mx_H) (n : Int), mx_ex d 132 31 [l0, l1, l2, l3] [(0, x)] S h n = some (some (0, x), S, h, n)) ∧
  (∀ (d : Nat) (x : Int) (l0 l1 l2 : Option mx_V) (S h : mx_H) (n : Int), mx_ex d 132 32 [l0, l1, l2, some (0, x)] [] S h n = mx_ex d 132 33 [l0, l1, l2, some (0, x)] [(0, x)] S h n) ∧
  (∀ (d : Nat) (l0 l1 l2 l3 : Option mx_V) (v0 : mx_V) (S h : mx_H) (n : Int), mx_ex d 132 33 [l0, l1, l2, l3] [v0] S h n = mx_ex d 132 35 [l0, l1, l2, l3] [(0, 40), v0] S h n) ∧
  (∀ (d : Nat) (b a : Int) (l0 l1 l2 l3 : Option mx_V) (S h : mx_H) (n : Int), mx_ex d 132 35 [l0, l1, l2, l3] [(0, b), (0, a)] S h n = mx_br (b < a) d 132 38 40 [l0, l1, l2, l3] [] S h n) ∧
  (∀ (d : Nat) (l0 l1 l2 l3 : Option mx_V) (S h : mx_H) (n : Int), mx_ex d 132 38 [l0, l1, l2, l3] [] S h n = mx_ex d 132 39 [l0, l1, l2, l3] [(0, (-1))] S h n) ∧
  (∀ (d : Nat) (x : Int) (l0 l1 l2 l3 : Option mx_V) (S h : mx_H) (n : Int), mx_ex d 132 39 [l0, l1, l2, l3] [(0, x)] S h n = some (some (0, x), S, h, n)) ∧
  (∀ (d : Nat) (x : Int) (l0 l1 l2 : Option mx_V) (S h : mx_H) (n : Int), mx_ex d 132 40 [l0, l1, l2, some (0, x)] [] S h n = mx_ex d 132 41 [l0, l1, l2, some (0, x)] [(0, x)] S h n) ∧
  (∀ (d : Nat) (a : Int) (l0 l1 l2 l3 : Option mx_V) (S h : mx_H) (n : Int), mx_ex d 132 41 [l0, l1, l2, l3] [(0, a)] S h n = mx_br (a < 0) d 132 44 47 [l0, l1, l2, l3] [] S h n) ∧
  (∀ (d : Nat) (l0 l1 l2 l3 : Option mx_V) (S h : mx_H) (n : Int), mx_ex d 132 44 [l0, l1, l2, l3] [] S h n = mx_ex d 132 46 [l0, l1, l2, l3] [(0, (-14))] S h n) ∧
  (∀ (d : Nat) (x : Int) (l0 l1 l2 l3 : Option mx_V) (S h : mx_H) (n : Int), mx_ex d 132 46 [l0, l1, l2, l3] [(0, x)] S h n = some (some (0, x), S, h, n)) ∧
  (∀ (d : Nat) (x : Int) (l1 l2 l3 : Option mx_V) (S h : mx_H) (n : Int), mx_ex d 132 47 [some (2, x), l1, l2, l3] [] S h n = mx_ex d 132 48 [some (2, x), l1, l2, l3] [(2, x)] S h n) ∧
  (∀ (d : Nat) (a : Int) (l0 l1 l2 l3 : Option mx_V) (S h : mx_H) (n : Int), mx_ex d 132 48 [l0, l1, l2, l3] [(2, a)] S h n = mx_gd (7 ≤ S a (-2) ∧ S a (-2) ≤ 7) d 132 51 [l0, l1, l2, l3] [(2, S a 12)] S h n) ∧
  (∀ (d : Nat) (x : Int) (l0 l2 l3 : Option mx_V) (v0 : mx_V) (S h : mx_H) (n : Int), mx_ex d 132 51 [l0, some (0, x), l2, l3] [v0] S h n = mx_ex d 132 52 [l0, some (0, x), l2, l3] [(0, x), v0] S h n) ∧
  (∀ (d : Nat) (l0 l1 l2 l3 : Option mx_V) (v0 v1 : mx_V) (S h : mx_H) (n : Int), mx_ex d 132 52 [l0, l1, l2, l3] [v0, v1] S h n = mx_ex d 132 55 [l0, l1, l2, l3] [(2, n), v0, v1] (mx_t S n 12 0) (mx_z h n) (n + 1)) ∧
  (∀ (d : Nat) (a : Int) (l0 l1 l2 l3 : Option mx_V) (v1 v2 : mx_V) (S h : mx_H) (n : Int), mx_ex d 132 55 [l0, l1, l2, l3] [(2, a), v1, v2] S h n = mx_ex d 132 56 [l0, l1, l2, l3] [(2, a), (2, a), v1, v2] S h n) ∧
  (∀ (d : Nat) (x : Int) (l0 l1 l3 : Option mx_V) (v0 v1 v2 v3 : mx_V) (S h : mx_H) (n : Int), mx_ex d 132 56 [l0, l1, some (0, x), l3] [v0, v1, v2, v3] S h n = mx_ex d 132 57 [l0, l1, some (0, x), l3] [(0, x), v0, v1, v2, v3] S h n) ∧
  (∀ (d : Nat) (x : Int) (l0 l1 l2 : Option mx_V) (v0 v1 v2 v3 v4 : mx_V) (S h : mx_H) (n : Int), mx_ex d 132 57 [l0, l1, l2, some (0, x)] [v0, v1, v2, v3, v4] S h n = mx_ex d 132 58 [l0, l1, l2, some (0, x)] [(0, x), v0, v1, v2, v3, v4] S h n) ∧
  (∀ (d : Nat) (x0 x1 a : Int) (l0 l1 l2 l3 : Option mx_V) (v3 v4 v5 : mx_V) (S h : mx_H) (n : Int), mx_ex (d + 1) 132 58 [l0, l1, l2, l3] [(0, x0), (0, x1), (2, a), v3, v4, v5] S h n = mx_cl (12 ≤ S a (-2) ∧ S a (-2) ≤ 12) d 52 [(2, a), (0, x1), (0, x0)] 132 61 [l0, l1, l2, l3] [v3, v4, v5] S h n) ∧
  (∀ (d : Nat) (v i a : Int) (l0 l1 l2 l3 : Option mx_V) (S h : mx_H) (n : Int), mx_ex d 132 61 [l0, l1, l2, l3] [(2, v), (0, i), (2, a)] S h n = mx_gd (S a (-2) = 23 ∧ 0 ≤ i ∧ i < S a (-1) ∧ (v = -1 ∨ 12 ≤ S v (-2) ∧ S v (-2) ≤ 12)) d 132 62 [l0, l1, l2, l3] [] (mx_u S a i v) h n) ∧
  (∀ (d : Nat) (l0 l1 l2 l3 : Option mx_V) (S h : mx_H) (n : Int), mx_ex d 132 62 [l0, l1, l2, l3] [] S h n = mx_ex d 132 63 [l0, l1, l2, l3] [(0, 1)] S h n) ∧
  (∀ (d : Nat) (x : Int) (l0 l1 l2 l3 : Option mx_V) (S h : mx_H) (n : Int), mx_ex d 132 63 [l0, l1, l2, l3] [(0, x)] S h n = some (some (0, x), S, h, n)) :=
  ⟨by intros; exact rfl,
   by intros; exact eq_ld rfl rfl,
   by intros; exact eq_cs rfl (Nat.le_of_ble_eq_true rfl) rfl rfl rfl (Nat.le_of_ble_eq_true rfl),
   by intros; exact eq_if0 rfl,
   by intros; exact eq_ld rfl rfl,
   by intros; exact eq_push rfl,
   by intros; exact eq_push rfl,
   by intros; exact eq_cs rfl (Nat.le_of_ble_eq_true rfl) rfl rfl rfl (Nat.le_of_ble_eq_true rfl),
   by intros; exact eq_if1 rfl,
   by intros; exact eq_push rfl,
   by intros; exact eq_ret rfl,
   by intros; exact eq_ld rfl rfl,
   by intros; exact eq_push rfl,
   by intros; exact eq_ic1 rfl,
   by intros; exact eq_ld rfl rfl,
   by intros; exact eq_gr rfl,
   by intros; exact eq_ld rfl rfl,
   by intros; exact eq_push rfl,
   by intros; exact eq_aast rfl,
   by intros; exact eq_push rfl,
   by intros; exact eq_ret rfl,
   by intros; exact eq_ld rfl rfl,
   by intros; exact eq_push rfl,
   by intros; exact eq_ic5 rfl,
   by intros; exact eq_push rfl,
   by intros; exact eq_ret rfl,
   by intros; exact eq_ld rfl rfl,
   by intros; exact eq_if3 rfl,
   by intros; exact eq_push rfl,
   by intros; exact eq_ret rfl,
   by intros; exact eq_ld rfl rfl,
   by intros; exact eq_gr rfl,
   by intros; exact eq_ld rfl rfl,
   by intros; exact eq_new rfl,
   by intros; exact eq_dup rfl (by decide),
   by intros; exact eq_ld rfl rfl,
   by intros; exact eq_ld rfl rfl,
   by intros; exact eq_ci rfl (Nat.le_of_ble_eq_true rfl) rfl rfl rfl (Nat.le_of_ble_eq_true rfl),
   by intros; exact eq_aast rfl,
   by intros; exact eq_push rfl,
   by intros; exact eq_ret rfl⟩
theorem rw_X11_put :
  (∀ (d : Nat) (a0 a1 a2 a3 : Int) (S h : mx_H) (n : Int), mx_M d 133 [(2, a0), (0, a1), (0, a2), (0, a3)] S h n = mx_ex d 133 0 [some (2, a0), some (0, a1), some (0, a2), some (0, a3), none] [] S h n) ∧
  (∀ (d : Nat) (x : Int) (l0 l2 l3 l4 : Option mx_V) (S h : mx_H) (n : Int), mx_ex d 133 0 [l0, some (0, x), l2, l3, l4] [] S h n = mx_ex d 133 1 [l0, some (0, x), l2, l3, l4] [(0, x)] S h n) ∧
  (∀ (d : Nat) (x0 : Int) (l0 l1 l2 l3 l4 : Option mx_V) (S h : mx_H) (n : Int), mx_ex (d + 1) 133 1 [l0, l1, l2, l3, l4] [(0, x0)] S h n = mx_rt (mx_M d 148 [(0, x0)] S h n) (d + 1) 133 4 [l0, l1, l2, l3, l4] []) ∧
  (∀ (d : Nat) (a : Int) (l0 l1 l2 l3 l4 : Option mx_V) (S h : mx_H) (n : Int), mx_ex d 133 4 [l0, l1, l2, l3, l4] [(0, a)] S h n = mx_br (a = 0) d 133 7 9 [l0, l1, l2, l3, l4] [] S h n) ∧
  (∀ (d : Nat) (l0 l1 l2 l3 l4 : Option mx_V) (S h : mx_H) (n : Int), mx_ex d 133 7 [l0, l1, l2, l3, l4] [] S h n = mx_ex d 133 8 [l0, l1, l2, l3, l4] [(0, (-1))] S h n) ∧
  (∀ (d : Nat) (x : Int) (l0 l1 l2 l3 l4 : Option mx_V) (S h : mx_H) (n : Int), mx_ex d 133 8 [l0, l1, l2, l3, l4] [(0, x)] S h n = some (some (0, x), S, h, n)) ∧
  (∀ (d : Nat) (x : Int) (l1 l2 l3 l4 : Option mx_V) (S h : mx_H) (n : Int), mx_ex d 133 9 [some (2, x), l1, l2, l3, l4] [] S h n = mx_ex d 133 10 [some (2, x), l1, l2, l3, l4] [(2, x)] S h n) ∧
  (∀ (d : Nat) (a : Int) (l0 l1 l2 l3 l4 : Option mx_V) (S h : mx_H) (n : Int), mx_ex d 133 10 [l0, l1, l2, l3, l4] [(2, a)] S h n = mx_gd (7 ≤ S a (-2) ∧ S a (-2) ≤ 7) d 133 13 [l0, l1, l2, l3, l4] [(2, S a 12)] S h n) ∧
  (∀ (d : Nat) (x : Int) (l0 l2 l3 l4 : Option mx_V) (v0 : mx_V) (S h : mx_H) (n : Int), mx_ex d 133 13 [l0, some (0, x), l2, l3, l4] [v0] S h n = mx_ex d 133 14 [l0, some (0, x), l2, l3, l4] [(0, x), v0] S h n) ∧
  (∀ (d : Nat) (i a : Int) (l0 l1 l2 l3 l4 : Option mx_V) (S h : mx_H) (n : Int), mx_ex d 133 14 [l0, l1, l2, l3, l4] [(0, i), (2, a)] S h n = mx_gd (S a (-2) = 23 ∧ 0 ≤ i ∧ i < S a (-1)) d 133 15 [l0, l1, l2, l3, l4] [(2, S a i)] S h n) ∧
  (∀ (d : Nat) (x : Int) (l0 l1 l2 l3 l4 : Option mx_V) (S h : mx_H) (n : Int), mx_ex d 133 15 [l0, l1, l2, l3, l4] [(2, x)] S h n = mx_ex d 133 17 [l0, l1, l2, mx_nl l3, some (2, x)] [] S h n) ∧
  (∀ (d : Nat) (x : Int) (l0 l1 l2 l3 : Option mx_V) (S h : mx_H) (n : Int), mx_ex d 133 17 [l0, l1, l2, l3, some (2, x)] [] S h n = mx_ex d 133 19 [l0, l1, l2, l3, some (2, x)] [(2, x)] S h n) ∧
  (∀ (d : Nat) (a : Int) (l0 l1 l2 l3 l4 : Option mx_V) (S h : mx_H) (n : Int), mx_ex d 133 19 [l0, l1, l2, l3, l4] [(2, a)] S h n = mx_br (a = -1) d 133 22 25 [l0, l1, l2, l3, l4] [] S h n) ∧
  (∀ (d : Nat) (l0 l1 l2 l3 l4 : Option mx_V) (S h : mx_H) (n : Int), mx_ex d 133 22 [l0, l1, l2, l3, l4] [] S h n = mx_ex d 133 24 [l0, l1, l2, l3, l4] [(0, (-11))] S h n) ∧
  (∀ (d : Nat) (x : Int) (l0 l1 l2 l3 l4 : Option mx_V) (S h : mx_H) (n : Int), mx_ex d 133 24 [l0, l1, l2, l3, l4] [(0, x)] S h n = some (some (0, x), S, h, n)) ∧
  (∀ (d : Nat) (x : Int) (l0 l1 l3 l4 : Option mx_V) (S h : mx_H) (n : Int), mx_ex d 133 25 [l0, l1, some (0, x), l3, l4] [] S h n = mx_ex d 133 26 [l0, l1, some (0, x), l3, l4] [(0, x)] S h n) ∧
  (∀ (d : Nat) (l0 l1 l2 l3 l4 : Option mx_V) (v0 : mx_V) (S h : mx_H) (n : Int), mx_ex d 133 26 [l0, l1, l2, l3, l4] [v0] S h n = mx_ex d 133 27 [l0, l1, l2, l3, l4] [(0, 0), v0] S h n) ∧
  (∀ (d : Nat) (x : Int) (l0 l1 l2 l3 : Option mx_V) (v0 v1 : mx_V) (S h : mx_H) (n : Int), mx_ex d 133 27 [l0, l1, l2, l3, some (2, x)] [v0, v1] S h n = mx_ex d 133 29 [l0, l1, l2, l3, some (2, x)] [(2, x), v0, v1] S h n) ∧
  (∀ (d : Nat) (a : Int) (l0 l1 l2 l3 l4 : Option mx_V) (v1 v2 : mx_V) (S h : mx_H) (n : Int), mx_ex d 133 29 [l0, l1, l2, l3, l4] [(2, a), v1, v2] S h n = mx_gd (12 ≤ S a (-2) ∧ S a (-2) ≤ 12) d 133 32 [l0, l1, l2, l3, l4] [(2, S a 1), v1, v2] S h n) ∧
  (∀ (d : Nat) (a : Int) (l0 l1 l2 l3 l4 : Option mx_V) (v1 v2 : mx_V) (S h : mx_H) (n : Int), mx_ex d 133 32 [l0, l1, l2, l3, l4] [(2, a), v1, v2] S h n = mx_gd (20 ≤ S a (-2) ∧ S a (-2) ≤ 25) d 133 33 [l0, l1, l2, l3, l4] [(0, S a (-1)), v1, v2] S h n) ∧
  (∀ (d : Nat) (l0 l1 l2 l3 l4 : Option mx_V) (v0 v1 v2 : mx_V) (S h : mx_H) (n : Int), mx_ex d 133 33 [l0, l1, l2, l3, l4] [v0, v1, v2] S h n = mx_ex d 133 34 [l0, l1, l2, l3, l4] [(0, 1), v0, v1, v2] S h n) ∧
  (∀ (d : Nat) (b a : Int) (l0 l1 l2 l3 l4 : Option mx_V) (v2 v3 : mx_V) (S h : mx_H) (n : Int), mx_ex d 133 34 [l0, l1, l2, l3, l4] [(0, b), (0, a), v2, v3] S h n = mx_ex d 133 35 [l0, l1, l2, l3, l4] [(0, mx_w (a - b)), v2, v3] S h n) ∧
  (∀ (d : Nat) (x0 x1 x2 : Int) (l0 l1 l2 l3 l4 : Option mx_V) (S h : mx_H) (n : Int), mx_ex (d + 1) 133 35 [l0, l1, l2, l3, l4] [(0, x0), (0, x1), (0, x2)] S h n = mx_rt (mx_M d 145 [(0, x2), (0, x1), (0, x0)] S h n) (d + 1) 133 38 [l0, l1, l2, l3, l4] []) ∧
  (∀ (d : Nat) (a : Int) (l0 l1 l2 l3 l4 : Option mx_V) (S h : mx_H) (n : Int), mx_ex d 133 38 [l0, l1, l2, l3, l4] [(0, a)] S h n = mx_br (a = 0) d 133 41 44 [l0, l1, l2, l3, l4] [] S h n) ∧
  (∀ (d : Nat) (l0 l1 l2 l3 l4 : Option mx_V) (S h : mx_H) (n : Int), mx_ex d 133 41 [l0, l1, l2, l3, l4] [] S h n = mx_ex d 133 43 [l0, l1, l2, l3, l4] [(0, (-12))] S h n) ∧
  (∀ (d : Nat) (x : Int) (l0 l1 l2 l3 l4 : Option mx_V) (S h : mx_H) (n : Int), mx_ex d 133 43 [l0, l1, l2, l3, l4] [(0, x)] S h n = some (some (0, x), S, h, n)) ∧
  (∀ (d : Nat) (x : Int) (l0 l1 l2 l3 : Option mx_V) (S h : mx_H) (n : Int), mx_ex d 133 44 [l0, l1, l2, l3, some (2, x)] [] S h n = mx_ex d 133 46 [l0, l1, l2, l3, some (2, x)] [(2, x)] S h n) ∧
  (∀ (d : Nat) (a : Int) (l0 l1 l2 l3 l4 : Option mx_V) (S h : mx_H) (n : Int), mx_ex d 133 46 [l0, l1, l2, l3, l4] [(2, a)] S h n = mx_gd (12 ≤ S a (-2) ∧ S a (-2) ≤ 12) d 133 49 [l0, l1, l2, l3, l4] [(2, S a 1)] S h n) ∧
  (∀ (d : Nat) (x : Int) (l0 l1 l3 l4 : Option mx_V) (v0 : mx_V) (S h : mx_H) (n : Int), mx_ex d 133 49 [l0, l1, some (0, x), l3, l4] [v0] S h n = mx_ex d 133 50 [l0, l1, some (0, x), l3, l4] [(0, x), v0] S h n) ∧
  (∀ (d : Nat) (x : Int) (l0 l1 l2 l3 : Option mx_V) (v0 v1 : mx_V) (S h : mx_H) (n : Int), mx_ex d 133 50 [l0, l1, l2, l3, some (2, x)] [v0, v1] S h n = mx_ex d 133 52 [l0, l1, l2, l3, some (2, x)] [(2, x), v0, v1] S h n) ∧
  (∀ (d : Nat) (x : Int) (l0 l1 l2 l4 : Option mx_V) (v0 v1 v2 : mx_V) (S h : mx_H) (n : Int), mx_ex d 133 52 [l0, l1, l2, some (0, x), l4] [v0, v1, v2] S h n = mx_ex d 133 53 [l0, l1, l2, some (0, x), l4] [(0, x), v0, v1, v2] S h n) ∧
  (∀ (d : Nat) (x0 a : Int) (l0 l1 l2 l3 l4 : Option mx_V) (v2 v3 : mx_V) (S h : mx_H) (n : Int), mx_ex (d + 1) 133 53 [l0, l1, l2, l3, l4] [(0, x0), (2, a), v2, v3] S h n = mx_cl (S a (-2) = 12) d 53 [(2, a), (0, x0)] 133 56 [l0, l1, l2, l3, l4] [v2, v3] S h n) ∧
  (∀ (d : Nat) (v i a : Int) (l0 l1 l2 l3 l4 : Option mx_V) (S h : mx_H) (n : Int), mx_ex d 133 56 [l0, l1, l2, l3, l4] [(1, v), (0, i), (2, a)] S h n = mx_gd (S a (-2) = 21 ∧ 0 ≤ i ∧ i < S a (-1)) d 133 57 [l0, l1, l2, l3, l4] [] S (mx_u h a i v) n) ∧
  (∀ (d : Nat) (l0 l1 l2 l3 l4 : Option mx_V) (S h : mx_H) (n : Int), mx_ex d 133 57 [l0, l1, l2, l3, l4] [] S h n = mx_ex d 133 58 [l0, l1, l2, l3, l4] [(0, 1)] S h n) ∧
  (∀ (d : Nat) (x : Int) (l0 l1 l2 l3 l4 : Option mx_V) (S h : mx_H) (n : Int), mx_ex d 133 58 [l0, l1, l2, l3, l4] [(0, x)] S h n = some (some (0, x), S, h, n)) :=
  ⟨by intros; exact rfl,
   by intros; exact eq_ld rfl rfl,
   by intros; exact eq_cs rfl (Nat.le_of_ble_eq_true rfl) rfl rfl rfl (Nat.le_of_ble_eq_true rfl),
   by intros; exact eq_if1 rfl,
   by intros; exact eq_push rfl,
   by intros; exact eq_ret rfl,
   by intros; exact eq_ld rfl rfl,
   by intros; exact eq_gr rfl,
   by intros; exact eq_ld rfl rfl,
   by intros; exact eq_aald rfl,
   by intros; exact eq_st rfl (by decide) (Nat.le_of_ble_eq_true rfl) rfl,
   by intros; exact eq_ld rfl rfl,
   by intros; exact eq_nul rfl,
   by intros; exact eq_push rfl,
   by intros; exact eq_ret rfl,
   by intros; exact eq_ld rfl rfl,
   by intros; exact eq_push rfl,
   by intros; exact eq_ld rfl rfl,
   by intros; exact eq_gr rfl,
   by intros; exact eq_alen rfl,
   by intros; exact eq_push rfl,
   by intros; exact eq_i2 (o := mx_sub) rfl,
   by intros; exact eq_cs rfl (Nat.le_of_ble_eq_true rfl) rfl rfl rfl (Nat.le_of_ble_eq_true rfl),
   by intros; exact eq_if1 rfl,
   by intros; exact eq_push rfl,
   by intros; exact eq_ret rfl,
   by intros; exact eq_ld rfl rfl,
   by intros; exact eq_gr rfl,
   by intros; exact eq_ld rfl rfl,
   by intros; exact eq_ld rfl rfl,
   by intros; exact eq_ld rfl rfl,
   by intros; exact eq_cv rfl (Nat.le_of_ble_eq_true rfl) rfl rfl rfl (Nat.le_of_ble_eq_true rfl),
   by intros; exact eq_last rfl,
   by intros; exact eq_push rfl,
   by intros; exact eq_ret rfl⟩
theorem rw_X11_item :
  (∀ (d : Nat) (a0 a1 a2 a3 : Int) (S h : mx_H) (n : Int), mx_M d 134 [(2, a0), (0, a1), (0, a2), (0, a3)] S h n = mx_ex d 134 0 [some (2, a0), some (0, a1), some (0, a2), some (0, a3), none] [] S h n) ∧
  (∀ (d : Nat) (x : Int) (l0 l2 l3 l4 : Option mx_V) (S h : mx_H) (n : Int), mx_ex d 134 0 [l0, some (0, x), l2, l3, l4] [] S h n = mx_ex d 134 1 [l0, some (0, x), l2, l3, l4] [(0, x)] S h n) ∧
  (∀ (d : Nat) (x0 : Int) (l0 l1 l2 l3 l4 : Option mx_V) (S h : mx_H) (n : Int), mx_ex (d + 1) 134 1 [l0, l1, l2, l3, l4] [(0, x0)] S h n = mx_rt (mx_M d 148 [(0, x0)] S h n) (d + 1) 134 4 [l0, l1, l2, l3, l4] []) ∧
  (∀ (d : Nat) (a : Int) (l0 l1 l2 l3 l4 : Option mx_V) (S h : mx_H) (n : Int), mx_ex d 134 4 [l0, l1, l2, l3, l4] [(0, a)] S h n = mx_br (a = 0) d 134 16 7 [l0, l1, l2, l3, l4] [] S h n) ∧
  (∀ (d : Nat) (x : Int) (l0 l1 l3 l4 : Option mx_V) (S h : mx_H) (n : Int), mx_ex d 134 7 [l0, l1, some (0, x), l3, l4] [] S h n = mx_ex d 134 8 [l0, l1, some (0, x), l3, l4] [(0, x)] S h n) ∧
  (∀ (d : Nat) (l0 l1 l2 l3 l4 : Option mx_V) (v0 : mx_V) (S h : mx_H) (n : Int), mx_ex d 134 8 [l0, l1, l2, l3, l4] [v0] S h n = mx_ex d 134 9 [l0, l1, l2, l3, l4] [(0, 0), v0] S h n) ∧
  (∀ (d : Nat) (l0 l1 l2 l3 l4 : Option mx_V) (v0 v1 : mx_V) (S h : mx_H) (n : Int), mx_ex d 134 9 [l0, l1, l2, l3, l4] [v0, v1] S h n = mx_ex d 134 10 [l0, l1, l2, l3, l4] [(0, 3), v0, v1] S h n) ∧
  (∀ (d : Nat) (x0 x1 x2 : Int) (l0 l1 l2 l3 l4 : Option mx_V) (S h : mx_H) (n : Int), mx_ex (d + 1) 134 10 [l0, l1, l2, l3, l4] [(0, x0), (0, x1), (0, x2)] S h n = mx_rt (mx_M d 145 [(0, x2), (0, x1), (0, x0)] S h n) (d + 1) 134 13 [l0, l1, l2, l3, l4] []) ∧
  (∀ (d : Nat) (a : Int) (l0 l1 l2 l3 l4 : Option mx_V) (S h : mx_H) (n : Int), mx_ex d 134 13 [l0, l1, l2, l3, l4] [(0, a)] S h n = mx_br (a = 0) d 134 16 18 [l0, l1, l2, l3, l4] [] S h n) ∧
  (∀ (d : Nat) (l0 l1 l2 l3 l4 : Option mx_V) (S h : mx_H) (n : Int), mx_ex d 134 16 [l0, l1, l2, l3, l4] [] S h n = mx_ex d 134 17 [l0, l1, l2, l3, l4] [(0, (-1))] S h n) ∧
  (∀ (d : Nat) (x : Int) (l0 l1 l2 l3 l4 : Option mx_V) (S h : mx_H) (n : Int), mx_ex d 134 17 [l0, l1, l2, l3, l4] [(0, x)] S h n = some (some (0, x), S, h, n)) ∧
  (∀ (d : Nat) (x : Int) (l1 l2 l3 l4 : Option mx_V) (S h : mx_H) (n : Int), mx_ex d 134 18 [some (2, x), l1, l2, l3, l4] [] S h n = mx_ex d 134 19 [some (2, x), l1, l2, l3, l4] [(2, x)] S h n) ∧
  (∀ (d : Nat) (a : Int) (l0 l1 l2 l3 l4 : Option mx_V) (S h : mx_H) (n : Int), mx_ex d 134 19 [l0, l1, l2, l3, l4] [(2, a)] S h n = mx_gd (7 ≤ S a (-2) ∧ S a (-2) ≤ 7) d 134 22 [l0, l1, l2, l3, l4] [(2, S a 12)] S h n) ∧
  (∀ (d : Nat) (x : Int) (l0 l2 l3 l4 : Option mx_V) (v0 : mx_V) (S h : mx_H) (n : Int), mx_ex d 134 22 [l0, some (0, x), l2, l3, l4] [v0] S h n = mx_ex d 134 23 [l0, some (0, x), l2, l3, l4] [(0, x), v0] S h n) ∧
  (∀ (d : Nat) (i a : Int) (l0 l1 l2 l3 l4 : Option mx_V) (S h : mx_H) (n : Int), mx_ex d 134 23 [l0, l1, l2, l3, l4] [(0, i), (2, a)] S h n = mx_gd (S a (-2) = 23 ∧ 0 ≤ i ∧ i < S a (-1)) d 134 24 [l0, l1, l2, l3, l4] [(2, S a i)] S h n) ∧
  (∀ (d : Nat) (x : Int) (l0 l1 l2 l3 l4 : Option mx_V) (S h : mx_H) (n : Int), mx_ex d 134 24 [l0, l1, l2, l3, l4] [(2, x)] S h n = mx_ex d 134 26 [l0, l1, l2, mx_nl l3, some (2, x)] [] S h n) ∧
  (∀ (d : Nat) (x : Int) (l0 l1 l2 l3 : Option mx_V) (S h : mx_H) (n : Int), mx_ex d 134 26 [l0, l1, l2, l3, some (2, x)] [] S h n = mx_ex d 134 28 [l0, l1, l2, l3, some (2, x)] [(2, x)] S h n) ∧
  (∀ (d : Nat) (a : Int) (l0 l1 l2 l3 l4 : Option mx_V) (S h : mx_H) (n : Int), mx_ex d 134 28 [l0, l1, l2, l3, l4] [(2, a)] S h n = mx_br (a = -1) d 134 31 34 [l0, l1, l2, l3, l4] [] S h n) ∧
  (∀ (d : Nat) (l0 l1 l2 l3 l4 : Option mx_V) (S h : mx_H) (n : Int), mx_ex d 134 31 [l0, l1, l2, l3, l4] [] S h n = mx_ex d 134 33 [l0, l1, l2, l3, l4] [(0, (-11))] S h n) ∧
  (∀ (d : Nat) (x : Int) (l0 l1 l2 l3 l4 : Option mx_V) (S h : mx_H) (n : Int), mx_ex d 134 33 [l0, l1, l2, l3, l4] [(0, x)] S h n = some (some (0, x), S, h, n)) ∧
  (∀ (d : Nat) (x : Int) (l0 l1 l2 l3 : Option mx_V) (S h : mx_H) (n : Int), mx_ex d 134 34 [l0, l1, l2, l3, some (2, x)] [] S h n = mx_ex d 134 36 [l0, l1, l2, l3, some (2, x)] [(2, x)] S h n) ∧
  (∀ (d : Nat) (a : Int) (l0 l1 l2 l3 l4 : Option mx_V) (S h : mx_H) (n : Int), mx_ex d 134 36 [l0, l1, l2, l3, l4] [(2, a)] S h n = mx_gd (12 ≤ S a (-2) ∧ S a (-2) ≤ 12) d 134 39 [l0, l1, l2, l3, l4] [(0, h a 0)] S h n) ∧
  (∀ (d : Nat) (x : Int) (l0 l1 l3 l4 : Option mx_V) (v0 : mx_V) (S h : mx_H) (n : Int), mx_ex d 134 39 [l0, l1, some (0, x), l3, l4] [v0] S h n = mx_ex d 134 40 [l0, l1, some (0, x), l3, l4] [(0, x), v0] S h n) ∧
  (∀ (d : Nat) (b a : Int) (l0 l1 l2 l3 l4 : Option mx_V) (S h : mx_H) (n : Int), mx_ex d 134 40 [l0, l1, l2, l3, l4] [(0, b), (0, a)] S h n = mx_br (a = b) d 134 46 43 [l0, l1, l2, l3, l4] [] S h n) ∧
  (∀ (d : Nat) (l0 l1 l2 l3 l4 : Option mx_V) (S h : mx_H) (n : Int), mx_ex d 134 43 [l0, l1, l2, l3, l4] [] S h n = mx_ex d 134 45 [l0, l1, l2, l3, l4] [(0, (-13))] S h n) ∧
  (∀ (d : Nat) (x : Int) (l0 l1 l2 l3 l4 : Option mx_V) (S h : mx_H) (n : Int), mx_ex d 134 45 [l0, l1, l2, l3, l4] [(0, x)] S h n = some (some (0, x), S, h, n)) ∧
  (∀ (d : Nat) (x : Int) (l0 l1 l2 l4 : Option mx_V) (S h : mx_H) (n : Int), mx_ex d 134 46 [l0, l1, l2, some (0, x), l4] [] S h n = mx_ex d 134 47 [l0, l1, l2, some (0, x), l4] [(0, x)] S h n) ∧
  (∀ (d : Nat) (l0 l1 l2 l3 l4 : Option mx_V) (v0 : mx_V) (S h : mx_H) (n : Int), mx_ex d 134 47 [l0, l1, l2, l3, l4] [v0] S h n = mx_ex d 134 48 [l0, l1, l2, l3, l4] [(0, 0), v0] S h n) ∧
  (∀ (d : Nat) (x : Int) (l0 l1 l2 l3 : Option mx_V) (v0 v1 : mx_V) (S h : mx_H) (n : Int), mx_ex d 134 48 [l0, l1, l2, l3, some (2, x)] [v0, v1] S h n = mx_ex d 134 50 [l0, l1, l2, l3, some (2, x)] [(2, x), v0, v1] S h n) ∧
  (∀ (d : Nat) (a : Int) (l0 l1 l2 l3 l4 : Option mx_V) (v1 v2 : mx_V) (S h : mx_H) (n : Int), mx_ex d 134 50 [l0, l1, l2, l3, l4] [(2, a), v1, v2] S h n = mx_gd (12 ≤ S a (-2) ∧ S a (-2) ≤ 12) d 134 53 [l0, l1, l2, l3, l4] [(2, S a 1), v1, v2] S h n) ∧
  (∀ (d : Nat) (a : Int) (l0 l1 l2 l3 l4 : Option mx_V) (v1 v2 : mx_V) (S h : mx_H) (n : Int), mx_ex d 134 53 [l0, l1, l2, l3, l4] [(2, a), v1, v2] S h n = mx_gd (20 ≤ S a (-2) ∧ S a (-2) ≤ 25) d 134 54 [l0, l1, l2, l3, l4] [(0, S a (-1)), v1, v2] S h n) ∧
  (∀ (d : Nat) (l0 l1 l2 l3 l4 : Option mx_V) (v0 v1 v2 : mx_V) (S h : mx_H) (n : Int), mx_ex d 134 54 [l0, l1, l2, l3, l4] [v0, v1, v2] S h n = mx_ex d 134 55 [l0, l1, l2, l3, l4] [(0, 1), v0, v1, v2] S h n) ∧
  (∀ (d : Nat) (b a : Int) (l0 l1 l2 l3 l4 : Option mx_V) (v2 v3 : mx_V) (S h : mx_H) (n : Int), mx_ex d 134 55 [l0, l1, l2, l3, l4] [(0, b), (0, a), v2, v3] S h n = mx_ex d 134 56 [l0, l1, l2, l3, l4] [(0, mx_w (a - b)), v2, v3] S h n) ∧
  (∀ (d : Nat) (x0 x1 x2 : Int) (l0 l1 l2 l3 l4 : Option mx_V) (S h : mx_H) (n : Int), mx_ex (d + 1) 134 56 [l0, l1, l2, l3, l4] [(0, x0), (0, x1), (0, x2)] S h n = mx_rt (mx_M d 145 [(0, x2), (0, x1), (0, x0)] S h n) (d + 1) 134 59 [l0, l1, l2, l3, l4] []) ∧
  (∀ (d : Nat) (a : Int) (l0 l1 l2 l3 l4 : Option mx_V) (S h : mx_H) (n : Int), mx_ex d 134 59 [l0, l1, l2, l3, l4] [(0, a)] S h n = mx_br (a = 0) d 134 62 65 [l0, l1, l2, l3, l4] [] S h n) ∧
  (∀ (d : Nat) (l0 l1 l2 l3 l4 : Option mx_V) (S h : mx_H) (n : Int), mx_ex d 134 62 [l0, l1, l2, l3, l4] [] S h n = mx_ex d 134 64 [l0, l1, l2, l3, l4] [(0, (-12))] S h n) ∧
  (∀ (d : Nat) (x : Int) (l0 l1 l2 l3 l4 : Option mx_V) (S h : mx_H) (n : Int), mx_ex d 134 64 [l0, l1, l2, l3, l4] [(0, x)] S h n = some (some (0, x), S, h, n)) ∧
  (∀ (d : Nat) (x : Int) (l0 l1 l2 l3 : Option mx_V) (S h : mx_H) (n : Int), mx_ex d 134 65 [l0, l1, l2, l3, some (2, x)] [] S h n = mx_ex d 134 67 [l0, l1, l2, l3, some (2, x)] [(2, x)] S h n) ∧
  (∀ (d : Nat) (a : Int) (l0 l1 l2 l3 l4 : Option mx_V) (S h : mx_H) (n : Int), mx_ex d 134 67 [l0, l1, l2, l3, l4] [(2, a)] S h n = mx_gd (12 ≤ S a (-2) ∧ S a (-2) ≤ 12) d 134 70 [l0, l1, l2, l3, l4] [(2, S a 1)] S h n) ∧
  (∀ (d : Nat) (x : Int) (l0 l1 l2 l4 : Option mx_V) (v0 : mx_V) (S h : mx_H) (n : Int), mx_ex d 134 70 [l0, l1, l2, some (0, x), l4] [v0] S h n = mx_ex d 134 71 [l0, l1, l2, some (0, x), l4] [(0, x), v0] S h n) ∧
  (∀ (d : Nat) (i a : Int) (l0 l1 l2 l3 l4 : Option mx_V) (S h : mx_H) (n : Int), mx_ex d 134 71 [l0, l1, l2, l3, l4] [(0, i), (2, a)] S h n = mx_gd (S a (-2) = 21 ∧ 0 ≤ i ∧ i < S a (-1)) d 134 72 [l0, l1, l2, l3, l4] [(1, h a i)] S h n) ∧
  (∀ (d : Nat) (a : Int) (l0 l1 l2 l3 l4 : Option mx_V) (S h : mx_H) (n : Int), mx_ex d 134 72 [l0, l1, l2, l3, l4] [(1, a)] S h n = mx_ex d 134 73 [l0, l1, l2, l3, l4] [(0, mx_w a)] S h n) ∧
  (∀ (d : Nat) (x : Int) (l0 l1 l2 l3 l4 : Option mx_V) (S h : mx_H) (n : Int), mx_ex d 134 73 [l0, l1, l2, l3, l4] [(0, x)] S h n = some (some (0, x), S, h, n)) :=
  ⟨by intros; exact rfl,
   by intros; exact eq_ld rfl rfl,
   by intros; exact eq_cs rfl (Nat.le_of_ble_eq_true rfl) rfl rfl rfl (Nat.le_of_ble_eq_true rfl),
   by intros; exact eq_if0 rfl,
   by intros; exact eq_ld rfl rfl,
   by intros; exact eq_push rfl,
   by intros; exact eq_push rfl,
   by intros; exact eq_cs rfl (Nat.le_of_ble_eq_true rfl) rfl rfl rfl (Nat.le_of_ble_eq_true rfl),
   by intros; exact eq_if1 rfl,
   by intros; exact eq_push rfl,
   by intros; exact eq_ret rfl,
   by intros; exact eq_ld rfl rfl,
   by intros; exact eq_gr rfl,
   by intros; exact eq_ld rfl rfl,
   by intros; exact eq_aald rfl,
   by intros; exact eq_st rfl (by decide) (Nat.le_of_ble_eq_true rfl) rfl,
   by intros; exact eq_ld rfl rfl,
   by intros; exact eq_nul rfl,
   by intros; exact eq_push rfl,
   by intros; exact eq_ret rfl,
   by intros; exact eq_ld rfl rfl,
   by intros; exact eq_gi rfl,
   by intros; exact eq_ld rfl rfl,
   by intros; exact eq_ic0 rfl,
   by intros; exact eq_push rfl,
   by intros; exact eq_ret rfl,
   by intros; exact eq_ld rfl rfl,
   by intros; exact eq_push rfl,
   by intros; exact eq_ld rfl rfl,
   by intros; exact eq_gr rfl,
   by intros; exact eq_alen rfl,
   by intros; exact eq_push rfl,
   by intros; exact eq_i2 (o := mx_sub) rfl,
   by intros; exact eq_cs rfl (Nat.le_of_ble_eq_true rfl) rfl rfl rfl (Nat.le_of_ble_eq_true rfl),
   by intros; exact eq_if1 rfl,
   by intros; exact eq_push rfl,
   by intros; exact eq_ret rfl,
   by intros; exact eq_ld rfl rfl,
   by intros; exact eq_gr rfl,
   by intros; exact eq_ld rfl rfl,
   by intros; exact eq_lald rfl,
   by intros; exact eq_l2i rfl,
   by intros; exact eq_ret rfl⟩
theorem rw_X11_shelf :
  (∀ (d : Nat) (a0 a1 a2 a3 : Int) (S h : mx_H) (n : Int), mx_M d 135 [(2, a0), (0, a1), (0, a2), (0, a3)] S h n = mx_ex d 135 0 [some (2, a0), some (0, a1), some (0, a2), some (0, a3)] [] S h n) ∧
  (∀ (d : Nat) (x : Int) (l0 l2 l3 : Option mx_V) (S h : mx_H) (n : Int), mx_ex d 135 0 [l0, some (0, x), l2, l3] [] S h n = mx_ex d 135 1 [l0, some (0, x), l2, l3] [(0, x)] S h n) ∧
  (∀ (d : Nat) (x0 : Int) (l0 l1 l2 l3 : Option mx_V) (S h : mx_H) (n : Int), mx_ex (d + 1) 135 1 [l0, l1, l2, l3] [(0, x0)] S h n = mx_rt (mx_M d 149 [(0, x0)] S h n) (d + 1) 135 4 [l0, l1, l2, l3] []) ∧
  (∀ (d : Nat) (a : Int) (l0 l1 l2 l3 : Option mx_V) (S h : mx_H) (n : Int), mx_ex d 135 4 [l0, l1, l2, l3] [(0, a)] S h n = mx_br (a = 0) d 135 7 9 [l0, l1, l2, l3] [] S h n) ∧
  (∀ (d : Nat) (l0 l1 l2 l3 : Option mx_V) (S h : mx_H) (n : Int), mx_ex d 135 7 [l0, l1, l2, l3] [] S h n = mx_ex d 135 8 [l0, l1, l2, l3] [(0, (-1))] S h n) ∧
  (∀ (d : Nat) (x : Int) (l0 l1 l2 l3 : Option mx_V) (S h : mx_H) (n : Int), mx_ex d 135 8 [l0, l1, l2, l3] [(0, x)] S h n = some (some (0, x), S, h, n)) ∧
  (∀ (d : Nat) (x : Int) (l0 l1 l3 : Option mx_V) (S h : mx_H) (n : Int), mx_ex d 135 9 [l0, l1, some (0, x), l3] [] S h n = mx_ex d 135 10 [l0, l1, some (0, x), l3] [(0, x)] S h n) ∧
  (∀ (d : Nat) (a : Int) (l0 l1 l2 l3 : Option mx_V) (S h : mx_H) (n : Int), mx_ex d 135 10 [l0, l1, l2, l3] [(0, a)] S h n = mx_sw a [(0, 36), (1, 66), (2, 90)] d 135 100 [l0, l1, l2, l3] [] S h n) ∧
  (∀ (d : Nat) (x : Int) (l1 l2 l3 : Option mx_V) (S h : mx_H) (n : Int), mx_ex d 135 36 [some (2, x), l1, l2, l3] [] S h n = mx_ex d 135 37 [some (2, x), l1, l2, l3] [(2, x)] S h n) ∧
  (∀ (d : Nat) (a : Int) (l0 l1 l2 l3 : Option mx_V) (S h : mx_H) (n : Int), mx_ex d 135 37 [l0, l1, l2, l3] [(2, a)] S h n = mx_gd (7 ≤ S a (-2) ∧ S a (-2) ≤ 7) d 135 40 [l0, l1, l2, l3] [(2, S a 3)] S h n) ∧
  (∀ (d : Nat) (x : Int) (l0 l1 l2 : Option mx_V) (v0 : mx_V) (S h : mx_H) (n : Int), mx_ex d 135 40 [l0, l1, l2, some (0, x)] [v0] S h n = mx_ex d 135 41 [l0, l1, l2, some (0, x)] [(0, x), v0] S h n) ∧
  (∀ (d : Nat) (x0 a : Int) (l0 l1 l2 l3 : Option mx_V) (S h : mx_H) (n : Int), mx_ex (d + 1) 135 41 [l0, l1, l2, l3] [(0, x0), (2, a)] S h n = mx_cl (S a (-2) = 8) d 90 [(2, a), (0, x0)] 135 44 [l0, l1, l2, l3] [] S h n) ∧
  (∀ (d : Nat) (a : Int) (l0 l1 l2 l3 : Option mx_V) (S h : mx_H) (n : Int), mx_ex d 135 44 [l0, l1, l2, l3] [(2, a)] S h n = mx_br (a = -1) d 135 47 49 [l0, l1, l2, l3] [] S h n) ∧
  (∀ (d : Nat) (l0 l1 l2 l3 : Option mx_V) (S h : mx_H) (n : Int), mx_ex d 135 47 [l0, l1, l2, l3] [] S h n = mx_ex d 135 48 [l0, l1, l2, l3] [(0, (-1))] S h n) ∧
  (∀ (d : Nat) (x : Int) (l0 l1 l2 l3 : Option mx_V) (S h : mx_H) (n : Int), mx_ex d 135 48 [l0, l1, l2, l3] [(0, x)] S h n = some (some (0, x), S, h, n)) ∧
  (∀ (d : Nat) (x : Int) (l1 l2 l3 : Option mx_V) (S h : mx_H) (n : Int), mx_ex d 135 49 [some (2, x), l1, l2, l3] [] S h n = mx_ex d 135 50 [some (2, x), l1, l2, l3] [(2, x)] S h n) ∧
  (∀ (d : Nat) (a : Int) (l0 l1 l2 l3 : Option mx_V) (S h : mx_H) (n : Int), mx_ex d 135 50 [l0, l1, l2, l3] [(2, a)] S h n = mx_gd (7 ≤ S a (-2) ∧ S a (-2) ≤ 7) d 135 53 [l0, l1, l2, l3] [(2, S a 14)] S h n) ∧
  (∀ (d : Nat) (x : Int) (l0 l2 l3 : Option mx_V) (v0 : mx_V) (S h : mx_H) (n : Int), mx_ex d 135 53 [l0, some (0, x), l2, l3] [v0] S h n = mx_ex d 135 54 [l0, some (0, x), l2, l3] [(0, x), v0] S h n) ∧
  (∀ (d : Nat) (x : Int) (l0 l1 l2 : Option mx_V) (v0 v1 : mx_V) (S h : mx_H) (n : Int), mx_ex d 135 54 [l0, l1, l2, some (0, x)] [v0, v1] S h n = mx_ex d 135 55 [l0, l1, l2, some (0, x)] [(0, x), v0, v1] S h n) ∧
  (∀ (d : Nat) (v i a : Int) (l0 l1 l2 l3 : Option mx_V) (S h : mx_H) (n : Int), mx_ex d 135 55 [l0, l1, l2, l3] [(0, v), (0, i), (2, a)] S h n = mx_gd (S a (-2) = 20 ∧ 0 ≤ i ∧ i < S a (-1)) d 135 56 [l0, l1, l2, l3] [] S (mx_u h a i v) n) ∧
  (∀ (d : Nat) (x : Int) (l1 l2 l3 : Option mx_V) (S h : mx_H) (n : Int), mx_ex d 135 56 [some (2, x), l1, l2, l3] [] S h n = mx_ex d 135 57 [some (2, x), l1, l2, l3] [(2, x)] S h n) ∧
  (∀ (d : Nat) (a : Int) (l0 l1 l2 l3 : Option mx_V) (S h : mx_H) (n : Int), mx_ex d 135 57 [l0, l1, l2, l3] [(2, a)] S h n = mx_gd (7 ≤ S a (-2) ∧ S a (-2) ≤ 7) d 135 60 [l0, l1, l2, l3] [(2, S a 15)] S h n) ∧
  (∀ (d : Nat) (x : Int) (l0 l2 l3 : Option mx_V) (v0 : mx_V) (S h : mx_H) (n : Int), mx_ex d 135 60 [l0, some (0, x), l2, l3] [v0] S h n = mx_ex d 135 61 [l0, some (0, x), l2, l3] [(0, x), v0] S h n) ∧
  (∀ (d : Nat) (l0 l1 l2 l3 : Option mx_V) (v0 v1 : mx_V) (S h : mx_H) (n : Int), mx_ex d 135 61 [l0, l1, l2, l3] [v0, v1] S h n = mx_ex d 135 62 [l0, l1, l2, l3] [(2, (-1)), v0, v1] S h n) ∧
  (∀ (d : Nat) (v i a : Int) (l0 l1 l2 l3 : Option mx_V) (S h : mx_H) (n : Int), mx_ex d 135 62 [l0, l1, l2, l3] [(2, v), (0, i), (2, a)] S h n = mx_gd (S a (-2) = 23 ∧ 0 ≤ i ∧ i < S a (-1) ∧ (v = -1 ∨ 12 ≤ S v (-2) ∧ S v (-2) ≤ 12)) d 135 63 [l0, l1, l2, l3] [] (mx_u S a i v) h n) ∧
  (∀ (d : Nat) (l0 l1 l2 l3 : Option mx_V) (S h : mx_H) (n : Int), mx_ex d 135 63 [l0, l1, l2, l3] [] S h n = mx_ex d 135 102 [l0, l1, l2, l3] [] S h n) ∧
  (∀ (d : Nat) (x : Int) (l0 l1 l2 : Option mx_V) (S h : mx_H) (n : Int), mx_ex d 135 66 [l0, l1, l2, some (0, x)] [] S h n = mx_ex d 135 67 [l0, l1, l2, some (0, x)] [(0, x)] S h n) ∧
  (∀ (d : Nat) (x0 : Int) (l0 l1 l2 l3 : Option mx_V) (S h : mx_H) (n : Int), mx_ex (d + 1) 135 67 [l0, l1, l2, l3] [(0, x0)] S h n = mx_rt (mx_M d 148 [(0, x0)] S h n) (d + 1) 135 70 [l0, l1, l2, l3] []) ∧
  (∀ (d : Nat) (a : Int) (l0 l1 l2 l3 : Option mx_V) (S h : mx_H) (n : Int), mx_ex d 135 70 [l0, l1, l2, l3] [(0, a)] S h n = mx_br (a = 0) d 135 73 75 [l0, l1, l2, l3] [] S h n) ∧
  (∀ (d : Nat) (l0 l1 l2 l3 : Option mx_V) (S h : mx_H) (n : Int), mx_ex d 135 73 [l0, l1, l2, l3] [] S h n = mx_ex d 135 74 [l0, l1, l2, l3] [(0, (-1))] S h n) ∧
  (∀ (d : Nat) (x : Int) (l0 l1 l2 l3 : Option mx_V) (S h : mx_H) (n : Int), mx_ex d 135 74 [l0, l1, l2, l3] [(0, x)] S h n = some (some (0, x), S, h, n)) ∧
  (∀ (d : Nat) (x : Int) (l1 l2 l3 : Option mx_V) (S h : mx_H) (n : Int), mx_ex d 135 75 [some (2, x), l1, l2, l3] [] S h n = mx_ex d 135 76 [some (2, x), l1, l2, l3] [(2, x)] S h n) ∧
  (∀ (d : Nat) (a : Int) (l0 l1 l2 l3 : Option mx_V) (S h : mx_H) (n : Int), mx_ex d 135 76 [l0, l1, l2, l3] [(2, a)] S h n = mx_gd (7 ≤ S a (-2) ∧ S a (-2) ≤ 7) d 135 79 [l0, l1, l2, l3] [(2, S a 15)] S h n) ∧
  (∀ (d : Nat) (x : Int) (l0 l2 l3 : Option mx_V) (v0 : mx_V) (S h : mx_H) (n : Int), mx_ex d 135 79 [l0, some (0, x), l2, l3] [v0] S h n = mx_ex d 135 80 [l0, some (0, x), l2, l3] [(0, x), v0] S h n) ∧
  (∀ (d : Nat) (x : Int) (l1 l2 l3 : Option mx_V) (v0 v1 : mx_V) (S h : mx_H) (n : Int), mx_ex d 135 80 [some (2, x), l1, l2, l3] [v0, v1] S h n = mx_ex d 135 81 [some (2, x), l1, l2, l3] [(2, x), v0, v1] S h n) ∧
  (∀ (d : Nat) (a : Int) (l0 l1 l2 l3 : Option mx_V) (v1 v2 : mx_V) (S h : mx_H) (n : Int), mx_ex d 135 81 [l0, l1, l2, l3] [(2, a), v1, v2] S h n = mx_gd (7 ≤ S a (-2) ∧ S a (-2) ≤ 7) d 135 84 [l0, l1, l2, l3] [(2, S a 12), v1, v2] S h n) ∧
  (∀ (d : Nat) (x : Int) (l0 l1 l2 : Option mx_V) (v0 v1 v2 : mx_V) (S h : mx_H) (n : Int), mx_ex d 135 84 [l0, l1, l2, some (0, x)] [v0, v1, v2] S h n = mx_ex d 135 85 [l0, l1, l2, some (0, x)] [(0, x), v0, v1, v2] S h n) ∧
  (∀ (d : Nat) (i a : Int) (l0 l1 l2 l3 : Option mx_V) (v2 v3 : mx_V) (S h : mx_H) (n : Int), mx_ex d 135 85 [l0, l1, l2, l3] [(0, i), (2, a), v2, v3] S h n = mx_gd (S a (-2) = 23 ∧ 0 ≤ i ∧ i < S a (-1)) d 135 86 [l0, l1, l2, l3] [(2, S a i), v2, v3] S h n) ∧
  (∀ (d : Nat) (v i a : Int) (l0 l1 l2 l3 : Option mx_V) (S h : mx_H) (n : Int), mx_ex d 135 86 [l0, l1, l2, l3] [(2, v), (0, i), (2, a)] S h n = mx_gd (S a (-2) = 23 ∧ 0 ≤ i ∧ i < S a (-1) ∧ (v = -1 ∨ 12 ≤ S v (-2) ∧ S v (-2) ≤ 12)) d 135 87 [l0, l1, l2, l3] [] (mx_u S a i v) h n) ∧
  (∀ (d : Nat) (l0 l1 l2 l3 : Option mx_V) (S h : mx_H) (n : Int), mx_ex d 135 87 [l0, l1, l2, l3] [] S h n = mx_ex d 135 102 [l0, l1, l2, l3] [] S h n) ∧
  (∀ (d : Nat) (x : Int) (l1 l2 l3 : Option mx_V) (S h : mx_H) (n : Int), mx_ex d 135 90 [some (2, x), l1, l2, l3] [] S h n = mx_ex d 135 91 [some (2, x), l1, l2, l3] [(2, x)] S h n) ∧
  (∀ (d : Nat) (a : Int) (l0 l1 l2 l3 : Option mx_V) (S h : mx_H) (n : Int), mx_ex d 135 91 [l0, l1, l2, l3] [(2, a)] S h n = mx_gd (7 ≤ S a (-2) ∧ S a (-2) ≤ 7) d 135 94 [l0, l1, l2, l3] [(2, S a 15)] S h n) ∧
  (∀ (d : Nat) (x : Int) (l0 l2 l3 : Option mx_V) (v0 : mx_V) (S h : mx_H) (n : Int), mx_ex d 135 94 [l0, some (0, x), l2, l3] [v0] S h n = mx_ex d 135 95 [l0, some (0, x), l2, l3] [(0, x), v0] S h n) ∧
  (∀ (d : Nat) (l0 l1 l2 l3 : Option mx_V) (v0 v1 : mx_V) (S h : mx_H) (n : Int), mx_ex d 135 95 [l0, l1, l2, l3] [v0, v1] S h n = mx_ex d 135 96 [l0, l1, l2, l3] [(2, (-1)), v0, v1] S h n) ∧
  (∀ (d : Nat) (v i a : Int) (l0 l1 l2 l3 : Option mx_V) (S h : mx_H) (n : Int), mx_ex d 135 96 [l0, l1, l2, l3] [(2, v), (0, i), (2, a)] S h n = mx_gd (S a (-2) = 23 ∧ 0 ≤ i ∧ i < S a (-1) ∧ (v = -1 ∨ 12 ≤ S v (-2) ∧ S v (-2) ≤ 12)) d 135 97 [l0, l1, l2, l3] [] (mx_u S a i v) h n) ∧
  (∀ (d : Nat) (l0 l1 l2 l3 : Option mx_V) (S h : mx_H) (n : Int), mx_ex d 135 97 [l0, l1, l2, l3] [] S h n = mx_ex d 135 102 [l0, l1, l2, l3] [] S h n) ∧
  (∀ (d : Nat) (l0 l1 l2 l3 : Option mx_V) (S h : mx_H) (n : Int), mx_ex d 135 100 [l0, l1, l2, l3] [] S h n = mx_ex d 135 101 [l0, l1, l2, l3] [(0, (-1))] S h n) ∧
  (∀ (d : Nat) (x : Int) (l0 l1 l2 l3 : Option mx_V) (S h : mx_H) (n : Int), mx_ex d 135 101 [l0, l1, l2, l3] [(0, x)] S h n = some (some (0, x), S, h, n)) ∧
  (∀ (d : Nat) (x : Int) (l1 l2 l3 : Option mx_V) (S h : mx_H) (n : Int), mx_ex d 135 102 [some (2, x), l1, l2, l3] [] S h n = mx_ex d 135 103 [some (2, x), l1, l2, l3] [(2, x)] S h n) ∧
  (∀ (d : Nat) (a : Int) (l0 l1 l2 l3 : Option mx_V) (S h : mx_H) (n : Int), mx_ex d 135 103 [l0, l1, l2, l3] [(2, a)] S h n = mx_gd (7 ≤ S a (-2) ∧ S a (-2) ≤ 7) d 135 106 [l0, l1, l2, l3] [(2, S a 13)] S h n) ∧
  (∀ (d : Nat) (x : Int) (l0 l2 l3 : Option mx_V) (v0 : mx_V) (S h : mx_H) (n : Int), mx_ex d 135 106 [l0, some (0, x), l2, l3] [v0] S h n = mx_ex d 135 107 [l0, some (0, x), l2, l3] [(0, x), v0] S h n) ∧
  (∀ (d : Nat) (x : Int) (l0 l1 l3 : Option mx_V) (v0 v1 : mx_V) (S h : mx_H) (n : Int), mx_ex d 135 107 [l0, l1, some (0, x), l3] [v0, v1] S h n = mx_ex d 135 108 [l0, l1, some (0, x), l3] [(0, x), v0, v1] S h n) ∧
  (∀ (d : Nat) (v i a : Int) (l0 l1 l2 l3 : Option mx_V) (S h : mx_H) (n : Int), mx_ex d 135 108 [l0, l1, l2, l3] [(0, v), (0, i), (2, a)] S h n = mx_gd (S a (-2) = 20 ∧ 0 ≤ i ∧ i < S a (-1)) d 135 109 [l0, l1, l2, l3] [] S (mx_u h a i v) n) ∧
  (∀ (d : Nat) (l0 l1 l2 l3 : Option mx_V) (S h : mx_H) (n : Int), mx_ex d 135 109 [l0, l1, l2, l3] [] S h n = mx_ex d 135 110 [l0, l1, l2, l3] [(0, 1)] S h n) ∧
  (∀ (d : Nat) (x : Int) (l0 l1 l2 l3 : Option mx_V) (S h : mx_H) (n : Int), mx_ex d 135 110 [l0, l1, l2, l3] [(0, x)] S h n = some (some (0, x), S, h, n)) :=
  ⟨by intros; exact rfl,
   by intros; exact eq_ld rfl rfl,
   by intros; exact eq_cs rfl (Nat.le_of_ble_eq_true rfl) rfl rfl rfl (Nat.le_of_ble_eq_true rfl),
   by intros; exact eq_if1 rfl,
   by intros; exact eq_push rfl,
   by intros; exact eq_ret rfl,
   by intros; exact eq_ld rfl rfl,
   by intros; exact eq_sw rfl,
   by intros; exact eq_ld rfl rfl,
   by intros; exact eq_gr rfl,
   by intros; exact eq_ld rfl rfl,
   by intros; exact eq_cv rfl (Nat.le_of_ble_eq_true rfl) rfl rfl rfl (Nat.le_of_ble_eq_true rfl),
   by intros; exact eq_nul rfl,
   by intros; exact eq_push rfl,
   by intros; exact eq_ret rfl,
   by intros; exact eq_ld rfl rfl,
   by intros; exact eq_gr rfl,
   by intros; exact eq_ld rfl rfl,
   by intros; exact eq_ld rfl rfl,
   by intros; exact eq_iast rfl,
   by intros; exact eq_ld rfl rfl,
   by intros; exact eq_gr rfl,
   by intros; exact eq_ld rfl rfl,
   by intros; exact eq_push rfl,
   by intros; exact eq_aast rfl,
   by intros; exact eq_go rfl,
   by intros; exact eq_ld rfl rfl,
   by intros; exact eq_cs rfl (Nat.le_of_ble_eq_true rfl) rfl rfl rfl (Nat.le_of_ble_eq_true rfl),
   by intros; exact eq_if1 rfl,
   by intros; exact eq_push rfl,
   by intros; exact eq_ret rfl,
   by intros; exact eq_ld rfl rfl,
   by intros; exact eq_gr rfl,
   by intros; exact eq_ld rfl rfl,
   by intros; exact eq_ld rfl rfl,
   by intros; exact eq_gr rfl,
   by intros; exact eq_ld rfl rfl,
   by intros; exact eq_aald rfl,
   by intros; exact eq_aast rfl,
   by intros; exact eq_go rfl,
   by intros; exact eq_ld rfl rfl,
   by intros; exact eq_gr rfl,
   by intros; exact eq_ld rfl rfl,
   by intros; exact eq_push rfl,
   by intros; exact eq_aast rfl,
   by intros; exact eq_go rfl,
   by intros; exact eq_push rfl,
   by intros; exact eq_ret rfl,
   by intros; exact eq_ld rfl rfl,
   by intros; exact eq_gr rfl,
   by intros; exact eq_ld rfl rfl,
   by intros; exact eq_ld rfl rfl,
   by intros; exact eq_iast rfl,
   by intros; exact eq_push rfl,
   by intros; exact eq_ret rfl⟩
theorem rw_X11_taken :
  (∀ (d : Nat) (a0 a1 a2 : Int) (S h : mx_H) (n : Int), mx_M d 136 [(2, a0), (0, a1), (0, a2)] S h n = mx_ex d 136 0 [some (2, a0), some (0, a1), some (0, a2), none, none, none] [] S h n) ∧
  (∀ (d : Nat) (x : Int) (l0 l1 l3 l4 l5 : Option mx_V) (S h : mx_H) (n : Int), mx_ex d 136 0 [l0, l1, some (0, x), l3, l4, l5] [] S h n = mx_ex d 136 1 [l0, l1, some (0, x), l3, l4, l5] [(0, x)] S h n) ∧
  (∀ (d : Nat) (l0 l1 l2 l3 l4 l5 : Option mx_V) (v0 : mx_V) (S h : mx_H) (n : Int), mx_ex d 136 1 [l0, l1, l2, l3, l4, l5] [v0] S h n = mx_ex d 136 3 [l0, l1, l2, l3, l4, l5] [(0, 10), v0] S h n) ∧
  (∀ (d : Nat) (l0 l1 l2 l3 l4 l5 : Option mx_V) (v0 v1 : mx_V) (S h : mx_H) (n : Int), mx_ex d 136 3 [l0, l1, l2, l3, l4, l5] [v0, v1] S h n = mx_ex d 136 5 [l0, l1, l2, l3, l4, l5] [(0, 13), v0, v1] S h n) ∧
  (∀ (d : Nat) (x0 x1 x2 : Int) (l0 l1 l2 l3 l4 l5 : Option mx_V) (S h : mx_H) (n : Int), mx_ex (d + 1) 136 5 [l0, l1, l2, l3, l4, l5] [(0, x0), (0, x1), (0, x2)] S h n = mx_rt (mx_M d 145 [(0, x2), (0, x1), (0, x0)] S h n) (d + 1) 136 8 [l0, l1, l2, l3, l4, l5] []) ∧
  (∀ (d : Nat) (x : Int) (l0 l1 l2 l3 l4 l5 : Option mx_V) (S h : mx_H) (n : Int), mx_ex d 136 8 [l0, l1, l2, l3, l4, l5] [(0, x)] S h n = mx_ex d 136 9 [l0, l1, mx_nl l2, some (0, x), l4, l5] [] S h n) ∧
  (∀ (d : Nat) (x : Int) (l0 l2 l3 l4 l5 : Option mx_V) (S h : mx_H) (n : Int), mx_ex d 136 9 [l0, some (0, x), l2, l3, l4, l5] [] S h n = mx_ex d 136 10 [l0, some (0, x), l2, l3, l4, l5] [(0, x)] S h n) ∧
  (∀ (d : Nat) (x0 : Int) (l0 l1 l2 l3 l4 l5 : Option mx_V) (S h : mx_H) (n : Int), mx_ex (d + 1) 136 10 [l0, l1, l2, l3, l4, l5] [(0, x0)] S h n = mx_rt (mx_M d 149 [(0, x0)] S h n) (d + 1) 136 13 [l0, l1, l2, l3, l4, l5] []) ∧
  (∀ (d : Nat) (a : Int) (l0 l1 l2 l3 l4 l5 : Option mx_V) (S h : mx_H) (n : Int), mx_ex d 136 13 [l0, l1, l2, l3, l4, l5] [(0, a)] S h n = mx_br (a = 0) d 136 29 16 [l0, l1, l2, l3, l4, l5] [] S h n) ∧
  (∀ (d : Nat) (x : Int) (l0 l1 l2 l4 l5 : Option mx_V) (S h : mx_H) (n : Int), mx_ex d 136 16 [l0, l1, l2, some (0, x), l4, l5] [] S h n = mx_ex d 136 17 [l0, l1, l2, some (0, x), l4, l5] [(0, x)] S h n) ∧
  (∀ (d : Nat) (a : Int) (l0 l1 l2 l3 l4 l5 : Option mx_V) (S h : mx_H) (n : Int), mx_ex d 136 17 [l0, l1, l2, l3, l4, l5] [(0, a)] S h n = mx_br (a = 0) d 136 20 31 [l0, l1, l2, l3, l4, l5] [] S h n) ∧
  (∀ (d : Nat) (x : Int) (l0 l1 l3 l4 l5 : Option mx_V) (S h : mx_H) (n : Int), mx_ex d 136 20 [l0, l1, some (0, x), l3, l4, l5] [] S h n = mx_ex d 136 21 [l0, l1, some (0, x), l3, l4, l5] [(0, x)] S h n) ∧
  (∀ (d : Nat) (l0 l1 l2 l3 l4 l5 : Option mx_V) (v0 : mx_V) (S h : mx_H) (n : Int), mx_ex d 136 21 [l0, l1, l2, l3, l4, l5] [v0] S h n = mx_ex d 136 22 [l0, l1, l2, l3, l4, l5] [(0, 0), v0] S h n) ∧
  (∀ (d : Nat) (l0 l1 l2 l3 l4 l5 : Option mx_V) (v0 v1 : mx_V) (S h : mx_H) (n : Int), mx_ex d 136 22 [l0, l1, l2, l3, l4, l5] [v0, v1] S h n = mx_ex d 136 23 [l0, l1, l2, l3, l4, l5] [(0, 5), v0, v1] S h n) ∧
  (∀ (d : Nat) (x0 x1 x2 : Int) (l0 l1 l2 l3 l4 l5 : Option mx_V) (S h : mx_H) (n : Int), mx_ex (d + 1) 136 23 [l0, l1, l2, l3, l4, l5] [(0, x0), (0, x1), (0, x2)] S h n = mx_rt (mx_M d 145 [(0, x2), (0, x1), (0, x0)] S h n) (d + 1) 136 26 [l0, l1, l2, l3, l4, l5] []) ∧
  (∀ (d : Nat) (a : Int) (l0 l1 l2 l3 l4 l5 : Option mx_V) (S h : mx_H) (n : Int), mx_ex d 136 26 [l0, l1, l2, l3, l4, l5] [(0, a)] S h n = mx_br (a = 0) d 136 29 31 [l0, l1, l2, l3, l4, l5] [] S h n) ∧
  (∀ (d : Nat) (l0 l1 l2 l3 l4 l5 : Option mx_V) (S h : mx_H) (n : Int), mx_ex d 136 29 [l0, l1, l2, l3, l4, l5] [] S h n = mx_ex d 136 30 [l0, l1, l2, l3, l4, l5] [(0, (-1))] S h n) ∧
  (∀ (d : Nat) (x : Int) (l0 l1 l2 l3 l4 l5 : Option mx_V) (S h : mx_H) (n : Int), mx_ex d 136 30 [l0, l1, l2, l3, l4, l5] [(0, x)] S h n = some (some (0, x), S, h, n)) ∧
  (∀ (d : Nat) (x : Int) (l1 l2 l3 l4 l5 : Option mx_V) (S h : mx_H) (n : Int), mx_ex d 136 31 [some (2, x), l1, l2, l3, l4, l5] [] S h n = mx_ex d 136 32 [some (2, x), l1, l2, l3, l4, l5] [(2, x)] S h n) ∧
  (∀ (d : Nat) (x : Int) (l0 l2 l3 l4 l5 : Option mx_V) (v0 : mx_V) (S h : mx_H) (n : Int), mx_ex d 136 32 [l0, some (0, x), l2, l3, l4, l5] [v0] S h n = mx_ex d 136 33 [l0, some (0, x), l2, l3, l4, l5] [(0, x), v0] S h n) ∧
  (∀ (d : Nat) (x0 a : Int) (l0 l1 l2 l3 l4 l5 : Option mx_V) (S h : mx_H) (n : Int), mx_ex (d + 1) 136 33 [l0, l1, l2, l3, l4, l5] [(0, x0), (2, a)] S h n = mx_cl (S a (-2) = 7) d 144 [(2, a), (0, x0)] 136 36 [l0, l1, l2, l3, l4, l5] [] S h n) ∧
  (∀ (d : Nat) (x : Int) (l0 l1 l2 l3 l4 l5 : Option mx_V) (S h : mx_H) (n : Int), mx_ex d 136 36 [l0, l1, l2, l3, l4, l5] [(2, x)] S h n = mx_ex d 136 38 [l0, l1, l2, mx_nl l3, some (2, x), l5] [] S h n) ∧
  (∀ (d : Nat) (x : Int) (l1 l2 l3 l4 l5 : Option mx_V) (S h : mx_H) (n : Int), mx_ex d 136 38 [some (2, x), l1, l2, l3, l4, l5] [] S h n = mx_ex d 136 39 [some (2, x), l1, l2, l3, l4, l5] [(2, x)] S h n) ∧
  (∀ (d : Nat) (a : Int) (l0 l1 l2 l3 l4 l5 : Option mx_V) (S h : mx_H) (n : Int), mx_ex d 136 39 [l0, l1, l2, l3, l4, l5] [(2, a)] S h n = mx_gd (7 ≤ S a (-2) ∧ S a (-2) ≤ 7) d 136 42 [l0, l1, l2, l3, l4, l5] [(2, S a 15)] S h n) ∧
  (∀ (d : Nat) (x : Int) (l0 l2 l3 l4 l5 : Option mx_V) (v0 : mx_V) (S h : mx_H) (n : Int), mx_ex d 136 42 [l0, some (0, x), l2, l3, l4, l5] [v0] S h n = mx_ex d 136 43 [l0, some (0, x), l2, l3, l4, l5] [(0, x), v0] S h n) ∧
  (∀ (d : Nat) (i a : Int) (l0 l1 l2 l3 l4 l5 : Option mx_V) (S h : mx_H) (n : Int), mx_ex d 136 43 [l0, l1, l2, l3, l4, l5] [(0, i), (2, a)] S h n = mx_gd (S a (-2) = 23 ∧ 0 ≤ i ∧ i < S a (-1)) d 136 44 [l0, l1, l2, l3, l4, l5] [(2, S a i)] S h n) ∧
  (∀ (d : Nat) (x : Int) (l0 l1 l2 l3 l4 l5 : Option mx_V) (S h : mx_H) (n : Int), mx_ex d 136 44 [l0, l1, l2, l3, l4, l5] [(2, x)] S h n = mx_ex d 136 46 [l0, l1, l2, l3, mx_nl l4, some (2, x)] [] S h n) ∧
  (∀ (d : Nat) (x : Int) (l0 l1 l2 l3 l5 : Option mx_V) (S h : mx_H) (n : Int), mx_ex d 136 46 [l0, l1, l2, l3, some (2, x), l5] [] S h n = mx_ex d 136 48 [l0, l1, l2, l3, some (2, x), l5] [(2, x)] S h n) ∧
  (∀ (d : Nat) (a : Int) (l0 l1 l2 l3 l4 l5 : Option mx_V) (S h : mx_H) (n : Int), mx_ex d 136 48 [l0, l1, l2, l3, l4, l5] [(2, a)] S h n = mx_br (a = -1) d 136 51 59 [l0, l1, l2, l3, l4, l5] [] S h n) ∧
  (∀ (d : Nat) (x : Int) (l0 l1 l2 l3 l4 : Option mx_V) (S h : mx_H) (n : Int), mx_ex d 136 51 [l0, l1, l2, l3, l4, some (2, x)] [] S h n = mx_ex d 136 53 [l0, l1, l2, l3, l4, some (2, x)] [(2, x)] S h n) ∧
  (∀ (d : Nat) (a : Int) (l0 l1 l2 l3 l4 l5 : Option mx_V) (S h : mx_H) (n : Int), mx_ex d 136 53 [l0, l1, l2, l3, l4, l5] [(2, a)] S h n = mx_br (a = -1) d 136 56 59 [l0, l1, l2, l3, l4, l5] [] S h n) ∧
  (∀ (d : Nat) (l0 l1 l2 l3 l4 l5 : Option mx_V) (S h : mx_H) (n : Int), mx_ex d 136 56 [l0, l1, l2, l3, l4, l5] [] S h n = mx_ex d 136 58 [l0, l1, l2, l3, l4, l5] [(0, (-11))] S h n) ∧
  (∀ (d : Nat) (x : Int) (l0 l1 l2 l3 l4 l5 : Option mx_V) (S h : mx_H) (n : Int), mx_ex d 136 58 [l0, l1, l2, l3, l4, l5] [(0, x)] S h n = some (some (0, x), S, h, n)) ∧
  (∀ (d : Nat) (x : Int) (l0 l1 l2 l3 l5 : Option mx_V) (S h : mx_H) (n : Int), mx_ex d 136 59 [l0, l1, l2, l3, some (2, x), l5] [] S h n = mx_ex d 136 61 [l0, l1, l2, l3, some (2, x), l5] [(2, x)] S h n) ∧
  (∀ (d : Nat) (a : Int) (l0 l1 l2 l3 l4 l5 : Option mx_V) (S h : mx_H) (n : Int), mx_ex d 136 61 [l0, l1, l2, l3, l4, l5] [(2, a)] S h n = mx_br (a = -1) d 136 88 64 [l0, l1, l2, l3, l4, l5] [] S h n) ∧
  (∀ (d : Nat) (x : Int) (l0 l1 l2 l4 l5 : Option mx_V) (S h : mx_H) (n : Int), mx_ex d 136 64 [l0, l1, l2, some (0, x), l4, l5] [] S h n = mx_ex d 136 65 [l0, l1, l2, some (0, x), l4, l5] [(0, x)] S h n) ∧
  (∀ (d : Nat) (a : Int) (l0 l1 l2 l3 l4 l5 : Option mx_V) (S h : mx_H) (n : Int), mx_ex d 136 65 [l0, l1, l2, l3, l4, l5] [(0, a)] S h n = mx_br (a = 0) d 136 68 85 [l0, l1, l2, l3, l4, l5] [] S h n) ∧
  (∀ (d : Nat) (x : Int) (l0 l1 l2 l3 l5 : Option mx_V) (S h : mx_H) (n : Int), mx_ex d 136 68 [l0, l1, l2, l3, some (2, x), l5] [] S h n = mx_ex d 136 70 [l0, l1, l2, l3, some (2, x), l5] [(2, x)] S h n) ∧
  (∀ (d : Nat) (x : Int) (l0 l1 l3 l4 l5 : Option mx_V) (v0 : mx_V) (S h : mx_H) (n : Int), mx_ex d 136 70 [l0, l1, some (0, x), l3, l4, l5] [v0] S h n = mx_ex d 136 71 [l0, l1, some (0, x), l3, l4, l5] [(0, x), v0] S h n) ∧
  (∀ (d : Nat) (x0 a : Int) (l0 l1 l2 l3 l4 l5 : Option mx_V) (S h : mx_H) (n : Int), mx_ex (d + 1) 136 71 [l0, l1, l2, l3, l4, l5] [(0, x0), (2, a)] S h n = mx_cl (1 ≤ S a (-2) ∧ S a (-2) ≤ 6) d 42 [(2, a), (0, x0)] 136 74 [l0, l1, l2, l3, l4, l5] [] S h n) ∧
  (∀ (d : Nat) (a : Int) (l0 l1 l2 l3 l4 l5 : Option mx_V) (S h : mx_H) (n : Int), mx_ex d 136 74 [l0, l1, l2, l3, l4, l5] [(0, a)] S h n = mx_br (a = 0) d 136 85 77 [l0, l1, l2, l3, l4, l5] [] S h n) ∧
  (∀ (d : Nat) (x : Int) (l0 l1 l2 l3 l5 : Option mx_V) (S h : mx_H) (n : Int), mx_ex d 136 77 [l0, l1, l2, l3, some (2, x), l5] [] S h n = mx_ex d 136 79 [l0, l1, l2, l3, some (2, x), l5] [(2, x)] S h n) ∧
  (∀ (d : Nat) (a : Int) (l0 l1 l2 l3 l4 l5 : Option mx_V) (S h : mx_H) (n : Int), mx_ex d 136 79 [l0, l1, l2, l3, l4, l5] [(2, a)] S h n = mx_gd (1 ≤ S a (-2) ∧ S a (-2) ≤ 6) d 136 82 [l0, l1, l2, l3, l4, l5] [(0, h a 0)] S h n) ∧
  (∀ (d : Nat) (l0 l1 l2 l3 l4 l5 : Option mx_V) (v0 : mx_V) (S h : mx_H) (n : Int), mx_ex d 136 82 [l0, l1, l2, l3, l4, l5] [v0] S h n = mx_ex d 136 87 [l0, l1, l2, l3, l4, l5] [v0] S h n) ∧
  (∀ (d : Nat) (l0 l1 l2 l3 l4 l5 : Option mx_V) (S h : mx_H) (n : Int), mx_ex d 136 85 [l0, l1, l2, l3, l4, l5] [] S h n = mx_ex d 136 87 [l0, l1, l2, l3, l4, l5] [(0, (-13))] S h n) ∧
  (∀ (d : Nat) (x : Int) (l0 l1 l2 l3 l4 l5 : Option mx_V) (S h : mx_H) (n : Int), mx_ex d 136 87 [l0, l1, l2, l3, l4, l5] [(0, x)] S h n = some (some (0, x), S, h, n)) ∧
  (∀ (d : Nat) (x : Int) (l0 l1 l2 l4 l5 : Option mx_V) (S h : mx_H) (n : Int), mx_ex d 136 88 [l0, l1, l2, some (0, x), l4, l5] [] S h n = mx_ex d 136 89 [l0, l1, l2, some (0, x), l4, l5] [(0, x)] S h n) ∧
  (∀ (d : Nat) (a : Int) (l0 l1 l2 l3 l4 l5 : Option mx_V) (S h : mx_H) (n : Int), mx_ex d 136 89 [l0, l1, l2, l3, l4, l5] [(0, a)] S h n = mx_br (a = 0) d 136 113 92 [l0, l1, l2, l3, l4, l5] [] S h n) ∧
  (∀ (d : Nat) (x : Int) (l0 l1 l2 l3 l4 : Option mx_V) (S h : mx_H) (n : Int), mx_ex d 136 92 [l0, l1, l2, l3, l4, some (2, x)] [] S h n = mx_ex d 136 94 [l0, l1, l2, l3, l4, some (2, x)] [(2, x)] S h n) ∧
  (∀ (d : Nat) (a : Int) (l0 l1 l2 l3 l4 l5 : Option mx_V) (S h : mx_H) (n : Int), mx_ex d 136 94 [l0, l1, l2, l3, l4, l5] [(2, a)] S h n = mx_gd (12 ≤ S a (-2) ∧ S a (-2) ≤ 12) d 136 97 [l0, l1, l2, l3, l4, l5] [(0, h a 0)] S h n) ∧
  (∀ (d : Nat) (x : Int) (l0 l1 l3 l4 l5 : Option mx_V) (v0 : mx_V) (S h : mx_H) (n : Int), mx_ex d 136 97 [l0, l1, some (0, x), l3, l4, l5] [v0] S h n = mx_ex d 136 98 [l0, l1, some (0, x), l3, l4, l5] [(0, x), v0] S h n) ∧
  (∀ (d : Nat) (l0 l1 l2 l3 l4 l5 : Option mx_V) (v0 v1 : mx_V) (S h : mx_H) (n : Int), mx_ex d 136 98 [l0, l1, l2, l3, l4, l5] [v0, v1] S h n = mx_ex d 136 100 [l0, l1, l2, l3, l4, l5] [(0, 10), v0, v1] S h n) ∧
  (∀ (d : Nat) (b a : Int) (l0 l1 l2 l3 l4 l5 : Option mx_V) (v2 : mx_V) (S h : mx_H) (n : Int), mx_ex d 136 100 [l0, l1, l2, l3, l4, l5] [(0, b), (0, a), v2] S h n = mx_ex d 136 101 [l0, l1, l2, l3, l4, l5] [(0, mx_w (a - b)), v2] S h n) ∧
  (∀ (d : Nat) (b a : Int) (l0 l1 l2 l3 l4 l5 : Option mx_V) (S h : mx_H) (n : Int), mx_ex d 136 101 [l0, l1, l2, l3, l4, l5] [(0, b), (0, a)] S h n = mx_br (a = b) d 136 104 113 [l0, l1, l2, l3, l4, l5] [] S h n) ∧
  (∀ (d : Nat) (x : Int) (l0 l1 l2 l3 l4 : Option mx_V) (S h : mx_H) (n : Int), mx_ex d 136 104 [l0, l1, l2, l3, l4, some (2, x)] [] S h n = mx_ex d 136 106 [l0, l1, l2, l3, l4, some (2, x)] [(2, x)] S h n) ∧
  (∀ (d : Nat) (a : Int) (l0 l1 l2 l3 l4 l5 : Option mx_V) (S h : mx_H) (n : Int), mx_ex d 136 106 [l0, l1, l2, l3, l4, l5] [(2, a)] S h n = mx_gd (12 ≤ S a (-2) ∧ S a (-2) ≤ 12) d 136 109 [l0, l1, l2, l3, l4, l5] [(2, S a 1)] S h n) ∧
  (∀ (d : Nat) (a : Int) (l0 l1 l2 l3 l4 l5 : Option mx_V) (S h : mx_H) (n : Int), mx_ex d 136 109 [l0, l1, l2, l3, l4, l5] [(2, a)] S h n = mx_gd (20 ≤ S a (-2) ∧ S a (-2) ≤ 25) d 136 110 [l0, l1, l2, l3, l4, l5] [(0, S a (-1))] S h n) ∧
  (∀ (d : Nat) (l0 l1 l2 l3 l4 l5 : Option mx_V) (v0 : mx_V) (S h : mx_H) (n : Int), mx_ex d 136 110 [l0, l1, l2, l3, l4, l5] [v0] S h n = mx_ex d 136 115 [l0, l1, l2, l3, l4, l5] [v0] S h n) ∧
  (∀ (d : Nat) (l0 l1 l2 l3 l4 l5 : Option mx_V) (S h : mx_H) (n : Int), mx_ex d 136 113 [l0, l1, l2, l3, l4, l5] [] S h n = mx_ex d 136 115 [l0, l1, l2, l3, l4, l5] [(0, (-13))] S h n) ∧
  (∀ (d : Nat) (x : Int) (l0 l1 l2 l3 l4 l5 : Option mx_V) (S h : mx_H) (n : Int), mx_ex d 136 115 [l0, l1, l2, l3, l4, l5] [(0, x)] S h n = some (some (0, x), S, h, n)) :=
  ⟨by intros; exact rfl,
   by intros; exact eq_ld rfl rfl,
   by intros; exact eq_push rfl,
   by intros; exact eq_push rfl,
   by intros; exact eq_cs rfl (Nat.le_of_ble_eq_true rfl) rfl rfl rfl (Nat.le_of_ble_eq_true rfl),
   by intros; exact eq_st rfl (by decide) (Nat.le_of_ble_eq_true rfl) rfl,
   by intros; exact eq_ld rfl rfl,
   by intros; exact eq_cs rfl (Nat.le_of_ble_eq_true rfl) rfl rfl rfl (Nat.le_of_ble_eq_true rfl),
   by intros; exact eq_if0 rfl,
   by intros; exact eq_ld rfl rfl,
   by intros; exact eq_if1 rfl,
   by intros; exact eq_ld rfl rfl,
   by intros; exact eq_push rfl,
   by intros; exact eq_push rfl,
   by intros; exact eq_cs rfl (Nat.le_of_ble_eq_true rfl) rfl rfl rfl (Nat.le_of_ble_eq_true rfl),
   by intros; exact eq_if1 rfl,
   by intros; exact eq_push rfl,
   by intros; exact eq_ret rfl,
   by intros; exact eq_ld rfl rfl,
   by intros; exact eq_ld rfl rfl,
   by intros; exact eq_cv rfl (Nat.le_of_ble_eq_true rfl) rfl rfl rfl (Nat.le_of_ble_eq_true rfl),
   by intros; exact eq_st rfl (by decide) (Nat.le_of_ble_eq_true rfl) rfl,
   by intros; exact eq_ld rfl rfl,
   by intros; exact eq_gr rfl,
   by intros; exact eq_ld rfl rfl,
   by intros; exact eq_aald rfl,
   by intros; exact eq_st rfl (by decide) (Nat.le_of_ble_eq_true rfl) rfl,
   by intros; exact eq_ld rfl rfl,
   by intros; exact eq_nul rfl,
   by intros; exact eq_ld rfl rfl,
   by intros; exact eq_nul rfl,
   by intros; exact eq_push rfl,
   by intros; exact eq_ret rfl,
   by intros; exact eq_ld rfl rfl,
   by intros; exact eq_nul rfl,
   by intros; exact eq_ld rfl rfl,
   by intros; exact eq_if1 rfl,
   by intros; exact eq_ld rfl rfl,
   by intros; exact eq_ld rfl rfl,
   by intros; exact eq_ci rfl (Nat.le_of_ble_eq_true rfl) rfl rfl rfl (Nat.le_of_ble_eq_true rfl),
   by intros; exact eq_if0 rfl,
   by intros; exact eq_ld rfl rfl,
   by intros; exact eq_gi rfl,
   by intros; exact eq_go rfl,
   by intros; exact eq_push rfl,
   by intros; exact eq_ret rfl,
   by intros; exact eq_ld rfl rfl,
   by intros; exact eq_if0 rfl,
   by intros; exact eq_ld rfl rfl,
   by intros; exact eq_gi rfl,
   by intros; exact eq_ld rfl rfl,
   by intros; exact eq_push rfl,
   by intros; exact eq_i2 (o := mx_sub) rfl,
   by intros; exact eq_ic1 rfl,
   by intros; exact eq_ld rfl rfl,
   by intros; exact eq_gr rfl,
   by intros; exact eq_alen rfl,
   by intros; exact eq_go rfl,
   by intros; exact eq_push rfl,
   by intros; exact eq_ret rfl⟩
theorem rw_X11_act :
  (∀ (d : Nat) (a0 a1 a2 a3 : Int) (S h : mx_H) (n : Int), mx_M d 137 [(2, a0), (0, a1), (0, a2), (0, a3)] S h n = mx_ex d 137 0 [some (2, a0), some (0, a1), some (0, a2), some (0, a3), none, none] [] S h n) ∧
  (∀ (d : Nat) (x : Int) (l1 l2 l3 l4 l5 : Option mx_V) (S h : mx_H) (n : Int), mx_ex d 137 0 [some (2, x), l1, l2, l3, l4, l5] [] S h n = mx_ex d 137 1 [some (2, x), l1, l2, l3, l4, l5] [(2, x)] S h n) ∧
  (∀ (d : Nat) (a : Int) (l0 l1 l2 l3 l4 l5 : Option mx_V) (S h : mx_H) (n : Int), mx_ex d 137 1 [l0, l1, l2, l3, l4, l5] [(2, a)] S h n = mx_gd (7 ≤ S a (-2) ∧ S a (-2) ≤ 7) d 137 4 [l0, l1, l2, l3, l4, l5] [(2, S a 16)] S h n) ∧
  (∀ (d : Nat) (a : Int) (l0 l1 l2 l3 l4 l5 : Option mx_V) (S h : mx_H) (n : Int), mx_ex (d + 1) 137 4 [l0, l1, l2, l3, l4, l5] [(2, a)] S h n = mx_cl (S a (-2) = 11) d 75 [(2, a)] 137 7 [l0, l1, l2, l3, l4, l5] [] S h n) ∧
  (∀ (d : Nat) (x : Int) (l0 l2 l3 l4 l5 : Option mx_V) (S h : mx_H) (n : Int), mx_ex d 137 7 [l0, some (0, x), l2, l3, l4, l5] [] S h n = mx_ex d 137 8 [l0, some (0, x), l2, l3, l4, l5] [(0, x)] S h n) ∧
  (∀ (d : Nat) (x0 : Int) (l0 l1 l2 l3 l4 l5 : Option mx_V) (S h : mx_H) (n : Int), mx_ex (d + 1) 137 8 [l0, l1, l2, l3, l4, l5] [(0, x0)] S h n = mx_rt (mx_M d 149 [(0, x0)] S h n) (d + 1) 137 11 [l0, l1, l2, l3, l4, l5] []) ∧
  (∀ (d : Nat) (a : Int) (l0 l1 l2 l3 l4 l5 : Option mx_V) (S h : mx_H) (n : Int), mx_ex d 137 11 [l0, l1, l2, l3, l4, l5] [(0, a)] S h n = mx_br (a = 0) d 137 22 14 [l0, l1, l2, l3, l4, l5] [] S h n) ∧
  (∀ (d : Nat) (x : Int) (l1 l2 l3 l4 l5 : Option mx_V) (S h : mx_H) (n : Int), mx_ex d 137 14 [some (2, x), l1, l2, l3, l4, l5] [] S h n = mx_ex d 137 15 [some (2, x), l1, l2, l3, l4, l5] [(2, x)] S h n) ∧
  (∀ (d : Nat) (x : Int) (l0 l2 l3 l4 l5 : Option mx_V) (v0 : mx_V) (S h : mx_H) (n : Int), mx_ex d 137 15 [l0, some (0, x), l2, l3, l4, l5] [v0] S h n = mx_ex d 137 16 [l0, some (0, x), l2, l3, l4, l5] [(0, x), v0] S h n) ∧
  (∀ (d : Nat) (x0 a : Int) (l0 l1 l2 l3 l4 l5 : Option mx_V) (S h : mx_H) (n : Int), mx_ex (d + 1) 137 16 [l0, l1, l2, l3, l4, l5] [(0, x0), (2, a)] S h n = mx_cl (S a (-2) = 7) d 144 [(2, a), (0, x0)] 137 19 [l0, l1, l2, l3, l4, l5] [] S h n) ∧
  (∀ (d : Nat) (l0 l1 l2 l3 l4 l5 : Option mx_V) (v0 : mx_V) (S h : mx_H) (n : Int), mx_ex d 137 19 [l0, l1, l2, l3, l4, l5] [v0] S h n = mx_ex d 137 23 [l0, l1, l2, l3, l4, l5] [v0] S h n) ∧
  (∀ (d : Nat) (l0 l1 l2 l3 l4 l5 : Option mx_V) (S h : mx_H) (n : Int), mx_ex d 137 22 [l0, l1, l2, l3, l4, l5] [] S h n = mx_ex d 137 23 [l0, l1, l2, l3, l4, l5] [(2, (-1))] S h n) ∧
  (∀ (d : Nat) (x : Int) (l0 l1 l2 l3 l4 l5 : Option mx_V) (S h : mx_H) (n : Int), mx_ex d 137 23 [l0, l1, l2, l3, l4, l5] [(2, x)] S h n = mx_ex d 137 25 [l0, l1, l2, mx_nl l3, some (2, x), l5] [] S h n) ∧
  (∀ (d : Nat) (x : Int) (l0 l1 l2 l3 l5 : Option mx_V) (S h : mx_H) (n : Int), mx_ex d 137 25 [l0, l1, l2, l3, some (2, x), l5] [] S h n = mx_ex d 137 27 [l0, l1, l2, l3, some (2, x), l5] [(2, x)] S h n) ∧
  (∀ (d : Nat) (a : Int) (l0 l1 l2 l3 l4 l5 : Option mx_V) (S h : mx_H) (n : Int), mx_ex d 137 27 [l0, l1, l2, l3, l4, l5] [(2, a)] S h n = mx_br (a = -1) d 137 39 30 [l0, l1, l2, l3, l4, l5] [] S h n) ∧
  (∀ (d : Nat) (x : Int) (l0 l1 l3 l4 l5 : Option mx_V) (S h : mx_H) (n : Int), mx_ex d 137 30 [l0, l1, some (0, x), l3, l4, l5] [] S h n = mx_ex d 137 31 [l0, l1, some (0, x), l3, l4, l5] [(0, x)] S h n) ∧
  (∀ (d : Nat) (l0 l1 l2 l3 l4 l5 : Option mx_V) (v0 : mx_V) (S h : mx_H) (n : Int), mx_ex d 137 31 [l0, l1, l2, l3, l4, l5] [v0] S h n = mx_ex d 137 32 [l0, l1, l2, l3, l4, l5] [(0, 0), v0] S h n) ∧
  (∀ (d : Nat) (l0 l1 l2 l3 l4 l5 : Option mx_V) (v0 v1 : mx_V) (S h : mx_H) (n : Int), mx_ex d 137 32 [l0, l1, l2, l3, l4, l5] [v0, v1] S h n = mx_ex d 137 33 [l0, l1, l2, l3, l4, l5] [(0, 3), v0, v1] S h n) ∧
  (∀ (d : Nat) (x0 x1 x2 : Int) (l0 l1 l2 l3 l4 l5 : Option mx_V) (S h : mx_H) (n : Int), mx_ex (d + 1) 137 33 [l0, l1, l2, l3, l4, l5] [(0, x0), (0, x1), (0, x2)] S h n = mx_rt (mx_M d 145 [(0, x2), (0, x1), (0, x0)] S h n) (d + 1) 137 36 [l0, l1, l2, l3, l4, l5] []) ∧
  (∀ (d : Nat) (a : Int) (l0 l1 l2 l3 l4 l5 : Option mx_V) (S h : mx_H) (n : Int), mx_ex d 137 36 [l0, l1, l2, l3, l4, l5] [(0, a)] S h n = mx_br (a = 0) d 137 39 41 [l0, l1, l2, l3, l4, l5] [] S h n) ∧
  (∀ (d : Nat) (l0 l1 l2 l3 l4 l5 : Option mx_V) (S h : mx_H) (n : Int), mx_ex d 137 39 [l0, l1, l2, l3, l4, l5] [] S h n = mx_ex d 137 40 [l0, l1, l2, l3, l4, l5] [(0, 0)] S h n) ∧
  (∀ (d : Nat) (x : Int) (l0 l1 l2 l3 l4 l5 : Option mx_V) (S h : mx_H) (n : Int), mx_ex d 137 40 [l0, l1, l2, l3, l4, l5] [(0, x)] S h n = some (some (0, x), S, h, n)) ∧
  (∀ (d : Nat) (x : Int) (l0 l1 l3 l4 l5 : Option mx_V) (S h : mx_H) (n : Int), mx_ex d 137 41 [l0, l1, some (0, x), l3, l4, l5] [] S h n = mx_ex d 137 42 [l0, l1, some (0, x), l3, l4, l5] [(0, x)] S h n) ∧
  (∀ (d : Nat) (a : Int) (l0 l1 l2 l3 l4 l5 : Option mx_V) (S h : mx_H) (n : Int), mx_ex d 137 42 [l0, l1, l2, l3, l4, l5] [(0, a)] S h n = mx_sw a [(0, 68), (1, 83), (2, 98)] d 137 113 [l0, l1, l2, l3, l4, l5] [] S h n) ∧
  (∀ (d : Nat) (x : Int) (l0 l1 l2 l3 l5 : Option mx_V) (S h : mx_H) (n : Int), mx_ex d 137 68 [l0, l1, l2, l3, some (2, x), l5] [] S h n = mx_ex d 137 70 [l0, l1, l2, l3, some (2, x), l5] [(2, x)] S h n) ∧
  (∀ (d : Nat) (x : Int) (l0 l1 l2 l4 l5 : Option mx_V) (v0 : mx_V) (S h : mx_H) (n : Int), mx_ex d 137 70 [l0, l1, l2, some (0, x), l4, l5] [v0] S h n = mx_ex d 137 71 [l0, l1, l2, some (0, x), l4, l5] [(0, x), v0] S h n) ∧
  (∀ (d : Nat) (x : Int) (l1 l2 l3 l4 l5 : Option mx_V) (v0 v1 : mx_V) (S h : mx_H) (n : Int), mx_ex d 137 71 [some (2, x), l1, l2, l3, l4, l5] [v0, v1] S h n = mx_ex d 137 72 [some (2, x), l1, l2, l3, l4, l5] [(2, x), v0, v1] S h n) ∧
  (∀ (d : Nat) (a : Int) (l0 l1 l2 l3 l4 l5 : Option mx_V) (v1 v2 : mx_V) (S h : mx_H) (n : Int), mx_ex d 137 72 [l0, l1, l2, l3, l4, l5] [(2, a), v1, v2] S h n = mx_gd (7 ≤ S a (-2) ∧ S a (-2) ≤ 7) d 137 75 [l0, l1, l2, l3, l4, l5] [(2, S a 16), v1, v2] S h n) ∧
  (∀ (d : Nat) (x0 x1 a : Int) (l0 l1 l2 l3 l4 l5 : Option mx_V) (S h : mx_H) (n : Int), mx_ex (d + 1) 137 75 [l0, l1, l2, l3, l4, l5] [(2, x0), (0, x1), (2, a)] S h n = mx_cu (mx_vt (S a (-2)) [(1, 48), (2, 48), (3, 5), (4, 36), (5, 48), (6, 11)]) d [(2, a), (0, x1), (2, x0)] 137 78 [l0, l1, l2, l3, l4, l5] [] S h n) ∧
  (∀ (d : Nat) (x : Int) (l0 l1 l2 l3 l4 l5 : Option mx_V) (S h : mx_H) (n : Int), mx_ex d 137 78 [l0, l1, l2, l3, l4, l5] [(0, x)] S h n = mx_ex d 137 80 [l0, l1, l2, l3, mx_nl l4, some (0, x)] [] S h n) ∧
  (∀ (d : Nat) (l0 l1 l2 l3 l4 l5 : Option mx_V) (S h : mx_H) (n : Int), mx_ex d 137 80 [l0, l1, l2, l3, l4, l5] [] S h n = mx_ex d 137 125 [l0, l1, l2, l3, l4, l5] [] S h n) ∧
  (∀ (d : Nat) (x : Int) (l0 l1 l2 l3 l5 : Option mx_V) (S h : mx_H) (n : Int), mx_ex d 137 83 [l0, l1, l2, l3, some (2, x), l5] [] S h n = mx_ex d 137 85 [l0, l1, l2, l3, some (2, x), l5] [(2, x)] S h n) ∧
  (∀ (d : Nat) (x : Int) (l0 l1 l2 l4 l5 : Option mx_V) (v0 : mx_V) (S h : mx_H) (n : Int), mx_ex d 137 85 [l0, l1, l2, some (0, x), l4, l5] [v0] S h n = mx_ex d 137 86 [l0, l1, l2, some (0, x), l4, l5] [(0, x), v0] S h n) ∧
  (∀ (d : Nat) (x : Int) (l1 l2 l3 l4 l5 : Option mx_V) (v0 v1 : mx_V) (S h : mx_H) (n : Int), mx_ex d 137 86 [some (2, x), l1, l2, l3, l4, l5] [v0, v1] S h n = mx_ex d 137 87 [some (2, x), l1, l2, l3, l4, l5] [(2, x), v0, v1] S h n) ∧
  (∀ (d : Nat) (a : Int) (l0 l1 l2 l3 l4 l5 : Option mx_V) (v1 v2 : mx_V) (S h : mx_H) (n : Int), mx_ex d 137 87 [l0, l1, l2, l3, l4, l5] [(2, a), v1, v2] S h n = mx_gd (7 ≤ S a (-2) ∧ S a (-2) ≤ 7) d 137 90 [l0, l1, l2, l3, l4, l5] [(2, S a 16), v1, v2] S h n) ∧
  (∀ (d : Nat) (x0 x1 a : Int) (l0 l1 l2 l3 l4 l5 : Option mx_V) (S h : mx_H) (n : Int), mx_ex (d + 1) 137 90 [l0, l1, l2, l3, l4, l5] [(2, x0), (0, x1), (2, a)] S h n = mx_cu (mx_vt (S a (-2)) [(1, 49), (2, 58), (3, 49), (4, 37), (5, 49), (6, 58)]) d [(2, a), (0, x1), (2, x0)] 137 93 [l0, l1, l2, l3, l4, l5] [] S h n) ∧
  (∀ (d : Nat) (x : Int) (l0 l1 l2 l3 l4 l5 : Option mx_V) (S h : mx_H) (n : Int), mx_ex d 137 93 [l0, l1, l2, l3, l4, l5] [(0, x)] S h n = mx_ex d 137 95 [l0, l1, l2, l3, mx_nl l4, some (0, x)] [] S h n) ∧
  (∀ (d : Nat) (l0 l1 l2 l3 l4 l5 : Option mx_V) (S h : mx_H) (n : Int), mx_ex d 137 95 [l0, l1, l2, l3, l4, l5] [] S h n = mx_ex d 137 125 [l0, l1, l2, l3, l4, l5] [] S h n) ∧
  (∀ (d : Nat) (x : Int) (l0 l1 l2 l3 l5 : Option mx_V) (S h : mx_H) (n : Int), mx_ex d 137 98 [l0, l1, l2, l3, some (2, x), l5] [] S h n = mx_ex d 137 100 [l0, l1, l2, l3, some (2, x), l5] [(2, x)] S h n) ∧
  (∀ (d : Nat) (x : Int) (l0 l1 l2 l4 l5 : Option mx_V) (v0 : mx_V) (S h : mx_H) (n : Int), mx_ex d 137 100 [l0, l1, l2, some (0, x), l4, l5] [v0] S h n = mx_ex d 137 101 [l0, l1, l2, some (0, x), l4, l5] [(0, x), v0] S h n) ∧
  (∀ (d : Nat) (x : Int) (l1 l2 l3 l4 l5 : Option mx_V) (v0 v1 : mx_V) (S h : mx_H) (n : Int), mx_ex d 137 101 [some (2, x), l1, l2, l3, l4, l5] [v0, v1] S h n = mx_ex d 137 102 [some (2, x), l1, l2, l3, l4, l5] [(2, x), v0, v1] S h n) ∧
  (∀ (d : Nat) (a : Int) (l0 l1 l2 l3 l4 l5 : Option mx_V) (v1 v2 : mx_V) (S h : mx_H) (n : Int), mx_ex d 137 102 [l0, l1, l2, l3, l4, l5] [(2, a), v1, v2] S h n = mx_gd (7 ≤ S a (-2) ∧ S a (-2) ≤ 7) d 137 105 [l0, l1, l2, l3, l4, l5] [(2, S a 16), v1, v2] S h n) ∧
  (∀ (d : Nat) (x0 x1 a : Int) (l0 l1 l2 l3 l4 l5 : Option mx_V) (S h : mx_H) (n : Int), mx_ex (d + 1) 137 105 [l0, l1, l2, l3, l4, l5] [(2, x0), (0, x1), (2, a)] S h n = mx_cu (mx_vt (S a (-2)) [(1, 50), (2, 50), (3, 50), (4, 50), (5, 83), (6, 10)]) d [(2, a), (0, x1), (2, x0)] 137 108 [l0, l1, l2, l3, l4, l5] [] S h n) ∧
  (∀ (d : Nat) (x : Int) (l0 l1 l2 l3 l4 l5 : Option mx_V) (S h : mx_H) (n : Int), mx_ex d 137 108 [l0, l1, l2, l3, l4, l5] [(0, x)] S h n = mx_ex d 137 110 [l0, l1, l2, l3, mx_nl l4, some (0, x)] [] S h n) ∧
  (∀ (d : Nat) (l0 l1 l2 l3 l4 l5 : Option mx_V) (S h : mx_H) (n : Int), mx_ex d 137 110 [l0, l1, l2, l3, l4, l5] [] S h n = mx_ex d 137 125 [l0, l1, l2, l3, l4, l5] [] S h n) ∧
  (∀ (d : Nat) (x : Int) (l0 l1 l2 l3 l5 : Option mx_V) (S h : mx_H) (n : Int), mx_ex d 137 113 [l0, l1, l2, l3, some (2, x), l5] [] S h n = mx_ex d 137 115 [l0, l1, l2, l3, some (2, x), l5] [(2, x)] S h n) ∧
  (∀ (d : Nat) (x : Int) (l0 l1 l2 l4 l5 : Option mx_V) (v0 : mx_V) (S h : mx_H) (n : Int), mx_ex d 137 115 [l0, l1, l2, some (0, x), l4, l5] [v0] S h n = mx_ex d 137 116 [l0, l1, l2, some (0, x), l4, l5] [(0, x), v0] S h n) ∧
  (∀ (d : Nat) (x : Int) (l1 l2 l3 l4 l5 : Option mx_V) (v0 v1 : mx_V) (S h : mx_H) (n : Int), mx_ex d 137 116 [some (2, x), l1, l2, l3, l4, l5] [v0, v1] S h n = mx_ex d 137 117 [some (2, x), l1, l2, l3, l4, l5] [(2, x), v0, v1] S h n) ∧
  (∀ (d : Nat) (a : Int) (l0 l1 l2 l3 l4 l5 : Option mx_V) (v1 v2 : mx_V) (S h : mx_H) (n : Int), mx_ex d 137 117 [l0, l1, l2, l3, l4, l5] [(2, a), v1, v2] S h n = mx_gd (7 ≤ S a (-2) ∧ S a (-2) ≤ 7) d 137 120 [l0, l1, l2, l3, l4, l5] [(2, S a 16), v1, v2] S h n) ∧
  (∀ (d : Nat) (x0 x1 a : Int) (l0 l1 l2 l3 l4 l5 : Option mx_V) (S h : mx_H) (n : Int), mx_ex (d + 1) 137 120 [l0, l1, l2, l3, l4, l5] [(2, x0), (0, x1), (2, a)] S h n = mx_cu (mx_vt (S a (-2)) [(1, 51), (2, 51), (3, 6), (4, 6), (5, 82), (6, 51)]) d [(2, a), (0, x1), (2, x0)] 137 123 [l0, l1, l2, l3, l4, l5] [] S h n) ∧
  (∀ (d : Nat) (x : Int) (l0 l1 l2 l3 l4 l5 : Option mx_V) (S h : mx_H) (n : Int), mx_ex d 137 123 [l0, l1, l2, l3, l4, l5] [(0, x)] S h n = mx_ex d 137 125 [l0, l1, l2, l3, mx_nl l4, some (0, x)] [] S h n) ∧
  (∀ (d : Nat) (x : Int) (l1 l2 l3 l4 l5 : Option mx_V) (S h : mx_H) (n : Int), mx_ex d 137 125 [some (2, x), l1, l2, l3, l4, l5] [] S h n = mx_ex d 137 126 [some (2, x), l1, l2, l3, l4, l5] [(2, x)] S h n) ∧
  (∀ (d : Nat) (a : Int) (l0 l1 l2 l3 l4 l5 : Option mx_V) (S h : mx_H) (n : Int), mx_ex d 137 126 [l0, l1, l2, l3, l4, l5] [(2, a)] S h n = mx_gd (7 ≤ S a (-2) ∧ S a (-2) ≤ 7) d 137 129 [l0, l1, l2, l3, l4, l5] [(2, S a 16)] S h n) ∧
  (∀ (d : Nat) (a : Int) (l0 l1 l2 l3 l4 l5 : Option mx_V) (S h : mx_H) (n : Int), mx_ex (d + 1) 137 129 [l0, l1, l2, l3, l4, l5] [(2, a)] S h n = mx_cl (S a (-2) = 11) d 77 [(2, a)] 137 132 [l0, l1, l2, l3, l4, l5] [] S h n) ∧
  (∀ (d : Nat) (a : Int) (l0 l1 l2 l3 l4 l5 : Option mx_V) (S h : mx_H) (n : Int), mx_ex d 137 132 [l0, l1, l2, l3, l4, l5] [(0, a)] S h n = mx_br (a = 0) d 137 140 135 [l0, l1, l2, l3, l4, l5] [] S h n) ∧
  (∀ (d : Nat) (l0 l1 l2 l3 l4 l5 : Option mx_V) (S h : mx_H) (n : Int), mx_ex d 137 135 [l0, l1, l2, l3, l4, l5] [] S h n = mx_ex d 137 137 [l0, l1, l2, l3, l4, l5] [(0, (-15))] S h n) ∧
  (∀ (d : Nat) (l0 l1 l2 l3 l4 l5 : Option mx_V) (v0 : mx_V) (S h : mx_H) (n : Int), mx_ex d 137 137 [l0, l1, l2, l3, l4, l5] [v0] S h n = mx_ex d 137 142 [l0, l1, l2, l3, l4, l5] [v0] S h n) ∧
  (∀ (d : Nat) (x : Int) (l0 l1 l2 l3 l4 : Option mx_V) (S h : mx_H) (n : Int), mx_ex d 137 140 [l0, l1, l2, l3, l4, some (0, x)] [] S h n = mx_ex d 137 142 [l0, l1, l2, l3, l4, some (0, x)] [(0, x)] S h n) ∧
  (∀ (d : Nat) (x : Int) (l0 l1 l2 l3 l4 l5 : Option mx_V) (S h : mx_H) (n : Int), mx_ex d 137 142 [l0, l1, l2, l3, l4, l5] [(0, x)] S h n = some (some (0, x), S, h, n)) :=
  ⟨by intros; exact rfl,
   by intros; exact eq_ld rfl rfl,
   by intros; exact eq_gr rfl,
   by intros; exact eq_cv rfl (Nat.le_of_ble_eq_true rfl) rfl rfl rfl (Nat.le_of_ble_eq_true rfl),
   by intros; exact eq_ld rfl rfl,
   by intros; exact eq_cs rfl (Nat.le_of_ble_eq_true rfl) rfl rfl rfl (Nat.le_of_ble_eq_true rfl),
   by intros; exact eq_if0 rfl,
   by intros; exact eq_ld rfl rfl,
   by intros; exact eq_ld rfl rfl,
   by intros; exact eq_cv rfl (Nat.le_of_ble_eq_true rfl) rfl rfl rfl (Nat.le_of_ble_eq_true rfl),
   by intros; exact eq_go rfl,
   by intros; exact eq_push rfl,
   by intros; exact eq_st rfl (by decide) (Nat.le_of_ble_eq_true rfl) rfl,
   by intros; exact eq_ld rfl rfl,
   by intros; exact eq_nul rfl,
   by intros; exact eq_ld rfl rfl,
   by intros; exact eq_push rfl,
   by intros; exact eq_push rfl,
   by intros; exact eq_cs rfl (Nat.le_of_ble_eq_true rfl) rfl rfl rfl (Nat.le_of_ble_eq_true rfl),
   by intros; exact eq_if1 rfl,
   by intros; exact eq_push rfl,
   by intros; exact eq_ret rfl,
   by intros; exact eq_ld rfl rfl,
   by intros; exact eq_sw rfl,
   by intros; exact eq_ld rfl rfl,
   by intros; exact eq_ld rfl rfl,
   by intros; exact eq_ld rfl rfl,
   by intros; exact eq_gr rfl,
   by intros; exact eq_cu rfl (Nat.le_of_ble_eq_true rfl) rfl rfl rfl (Nat.le_of_ble_eq_true rfl),
   by intros; exact eq_st rfl (by decide) (Nat.le_of_ble_eq_true rfl) rfl,
   by intros; exact eq_go rfl,
   by intros; exact eq_ld rfl rfl,
   by intros; exact eq_ld rfl rfl,
   by intros; exact eq_ld rfl rfl,
   by intros; exact eq_gr rfl,
   by intros; exact eq_cu rfl (Nat.le_of_ble_eq_true rfl) rfl rfl rfl (Nat.le_of_ble_eq_true rfl),
   by intros; exact eq_st rfl (by decide) (Nat.le_of_ble_eq_true rfl) rfl,
   by intros; exact eq_go rfl,
   by intros; exact eq_ld rfl rfl,
   by intros; exact eq_ld rfl rfl,
   by intros; exact eq_ld rfl rfl,
   by intros; exact eq_gr rfl,
   by intros; exact eq_cu rfl (Nat.le_of_ble_eq_true rfl) rfl rfl rfl (Nat.le_of_ble_eq_true rfl),
   by intros; exact eq_st rfl (by decide) (Nat.le_of_ble_eq_true rfl) rfl,
   by intros; exact eq_go rfl,
   by intros; exact eq_ld rfl rfl,
   by intros; exact eq_ld rfl rfl,
   by intros; exact eq_ld rfl rfl,
   by intros; exact eq_gr rfl,
   by intros; exact eq_cu rfl (Nat.le_of_ble_eq_true rfl) rfl rfl rfl (Nat.le_of_ble_eq_true rfl),
   by intros; exact eq_st rfl (by decide) (Nat.le_of_ble_eq_true rfl) rfl,
   by intros; exact eq_ld rfl rfl,
   by intros; exact eq_gr rfl,
   by intros; exact eq_cv rfl (Nat.le_of_ble_eq_true rfl) rfl rfl rfl (Nat.le_of_ble_eq_true rfl),
   by intros; exact eq_if0 rfl,
   by intros; exact eq_push rfl,
   by intros; exact eq_go rfl,
   by intros; exact eq_ld rfl rfl,
   by intros; exact eq_ret rfl⟩
theorem rw_X11_trace :
  (∀ (d : Nat) (a0 a1 : Int) (S h : mx_H) (n : Int), mx_M d 138 [(2, a0), (0, a1)] S h n = mx_ex d 138 0 [some (2, a0), some (0, a1)] [] S h n) ∧
  (∀ (d : Nat) (x : Int) (l0 : Option mx_V) (S h : mx_H) (n : Int), mx_ex d 138 0 [l0, some (0, x)] [] S h n = mx_ex d 138 1 [l0, some (0, x)] [(0, x)] S h n) ∧
  (∀ (d : Nat) (l0 l1 : Option mx_V) (v0 : mx_V) (S h : mx_H) (n : Int), mx_ex d 138 1 [l0, l1] [v0] S h n = mx_ex d 138 2 [l0, l1] [(0, 0), v0] S h n) ∧
  (∀ (d : Nat) (x : Int) (l1 : Option mx_V) (v0 v1 : mx_V) (S h : mx_H) (n : Int), mx_ex d 138 2 [some (2, x), l1] [v0, v1] S h n = mx_ex d 138 3 [some (2, x), l1] [(2, x), v0, v1] S h n) ∧
  (∀ (d : Nat) (a : Int) (l0 l1 : Option mx_V) (v1 v2 : mx_V) (S h : mx_H) (n : Int), mx_ex d 138 3 [l0, l1] [(2, a), v1, v2] S h n = mx_gd (7 ≤ S a (-2) ∧ S a (-2) ≤ 7) d 138 6 [l0, l1] [(2, S a 16), v1, v2] S h n) ∧
  (∀ (d : Nat) (a : Int) (l0 l1 : Option mx_V) (v1 v2 : mx_V) (S h : mx_H) (n : Int), mx_ex (d + 1) 138 6 [l0, l1] [(2, a), v1, v2] S h n = mx_cl (S a (-2) = 11) d 78 [(2, a)] 138 9 [l0, l1] [v1, v2] S h n) ∧
  (∀ (d : Nat) (l0 l1 : Option mx_V) (v0 v1 v2 : mx_V) (S h : mx_H) (n : Int), mx_ex d 138 9 [l0, l1] [v0, v1, v2] S h n = mx_ex d 138 10 [l0, l1] [(0, 1), v0, v1, v2] S h n) ∧
  (∀ (d : Nat) (b a : Int) (l0 l1 : Option mx_V) (v2 v3 : mx_V) (S h : mx_H) (n : Int), mx_ex d 138 10 [l0, l1] [(0, b), (0, a), v2, v3] S h n = mx_ex d 138 11 [l0, l1] [(0, mx_w (a - b)), v2, v3] S h n) ∧
  (∀ (d : Nat) (x0 x1 x2 : Int) (l0 l1 : Option mx_V) (S h : mx_H) (n : Int), mx_ex (d + 1) 138 11 [l0, l1] [(0, x0), (0, x1), (0, x2)] S h n = mx_rt (mx_M d 145 [(0, x2), (0, x1), (0, x0)] S h n) (d + 1) 138 14 [l0, l1] []) ∧
  (∀ (d : Nat) (a : Int) (l0 l1 : Option mx_V) (S h : mx_H) (n : Int), mx_ex d 138 14 [l0, l1] [(0, a)] S h n = mx_br (a = 0) d 138 29 17 [l0, l1] [] S h n) ∧
  (∀ (d : Nat) (x : Int) (l1 : Option mx_V) (S h : mx_H) (n : Int), mx_ex d 138 17 [some (2, x), l1] [] S h n = mx_ex d 138 18 [some (2, x), l1] [(2, x)] S h n) ∧
  (∀ (d : Nat) (a : Int) (l0 l1 : Option mx_V) (S h : mx_H) (n : Int), mx_ex d 138 18 [l0, l1] [(2, a)] S h n = mx_gd (7 ≤ S a (-2) ∧ S a (-2) ≤ 7) d 138 21 [l0, l1] [(2, S a 16)] S h n) ∧
  (∀ (d : Nat) (a : Int) (l0 l1 : Option mx_V) (S h : mx_H) (n : Int), mx_ex d 138 21 [l0, l1] [(2, a)] S h n = mx_gd (11 ≤ S a (-2) ∧ S a (-2) ≤ 11) d 138 24 [l0, l1] [(2, S a 0)] S h n) ∧
  (∀ (d : Nat) (x : Int) (l0 : Option mx_V) (v0 : mx_V) (S h : mx_H) (n : Int), mx_ex d 138 24 [l0, some (0, x)] [v0] S h n = mx_ex d 138 25 [l0, some (0, x)] [(0, x), v0] S h n) ∧
  (∀ (d : Nat) (i a : Int) (l0 l1 : Option mx_V) (S h : mx_H) (n : Int), mx_ex d 138 25 [l0, l1] [(0, i), (2, a)] S h n = mx_gd ((S a (-2) = 20 ∨ S a (-2) = 24) ∧ 0 ≤ i ∧ i < S a (-1)) d 138 26 [l0, l1] [(0, h a i)] S h n) ∧
  (∀ (d : Nat) (l0 l1 : Option mx_V) (v0 : mx_V) (S h : mx_H) (n : Int), mx_ex d 138 26 [l0, l1] [v0] S h n = mx_ex d 138 31 [l0, l1] [v0] S h n) ∧
  (∀ (d : Nat) (l0 l1 : Option mx_V) (S h : mx_H) (n : Int), mx_ex d 138 29 [l0, l1] [] S h n = mx_ex d 138 31 [l0, l1] [(0, (-3))] S h n) ∧
  (∀ (d : Nat) (x : Int) (l0 l1 : Option mx_V) (S h : mx_H) (n : Int), mx_ex d 138 31 [l0, l1] [(0, x)] S h n = some (some (0, x), S, h, n)) :=
  ⟨by intros; exact rfl,
   by intros; exact eq_ld rfl rfl,
   by intros; exact eq_push rfl,
   by intros; exact eq_ld rfl rfl,
   by intros; exact eq_gr rfl,
   by intros; exact eq_cv rfl (Nat.le_of_ble_eq_true rfl) rfl rfl rfl (Nat.le_of_ble_eq_true rfl),
   by intros; exact eq_push rfl,
   by intros; exact eq_i2 (o := mx_sub) rfl,
   by intros; exact eq_cs rfl (Nat.le_of_ble_eq_true rfl) rfl rfl rfl (Nat.le_of_ble_eq_true rfl),
   by intros; exact eq_if0 rfl,
   by intros; exact eq_ld rfl rfl,
   by intros; exact eq_gr rfl,
   by intros; exact eq_gr rfl,
   by intros; exact eq_ld rfl rfl,
   by intros; exact eq_iald rfl,
   by intros; exact eq_go rfl,
   by intros; exact eq_push rfl,
   by intros; exact eq_ret rfl⟩
theorem rw_X11_many :
  (∀ (d : Nat) (a0 a1 : Int) (S h : mx_H) (n : Int), mx_M d 139 [(2, a0), (0, a1)] S h n = mx_ex d 139 0 [some (2, a0), some (0, a1)] [] S h n) ∧
  (∀ (d : Nat) (x : Int) (l0 : Option mx_V) (S h : mx_H) (n : Int), mx_ex d 139 0 [l0, some (0, x)] [] S h n = mx_ex d 139 1 [l0, some (0, x)] [(0, x)] S h n) ∧
  (∀ (d : Nat) (a : Int) (l0 l1 : Option mx_V) (S h : mx_H) (n : Int), mx_ex d 139 1 [l0, l1] [(0, a)] S h n = mx_sw a [(0, 36), (1, 44), (2, 52), (3, 57), (4, 62)] d 139 70 [l0, l1] [] S h n) ∧
  (∀ (d : Nat) (x : Int) (l1 : Option mx_V) (S h : mx_H) (n : Int), mx_ex d 139 36 [some (2, x), l1] [] S h n = mx_ex d 139 37 [some (2, x), l1] [(2, x)] S h n) ∧
  (∀ (d : Nat) (a : Int) (l0 l1 : Option mx_V) (S h : mx_H) (n : Int), mx_ex d 139 37 [l0, l1] [(2, a)] S h n = mx_gd (7 ≤ S a (-2) ∧ S a (-2) ≤ 7) d 139 40 [l0, l1] [(2, S a 3)] S h n) ∧
  (∀ (d : Nat) (a : Int) (l0 l1 : Option mx_V) (S h : mx_H) (n : Int), mx_ex d 139 40 [l0, l1] [(2, a)] S h n = mx_gd (8 ≤ S a (-2) ∧ S a (-2) ≤ 8) d 139 43 [l0, l1] [(0, h a 3)] S h n) ∧
  (∀ (d : Nat) (x : Int) (l0 l1 : Option mx_V) (S h : mx_H) (n : Int), mx_ex d 139 43 [l0, l1] [(0, x)] S h n = some (some (0, x), S, h, n)) ∧
  (∀ (d : Nat) (x : Int) (l1 : Option mx_V) (S h : mx_H) (n : Int), mx_ex d 139 44 [some (2, x), l1] [] S h n = mx_ex d 139 45 [some (2, x), l1] [(2, x)] S h n) ∧
  (∀ (d : Nat) (a : Int) (l0 l1 : Option mx_V) (S h : mx_H) (n : Int), mx_ex d 139 45 [l0, l1] [(2, a)] S h n = mx_gd (7 ≤ S a (-2) ∧ S a (-2) ≤ 7) d 139 48 [l0, l1] [(2, S a 3)] S h n) ∧
  (∀ (d : Nat) (a : Int) (l0 l1 : Option mx_V) (S h : mx_H) (n : Int), mx_ex d 139 48 [l0, l1] [(2, a)] S h n = mx_gd (8 ≤ S a (-2) ∧ S a (-2) ≤ 8) d 139 51 [l0, l1] [(0, h a 4)] S h n) ∧
  (∀ (d : Nat) (x : Int) (l0 l1 : Option mx_V) (S h : mx_H) (n : Int), mx_ex d 139 51 [l0, l1] [(0, x)] S h n = some (some (0, x), S, h, n)) ∧
  (∀ (d : Nat) (x : Int) (l1 : Option mx_V) (S h : mx_H) (n : Int), mx_ex d 139 52 [some (2, x), l1] [] S h n = mx_ex d 139 53 [some (2, x), l1] [(2, x)] S h n) ∧
  (∀ (d : Nat) (a : Int) (l0 l1 : Option mx_V) (S h : mx_H) (n : Int), mx_ex d 139 53 [l0, l1] [(2, a)] S h n = mx_gd (7 ≤ S a (-2) ∧ S a (-2) ≤ 7) d 139 56 [l0, l1] [(0, h a 10)] S h n) ∧
  (∀ (d : Nat) (x : Int) (l0 l1 : Option mx_V) (S h : mx_H) (n : Int), mx_ex d 139 56 [l0, l1] [(0, x)] S h n = some (some (0, x), S, h, n)) ∧
  (∀ (d : Nat) (x : Int) (l1 : Option mx_V) (S h : mx_H) (n : Int), mx_ex d 139 57 [some (2, x), l1] [] S h n = mx_ex d 139 58 [some (2, x), l1] [(2, x)] S h n) ∧
  (∀ (d : Nat) (a : Int) (l0 l1 : Option mx_V) (S h : mx_H) (n : Int), mx_ex d 139 58 [l0, l1] [(2, a)] S h n = mx_gd (7 ≤ S a (-2) ∧ S a (-2) ≤ 7) d 139 61 [l0, l1] [(0, h a 1)] S h n) ∧
  (∀ (d : Nat) (x : Int) (l0 l1 : Option mx_V) (S h : mx_H) (n : Int), mx_ex d 139 61 [l0, l1] [(0, x)] S h n = some (some (0, x), S, h, n)) ∧
  (∀ (d : Nat) (x : Int) (l1 : Option mx_V) (S h : mx_H) (n : Int), mx_ex d 139 62 [some (2, x), l1] [] S h n = mx_ex d 139 63 [some (2, x), l1] [(2, x)] S h n) ∧
  (∀ (d : Nat) (a : Int) (l0 l1 : Option mx_V) (S h : mx_H) (n : Int), mx_ex d 139 63 [l0, l1] [(2, a)] S h n = mx_gd (7 ≤ S a (-2) ∧ S a (-2) ≤ 7) d 139 66 [l0, l1] [(2, S a 16)] S h n) ∧
  (∀ (d : Nat) (a : Int) (l0 l1 : Option mx_V) (S h : mx_H) (n : Int), mx_ex (d + 1) 139 66 [l0, l1] [(2, a)] S h n = mx_cl (S a (-2) = 11) d 78 [(2, a)] 139 69 [l0, l1] [] S h n) ∧
  (∀ (d : Nat) (x : Int) (l0 l1 : Option mx_V) (S h : mx_H) (n : Int), mx_ex d 139 69 [l0, l1] [(0, x)] S h n = some (some (0, x), S, h, n)) ∧
  (∀ (d : Nat) (l0 l1 : Option mx_V) (S h : mx_H) (n : Int), mx_ex d 139 70 [l0, l1] [] S h n = mx_ex d 139 71 [l0, l1] [(0, (-1))] S h n) ∧
  (∀ (d : Nat) (x : Int) (l0 l1 : Option mx_V) (S h : mx_H) (n : Int), mx_ex d 139 71 [l0, l1] [(0, x)] S h n = some (some (0, x), S, h, n)) :=
  ⟨by intros; exact rfl,
   by intros; exact eq_ld rfl rfl,
   by intros; exact eq_sw rfl,
   by intros; exact eq_ld rfl rfl,
   by intros; exact eq_gr rfl,
   by intros; exact eq_gi rfl,
   by intros; exact eq_ret rfl,
   by intros; exact eq_ld rfl rfl,
   by intros; exact eq_gr rfl,
   by intros; exact eq_gi rfl,
   by intros; exact eq_ret rfl,
   by intros; exact eq_ld rfl rfl,
   by intros; exact eq_gi rfl,
   by intros; exact eq_ret rfl,
   by intros; exact eq_ld rfl rfl,
   by intros; exact eq_gi rfl,
   by intros; exact eq_ret rfl,
   by intros; exact eq_ld rfl rfl,
   by intros; exact eq_gr rfl,
   by intros; exact eq_cv rfl (Nat.le_of_ble_eq_true rfl) rfl rfl rfl (Nat.le_of_ble_eq_true rfl),
   by intros; exact eq_ret rfl,
   by intros; exact eq_push rfl,
   by intros; exact eq_ret rfl⟩
theorem rw_X11_keep :
  (∀ (d : Nat) (a0 : Int) (S h : mx_H) (n : Int), mx_M d 140 [(2, a0)] S h n = mx_ex d 140 0 [some (2, a0)] [] S h n) ∧
  (∀ (d : Nat) (x : Int) (S h : mx_H) (n : Int), mx_ex d 140 0 [some (2, x)] [] S h n = mx_ex d 140 1 [some (2, x)] [(2, x)] S h n) ∧
  (∀ (d : Nat) (a : Int) (l0 : Option mx_V) (S h : mx_H) (n : Int), mx_ex d 140 1 [l0] [(2, a)] S h n = mx_gd (7 ≤ S a (-2) ∧ S a (-2) ≤ 7) d 140 4 [l0] [(2, S a 4)] S h n) ∧
  (∀ (d : Nat) (x : Int) (v0 : mx_V) (S h : mx_H) (n : Int), mx_ex d 140 4 [some (2, x)] [v0] S h n = mx_ex d 140 5 [some (2, x)] [(2, x), v0] S h n) ∧
  (∀ (d : Nat) (a : Int) (l0 : Option mx_V) (v1 : mx_V) (S h : mx_H) (n : Int), mx_ex d 140 5 [l0] [(2, a), v1] S h n = mx_gd (7 ≤ S a (-2) ∧ S a (-2) ≤ 7) d 140 8 [l0] [(2, S a 3), v1] S h n) ∧
  (∀ (d : Nat) (x0 a : Int) (l0 : Option mx_V) (S h : mx_H) (n : Int), mx_ex (d + 1) 140 8 [l0] [(2, x0), (2, a)] S h n = mx_cl (S a (-2) = 8) d 86 [(2, a), (2, x0)] 140 11 [l0] [] S h n) ∧
  (∀ (d : Nat) (x : Int) (S h : mx_H) (n : Int), mx_ex d 140 11 [some (2, x)] [] S h n = mx_ex d 140 12 [some (2, x)] [(2, x)] S h n) ∧
  (∀ (d : Nat) (x : Int) (v0 : mx_V) (S h : mx_H) (n : Int), mx_ex d 140 12 [some (2, x)] [v0] S h n = mx_ex d 140 13 [some (2, x)] [(2, x), v0] S h n) ∧
  (∀ (d : Nat) (a : Int) (l0 : Option mx_V) (v1 : mx_V) (S h : mx_H) (n : Int), mx_ex d 140 13 [l0] [(2, a), v1] S h n = mx_gd (7 ≤ S a (-2) ∧ S a (-2) ≤ 7) d 140 16 [l0] [(0, h a 6), v1] S h n) ∧
  (∀ (d : Nat) (v a : Int) (l0 : Option mx_V) (S h : mx_H) (n : Int), mx_ex d 140 16 [l0] [(0, v), (2, a)] S h n = mx_gd (7 ≤ S a (-2) ∧ S a (-2) ≤ 7) d 140 19 [l0] [] S (mx_u h a 7 v) n) ∧
  (∀ (d : Nat) (x : Int) (S h : mx_H) (n : Int), mx_ex d 140 19 [some (2, x)] [] S h n = mx_ex d 140 20 [some (2, x)] [(2, x)] S h n) ∧
  (∀ (d : Nat) (l0 : Option mx_V) (v0 : mx_V) (S h : mx_H) (n : Int), mx_ex d 140 20 [l0] [v0] S h n = mx_ex d 140 21 [l0] [(0, 1), v0] S h n) ∧
  (∀ (d : Nat) (v a : Int) (l0 : Option mx_V) (S h : mx_H) (n : Int), mx_ex d 140 21 [l0] [(0, v), (2, a)] S h n = mx_gd (7 ≤ S a (-2) ∧ S a (-2) ≤ 7 ∧ 0 ≤ v ∧ v ≤ 1) d 140 24 [l0] [] S (mx_u h a 5 v) n) ∧
  (∀ (d : Nat) (l0 : Option mx_V) (S h : mx_H) (n : Int), mx_ex d 140 24 [l0] [] S h n = mx_ex d 140 25 [l0] [(0, 1)] S h n) ∧
  (∀ (d : Nat) (x : Int) (l0 : Option mx_V) (S h : mx_H) (n : Int), mx_ex d 140 25 [l0] [(0, x)] S h n = some (some (0, x), S, h, n)) :=
  ⟨by intros; exact rfl,
   by intros; exact eq_ld rfl rfl,
   by intros; exact eq_gr rfl,
   by intros; exact eq_ld rfl rfl,
   by intros; exact eq_gr rfl,
   by intros; exact eq_cv rfl (Nat.le_of_ble_eq_true rfl) rfl rfl rfl (Nat.le_of_ble_eq_true rfl),
   by intros; exact eq_ld rfl rfl,
   by intros; exact eq_ld rfl rfl,
   by intros; exact eq_gi rfl,
   by intros; exact eq_pi rfl,
   by intros; exact eq_ld rfl rfl,
   by intros; exact eq_push rfl,
   by intros; exact eq_pz rfl,
   by intros; exact eq_push rfl,
   by intros; exact eq_ret rfl⟩
theorem rw_X11_again :
  (∀ (d : Nat) (a0 : Int) (S h : mx_H) (n : Int), mx_M d 141 [(2, a0)] S h n = mx_ex d 141 0 [some (2, a0)] [] S h n) ∧
  (∀ (d : Nat) (x : Int) (S h : mx_H) (n : Int), mx_ex d 141 0 [some (2, x)] [] S h n = mx_ex d 141 1 [some (2, x)] [(2, x)] S h n) ∧
  (∀ (d : Nat) (a : Int) (l0 : Option mx_V) (S h : mx_H) (n : Int), mx_ex d 141 1 [l0] [(2, a)] S h n = mx_gd (7 ≤ S a (-2) ∧ S a (-2) ≤ 7) d 141 4 [l0] [(0, h a 5)] S h n) ∧
  (∀ (d : Nat) (a : Int) (l0 : Option mx_V) (S h : mx_H) (n : Int), mx_ex d 141 4 [l0] [(0, a)] S h n = mx_br (a = 0) d 141 7 10 [l0] [] S h n) ∧
  (∀ (d : Nat) (l0 : Option mx_V) (S h : mx_H) (n : Int), mx_ex d 141 7 [l0] [] S h n = mx_ex d 141 9 [l0] [(0, (-3))] S h n) ∧
  (∀ (d : Nat) (x : Int) (l0 : Option mx_V) (S h : mx_H) (n : Int), mx_ex d 141 9 [l0] [(0, x)] S h n = some (some (0, x), S, h, n)) ∧
  (∀ (d : Nat) (x : Int) (S h : mx_H) (n : Int), mx_ex d 141 10 [some (2, x)] [] S h n = mx_ex d 141 11 [some (2, x)] [(2, x)] S h n) ∧
  (∀ (d : Nat) (a : Int) (l0 : Option mx_V) (S h : mx_H) (n : Int), mx_ex d 141 11 [l0] [(2, a)] S h n = mx_gd (7 ≤ S a (-2) ∧ S a (-2) ≤ 7) d 141 14 [l0] [(2, S a 3)] S h n) ∧
  (∀ (d : Nat) (x : Int) (v0 : mx_V) (S h : mx_H) (n : Int), mx_ex d 141 14 [some (2, x)] [v0] S h n = mx_ex d 141 15 [some (2, x)] [(2, x), v0] S h n) ∧
  (∀ (d : Nat) (a : Int) (l0 : Option mx_V) (v1 : mx_V) (S h : mx_H) (n : Int), mx_ex d 141 15 [l0] [(2, a), v1] S h n = mx_gd (7 ≤ S a (-2) ∧ S a (-2) ≤ 7) d 141 18 [l0] [(2, S a 4), v1] S h n) ∧
  (∀ (d : Nat) (x0 a : Int) (l0 : Option mx_V) (S h : mx_H) (n : Int), mx_ex (d + 1) 141 18 [l0] [(2, x0), (2, a)] S h n = mx_cl (S a (-2) = 8) d 86 [(2, a), (2, x0)] 141 21 [l0] [] S h n) ∧
  (∀ (d : Nat) (x : Int) (S h : mx_H) (n : Int), mx_ex d 141 21 [some (2, x)] [] S h n = mx_ex d 141 22 [some (2, x)] [(2, x)] S h n) ∧
  (∀ (d : Nat) (x : Int) (v0 : mx_V) (S h : mx_H) (n : Int), mx_ex d 141 22 [some (2, x)] [v0] S h n = mx_ex d 141 23 [some (2, x)] [(2, x), v0] S h n) ∧
  (∀ (d : Nat) (a : Int) (l0 : Option mx_V) (v1 : mx_V) (S h : mx_H) (n : Int), mx_ex d 141 23 [l0] [(2, a), v1] S h n = mx_gd (7 ≤ S a (-2) ∧ S a (-2) ≤ 7) d 141 26 [l0] [(0, h a 7), v1] S h n) ∧
  (∀ (d : Nat) (v a : Int) (l0 : Option mx_V) (S h : mx_H) (n : Int), mx_ex d 141 26 [l0] [(0, v), (2, a)] S h n = mx_gd (7 ≤ S a (-2) ∧ S a (-2) ≤ 7) d 141 29 [l0] [] S (mx_u h a 6 v) n) ∧
  (∀ (d : Nat) (x : Int) (S h : mx_H) (n : Int), mx_ex d 141 29 [some (2, x)] [] S h n = mx_ex d 141 30 [some (2, x)] [(2, x)] S h n) ∧
  (∀ (d : Nat) (a : Int) (l0 : Option mx_V) (S h : mx_H) (n : Int), mx_ex d 141 30 [l0] [(2, a)] S h n = mx_gd (7 ≤ S a (-2) ∧ S a (-2) ≤ 7) d 141 33 [l0] [(2, S a 3)] S h n) ∧
  (∀ (d : Nat) (a : Int) (l0 : Option mx_V) (S h : mx_H) (n : Int), mx_ex d 141 33 [l0] [(2, a)] S h n = mx_gd (8 ≤ S a (-2) ∧ S a (-2) ≤ 8) d 141 36 [l0] [(0, h a 3)] S h n) ∧
  (∀ (d : Nat) (x : Int) (l0 : Option mx_V) (S h : mx_H) (n : Int), mx_ex d 141 36 [l0] [(0, x)] S h n = some (some (0, x), S, h, n)) :=
  ⟨by intros; exact rfl,
   by intros; exact eq_ld rfl rfl,
   by intros; exact eq_gi rfl,
   by intros; exact eq_if1 rfl,
   by intros; exact eq_push rfl,
   by intros; exact eq_ret rfl,
   by intros; exact eq_ld rfl rfl,
   by intros; exact eq_gr rfl,
   by intros; exact eq_ld rfl rfl,
   by intros; exact eq_gr rfl,
   by intros; exact eq_cv rfl (Nat.le_of_ble_eq_true rfl) rfl rfl rfl (Nat.le_of_ble_eq_true rfl),
   by intros; exact eq_ld rfl rfl,
   by intros; exact eq_ld rfl rfl,
   by intros; exact eq_gi rfl,
   by intros; exact eq_pi rfl,
   by intros; exact eq_ld rfl rfl,
   by intros; exact eq_gr rfl,
   by intros; exact eq_gi rfl,
   by intros; exact eq_ret rfl⟩
theorem rw_X11_hasRow :
  (∀ (d : Nat) (a0 a1 a2 : Int) (S h : mx_H) (n : Int), mx_M d 142 [(2, a0), (0, a1), (0, a2)] S h n = mx_ex d 142 0 [some (2, a0), some (0, a1), some (0, a2)] [] S h n) ∧
  (∀ (d : Nat) (x : Int) (l0 l2 : Option mx_V) (S h : mx_H) (n : Int), mx_ex d 142 0 [l0, some (0, x), l2] [] S h n = mx_ex d 142 1 [l0, some (0, x), l2] [(0, x)] S h n) ∧
  (∀ (d : Nat) (l0 l1 l2 : Option mx_V) (v0 : mx_V) (S h : mx_H) (n : Int), mx_ex d 142 1 [l0, l1, l2] [v0] S h n = mx_ex d 142 2 [l0, l1, l2] [(0, 0), v0] S h n) ∧
  (∀ (d : Nat) (x : Int) (l1 l2 : Option mx_V) (v0 v1 : mx_V) (S h : mx_H) (n : Int), mx_ex d 142 2 [some (2, x), l1, l2] [v0, v1] S h n = mx_ex d 142 3 [some (2, x), l1, l2] [(2, x), v0, v1] S h n) ∧
  (∀ (d : Nat) (a : Int) (l0 l1 l2 : Option mx_V) (v1 v2 : mx_V) (S h : mx_H) (n : Int), mx_ex d 142 3 [l0, l1, l2] [(2, a), v1, v2] S h n = mx_gd (7 ≤ S a (-2) ∧ S a (-2) ≤ 7) d 142 6 [l0, l1, l2] [(0, h a 10), v1, v2] S h n) ∧
  (∀ (d : Nat) (l0 l1 l2 : Option mx_V) (v0 v1 v2 : mx_V) (S h : mx_H) (n : Int), mx_ex d 142 6 [l0, l1, l2] [v0, v1, v2] S h n = mx_ex d 142 7 [l0, l1, l2] [(0, 1), v0, v1, v2] S h n) ∧
  (∀ (d : Nat) (b a : Int) (l0 l1 l2 : Option mx_V) (v2 v3 : mx_V) (S h : mx_H) (n : Int), mx_ex d 142 7 [l0, l1, l2] [(0, b), (0, a), v2, v3] S h n = mx_ex d 142 8 [l0, l1, l2] [(0, mx_w (a - b)), v2, v3] S h n) ∧
  (∀ (d : Nat) (x0 x1 x2 : Int) (l0 l1 l2 : Option mx_V) (S h : mx_H) (n : Int), mx_ex (d + 1) 142 8 [l0, l1, l2] [(0, x0), (0, x1), (0, x2)] S h n = mx_rt (mx_M d 145 [(0, x2), (0, x1), (0, x0)] S h n) (d + 1) 142 11 [l0, l1, l2] []) ∧
  (∀ (d : Nat) (a : Int) (l0 l1 l2 : Option mx_V) (S h : mx_H) (n : Int), mx_ex d 142 11 [l0, l1, l2] [(0, a)] S h n = mx_br (a = 0) d 142 27 14 [l0, l1, l2] [] S h n) ∧
  (∀ (d : Nat) (x : Int) (l0 l1 : Option mx_V) (S h : mx_H) (n : Int), mx_ex d 142 14 [l0, l1, some (0, x)] [] S h n = mx_ex d 142 15 [l0, l1, some (0, x)] [(0, x)] S h n) ∧
  (∀ (d : Nat) (l0 l1 l2 : Option mx_V) (v0 : mx_V) (S h : mx_H) (n : Int), mx_ex d 142 15 [l0, l1, l2] [v0] S h n = mx_ex d 142 16 [l0, l1, l2] [(0, 0), v0] S h n) ∧
  (∀ (d : Nat) (l0 l1 l2 : Option mx_V) (v0 v1 : mx_V) (S h : mx_H) (n : Int), mx_ex d 142 16 [l0, l1, l2] [v0, v1] S h n = mx_ex d 142 17 [l0, l1, l2] [(0, 2), v0, v1] S h n) ∧
  (∀ (d : Nat) (x0 x1 x2 : Int) (l0 l1 l2 : Option mx_V) (S h : mx_H) (n : Int), mx_ex (d + 1) 142 17 [l0, l1, l2] [(0, x0), (0, x1), (0, x2)] S h n = mx_rt (mx_M d 145 [(0, x2), (0, x1), (0, x0)] S h n) (d + 1) 142 20 [l0, l1, l2] []) ∧
  (∀ (d : Nat) (a : Int) (l0 l1 l2 : Option mx_V) (S h : mx_H) (n : Int), mx_ex d 142 20 [l0, l1, l2] [(0, a)] S h n = mx_br (a = 0) d 142 27 23 [l0, l1, l2] [] S h n) ∧
  (∀ (d : Nat) (l0 l1 l2 : Option mx_V) (S h : mx_H) (n : Int), mx_ex d 142 23 [l0, l1, l2] [] S h n = mx_ex d 142 24 [l0, l1, l2] [(0, 1)] S h n) ∧
  (∀ (d : Nat) (l0 l1 l2 : Option mx_V) (v0 : mx_V) (S h : mx_H) (n : Int), mx_ex d 142 24 [l0, l1, l2] [v0] S h n = mx_ex d 142 28 [l0, l1, l2] [v0] S h n) ∧
  (∀ (d : Nat) (l0 l1 l2 : Option mx_V) (S h : mx_H) (n : Int), mx_ex d 142 27 [l0, l1, l2] [] S h n = mx_ex d 142 28 [l0, l1, l2] [(0, 0)] S h n) ∧
  (∀ (d : Nat) (x : Int) (l0 l1 l2 : Option mx_V) (S h : mx_H) (n : Int), mx_ex d 142 28 [l0, l1, l2] [(0, x)] S h n = mx_re (0 ≤ x ∧ x ≤ 1) (some (0, x)) S h n) :=
  ⟨by intros; exact rfl,
   by intros; exact eq_ld rfl rfl,
   by intros; exact eq_push rfl,
   by intros; exact eq_ld rfl rfl,
   by intros; exact eq_gi rfl,
   by intros; exact eq_push rfl,
   by intros; exact eq_i2 (o := mx_sub) rfl,
   by intros; exact eq_cs rfl (Nat.le_of_ble_eq_true rfl) rfl rfl rfl (Nat.le_of_ble_eq_true rfl),
   by intros; exact eq_if0 rfl,
   by intros; exact eq_ld rfl rfl,
   by intros; exact eq_push rfl,
   by intros; exact eq_push rfl,
   by intros; exact eq_cs rfl (Nat.le_of_ble_eq_true rfl) rfl rfl rfl (Nat.le_of_ble_eq_true rfl),
   by intros; exact eq_if0 rfl,
   by intros; exact eq_push rfl,
   by intros; exact eq_go rfl,
   by intros; exact eq_push rfl,
   by intros; exact eq_rr rfl⟩
theorem rw_X11_isRightRow :
  (∀ (d : Nat) (a0 a1 : Int) (S h : mx_H) (n : Int), mx_M d 143 [(2, a0), (0, a1)] S h n = mx_ex d 143 0 [some (2, a0), some (0, a1), none, none, none, none] [] S h n) ∧
  (∀ (d : Nat) (x : Int) (l1 l2 l3 l4 l5 : Option mx_V) (S h : mx_H) (n : Int), mx_ex d 143 0 [some (2, x), l1, l2, l3, l4, l5] [] S h n = mx_ex d 143 1 [some (2, x), l1, l2, l3, l4, l5] [(2, x)] S h n) ∧
  (∀ (d : Nat) (a : Int) (l0 l1 l2 l3 l4 l5 : Option mx_V) (S h : mx_H) (n : Int), mx_ex d 143 1 [l0, l1, l2, l3, l4, l5] [(2, a)] S h n = mx_gd (7 ≤ S a (-2) ∧ S a (-2) ≤ 7) d 143 4 [l0, l1, l2, l3, l4, l5] [(2, S a 3)] S h n) ∧
  (∀ (d : Nat) (x : Int) (l0 l2 l3 l4 l5 : Option mx_V) (v0 : mx_V) (S h : mx_H) (n : Int), mx_ex d 143 4 [l0, some (0, x), l2, l3, l4, l5] [v0] S h n = mx_ex d 143 5 [l0, some (0, x), l2, l3, l4, l5] [(0, x), v0] S h n) ∧
  (∀ (d : Nat) (x0 a : Int) (l0 l1 l2 l3 l4 l5 : Option mx_V) (S h : mx_H) (n : Int), mx_ex (d + 1) 143 5 [l0, l1, l2, l3, l4, l5] [(0, x0), (2, a)] S h n = mx_cl (S a (-2) = 8) d 90 [(2, a), (0, x0)] 143 8 [l0, l1, l2, l3, l4, l5] [] S h n) ∧
  (∀ (d : Nat) (x : Int) (l0 l1 l2 l3 l4 l5 : Option mx_V) (S h : mx_H) (n : Int), mx_ex d 143 8 [l0, l1, l2, l3, l4, l5] [(2, x)] S h n = mx_ex d 143 9 [l0, mx_nl l1, some (2, x), l3, l4, l5] [] S h n) ∧
  (∀ (d : Nat) (x : Int) (l0 l1 l3 l4 l5 : Option mx_V) (S h : mx_H) (n : Int), mx_ex d 143 9 [l0, l1, some (2, x), l3, l4, l5] [] S h n = mx_ex d 143 10 [l0, l1, some (2, x), l3, l4, l5] [(2, x)] S h n) ∧
  (∀ (d : Nat) (a : Int) (l0 l1 l2 l3 l4 l5 : Option mx_V) (S h : mx_H) (n : Int), mx_ex d 143 10 [l0, l1, l2, l3, l4, l5] [(2, a)] S h n = mx_br (a = -1) d 143 27 13 [l0, l1, l2, l3, l4, l5] [] S h n) ∧
  (∀ (d : Nat) (x : Int) (l1 l2 l3 l4 l5 : Option mx_V) (S h : mx_H) (n : Int), mx_ex d 143 13 [some (2, x), l1, l2, l3, l4, l5] [] S h n = mx_ex d 143 14 [some (2, x), l1, l2, l3, l4, l5] [(2, x)] S h n) ∧
  (∀ (d : Nat) (a : Int) (l0 l1 l2 l3 l4 l5 : Option mx_V) (S h : mx_H) (n : Int), mx_ex d 143 14 [l0, l1, l2, l3, l4, l5] [(2, a)] S h n = mx_gd (7 ≤ S a (-2) ∧ S a (-2) ≤ 7) d 143 17 [l0, l1, l2, l3, l4, l5] [(2, S a 9)] S h n) ∧
  (∀ (d : Nat) (x : Int) (l0 l2 l3 l4 l5 : Option mx_V) (v0 : mx_V) (S h : mx_H) (n : Int), mx_ex d 143 17 [l0, some (0, x), l2, l3, l4, l5] [v0] S h n = mx_ex d 143 18 [l0, some (0, x), l2, l3, l4, l5] [(0, x), v0] S h n) ∧
  (∀ (d : Nat) (l0 l1 l2 l3 l4 l5 : Option mx_V) (v0 v1 : mx_V) (S h : mx_H) (n : Int), mx_ex d 143 18 [l0, l1, l2, l3, l4, l5] [v0, v1] S h n = mx_ex d 143 19 [l0, l1, l2, l3, l4, l5] [(0, 3), v0, v1] S h n) ∧
  (∀ (d : Nat) (b a : Int) (l0 l1 l2 l3 l4 l5 : Option mx_V) (v2 : mx_V) (S h : mx_H) (n : Int), mx_ex d 143 19 [l0, l1, l2, l3, l4, l5] [(0, b), (0, a), v2] S h n = mx_ex d 143 20 [l0, l1, l2, l3, l4, l5] [(0, mx_w (a * b)), v2] S h n) ∧
  (∀ (d : Nat) (i a : Int) (l0 l1 l2 l3 l4 l5 : Option mx_V) (S h : mx_H) (n : Int), mx_ex d 143 20 [l0, l1, l2, l3, l4, l5] [(0, i), (2, a)] S h n = mx_gd (S a (-2) = 21 ∧ 0 ≤ i ∧ i < S a (-1)) d 143 21 [l0, l1, l2, l3, l4, l5] [(1, h a i)] S h n) ∧
  (∀ (d : Nat) (x : Int) (l0 l2 l3 l4 l5 : Option mx_V) (v0 : mx_V) (S h : mx_H) (n : Int), mx_ex d 143 21 [l0, some (0, x), l2, l3, l4, l5] [v0] S h n = mx_ex d 143 22 [l0, some (0, x), l2, l3, l4, l5] [(0, x), v0] S h n) ∧
  (∀ (d : Nat) (a : Int) (l0 l1 l2 l3 l4 l5 : Option mx_V) (v1 : mx_V) (S h : mx_H) (n : Int), mx_ex d 143 22 [l0, l1, l2, l3, l4, l5] [(0, a), v1] S h n = mx_ex d 143 23 [l0, l1, l2, l3, l4, l5] [(1, a), v1] S h n) ∧
  (∀ (d : Nat) (b a : Int) (l0 l1 l2 l3 l4 l5 : Option mx_V) (S h : mx_H) (n : Int), mx_ex d 143 23 [l0, l1, l2, l3, l4, l5] [(1, b), (1, a)] S h n = mx_ex d 143 24 [l0, l1, l2, l3, l4, l5] [(0, mx_cmp a b)] S h n) ∧
  (∀ (d : Nat) (a : Int) (l0 l1 l2 l3 l4 l5 : Option mx_V) (S h : mx_H) (n : Int), mx_ex d 143 24 [l0, l1, l2, l3, l4, l5] [(0, a)] S h n = mx_br (a = 0) d 143 29 27 [l0, l1, l2, l3, l4, l5] [] S h n) ∧
  (∀ (d : Nat) (l0 l1 l2 l3 l4 l5 : Option mx_V) (S h : mx_H) (n : Int), mx_ex d 143 27 [l0, l1, l2, l3, l4, l5] [] S h n = mx_ex d 143 28 [l0, l1, l2, l3, l4, l5] [(0, 0)] S h n) ∧
  (∀ (d : Nat) (x : Int) (l0 l1 l2 l3 l4 l5 : Option mx_V) (S h : mx_H) (n : Int), mx_ex d 143 28 [l0, l1, l2, l3, l4, l5] [(0, x)] S h n = mx_re (0 ≤ x ∧ x ≤ 1) (some (0, x)) S h n) ∧
  (∀ (d : Nat) (x : Int) (l1 l2 l3 l4 l5 : Option mx_V) (S h : mx_H) (n : Int), mx_ex d 143 29 [some (2, x), l1, l2, l3, l4, l5] [] S h n = mx_ex d 143 30 [some (2, x), l1, l2, l3, l4, l5] [(2, x)] S h n) ∧
  (∀ (d : Nat) (a : Int) (l0 l1 l2 l3 l4 l5 : Option mx_V) (S h : mx_H) (n : Int), mx_ex d 143 30 [l0, l1, l2, l3, l4, l5] [(2, a)] S h n = mx_gd (7 ≤ S a (-2) ∧ S a (-2) ≤ 7) d 143 33 [l0, l1, l2, l3, l4, l5] [(2, S a 9)] S h n) ∧
  (∀ (d : Nat) (x : Int) (l0 l2 l3 l4 l5 : Option mx_V) (v0 : mx_V) (S h : mx_H) (n : Int), mx_ex d 143 33 [l0, some (0, x), l2, l3, l4, l5] [v0] S h n = mx_ex d 143 34 [l0, some (0, x), l2, l3, l4, l5] [(0, x), v0] S h n) ∧
  (∀ (d : Nat) (l0 l1 l2 l3 l4 l5 : Option mx_V) (v0 v1 : mx_V) (S h : mx_H) (n : Int), mx_ex d 143 34 [l0, l1, l2, l3, l4, l5] [v0, v1] S h n = mx_ex d 143 35 [l0, l1, l2, l3, l4, l5] [(0, 3), v0, v1] S h n) ∧
  (∀ (d : Nat) (b a : Int) (l0 l1 l2 l3 l4 l5 : Option mx_V) (v2 : mx_V) (S h : mx_H) (n : Int), mx_ex d 143 35 [l0, l1, l2, l3, l4, l5] [(0, b), (0, a), v2] S h n = mx_ex d 143 36 [l0, l1, l2, l3, l4, l5] [(0, mx_w (a * b)), v2] S h n) ∧
  (∀ (d : Nat) (l0 l1 l2 l3 l4 l5 : Option mx_V) (v0 v1 : mx_V) (S h : mx_H) (n : Int), mx_ex d 143 36 [l0, l1, l2, l3, l4, l5] [v0, v1] S h n = mx_ex d 143 37 [l0, l1, l2, l3, l4, l5] [(0, 1), v0, v1] S h n) ∧
  (∀ (d : Nat) (b a : Int) (l0 l1 l2 l3 l4 l5 : Option mx_V) (v2 : mx_V) (S h : mx_H) (n : Int), mx_ex d 143 37 [l0, l1, l2, l3, l4, l5] [(0, b), (0, a), v2] S h n = mx_ex d 143 38 [l0, l1, l2, l3, l4, l5] [(0, mx_w (a + b)), v2] S h n) ∧
  (∀ (d : Nat) (i a : Int) (l0 l1 l2 l3 l4 l5 : Option mx_V) (S h : mx_H) (n : Int), mx_ex d 143 38 [l0, l1, l2, l3, l4, l5] [(0, i), (2, a)] S h n = mx_gd (S a (-2) = 21 ∧ 0 ≤ i ∧ i < S a (-1)) d 143 39 [l0, l1, l2, l3, l4, l5] [(1, h a i)] S h n) ∧
  (∀ (d : Nat) (x : Int) (l0 l1 l2 l3 l4 l5 : Option mx_V) (S h : mx_H) (n : Int), mx_ex d 143 39 [l0, l1, l2, l3, l4, l5] [(1, x)] S h n = mx_ex d 143 40 [l0, l1, mx_nl l2, some (1, x), none, l5] [] S h n) ∧
  (∀ (d : Nat) (x : Int) (l0 l1 l2 l4 l5 : Option mx_V) (S h : mx_H) (n : Int), mx_ex d 143 40 [l0, l1, l2, some (1, x), l4, l5] [] S h n = mx_ex d 143 41 [l0, l1, l2, some (1, x), l4, l5] [(1, x)] S h n) ∧
  (∀ (d : Nat) (x : Int) (l1 l2 l3 l4 l5 : Option mx_V) (v0 : mx_V) (S h : mx_H) (n : Int), mx_ex d 143 41 [some (2, x), l1, l2, l3, l4, l5] [v0] S h n = mx_ex d 143 42 [some (2, x), l1, l2, l3, l4, l5] [(2, x), v0] S h n) ∧
  (∀ (d : Nat) (a : Int) (l0 l1 l2 l3 l4 l5 : Option mx_V) (v1 : mx_V) (S h : mx_H) (n : Int), mx_ex d 143 42 [l0, l1, l2, l3, l4, l5] [(2, a), v1] S h n = mx_gd (7 ≤ S a (-2) ∧ S a (-2) ≤ 7) d 143 45 [l0, l1, l2, l3, l4, l5] [(2, S a 3), v1] S h n) ∧
  (∀ (d : Nat) (a : Int) (l0 l1 l2 l3 l4 l5 : Option mx_V) (v1 : mx_V) (S h : mx_H) (n : Int), mx_ex d 143 45 [l0, l1, l2, l3, l4, l5] [(2, a), v1] S h n = mx_gd (8 ≤ S a (-2) ∧ S a (-2) ≤ 8) d 143 48 [l0, l1, l2, l3, l4, l5] [(2, S a 0), v1] S h n) ∧
  (∀ (d : Nat) (x : Int) (l0 l1 l3 l4 l5 : Option mx_V) (v0 v1 : mx_V) (S h : mx_H) (n : Int), mx_ex d 143 48 [l0, l1, some (2, x), l3, l4, l5] [v0, v1] S h n = mx_ex d 143 49 [l0, l1, some (2, x), l3, l4, l5] [(2, x), v0, v1] S h n) ∧
  (∀ (d : Nat) (a : Int) (l0 l1 l2 l3 l4 l5 : Option mx_V) (v1 v2 : mx_V) (S h : mx_H) (n : Int), mx_ex d 143 49 [l0, l1, l2, l3, l4, l5] [(2, a), v1, v2] S h n = mx_gd (1 ≤ S a (-2) ∧ S a (-2) ≤ 6) d 143 52 [l0, l1, l2, l3, l4, l5] [(0, h a 3), v1, v2] S h n) ∧
  (∀ (d : Nat) (i a : Int) (l0 l1 l2 l3 l4 l5 : Option mx_V) (v2 : mx_V) (S h : mx_H) (n : Int), mx_ex d 143 52 [l0, l1, l2, l3, l4, l5] [(0, i), (2, a), v2] S h n = mx_gd ((S a (-2) = 20 ∨ S a (-2) = 24) ∧ 0 ≤ i ∧ i < S a (-1)) d 143 53 [l0, l1, l2, l3, l4, l5] [(0, h a i), v2] S h n) ∧
  (∀ (d : Nat) (a : Int) (l0 l1 l2 l3 l4 l5 : Option mx_V) (v1 : mx_V) (S h : mx_H) (n : Int), mx_ex d 143 53 [l0, l1, l2, l3, l4, l5] [(0, a), v1] S h n = mx_ex d 143 54 [l0, l1, l2, l3, l4, l5] [(1, a), v1] S h n) ∧
  (∀ (d : Nat) (b a : Int) (l0 l1 l2 l3 l4 l5 : Option mx_V) (S h : mx_H) (n : Int), mx_ex d 143 54 [l0, l1, l2, l3, l4, l5] [(1, b), (1, a)] S h n = mx_ex d 143 55 [l0, l1, l2, l3, l4, l5] [(0, mx_cmp a b)] S h n) ∧
  (∀ (d : Nat) (a : Int) (l0 l1 l2 l3 l4 l5 : Option mx_V) (S h : mx_H) (n : Int), mx_ex d 143 55 [l0, l1, l2, l3, l4, l5] [(0, a)] S h n = mx_br (a < 0) d 143 76 58 [l0, l1, l2, l3, l4, l5] [] S h n) ∧
  (∀ (d : Nat) (x : Int) (l0 l1 l2 l4 l5 : Option mx_V) (S h : mx_H) (n : Int), mx_ex d 143 58 [l0, l1, l2, some (1, x), l4, l5] [] S h n = mx_ex d 143 59 [l0, l1, l2, some (1, x), l4, l5] [(1, x)] S h n) ∧
  (∀ (d : Nat) (x : Int) (l1 l2 l3 l4 l5 : Option mx_V) (v0 : mx_V) (S h : mx_H) (n : Int), mx_ex d 143 59 [some (2, x), l1, l2, l3, l4, l5] [v0] S h n = mx_ex d 143 60 [some (2, x), l1, l2, l3, l4, l5] [(2, x), v0] S h n) ∧
  (∀ (d : Nat) (a : Int) (l0 l1 l2 l3 l4 l5 : Option mx_V) (v1 : mx_V) (S h : mx_H) (n : Int), mx_ex d 143 60 [l0, l1, l2, l3, l4, l5] [(2, a), v1] S h n = mx_gd (7 ≤ S a (-2) ∧ S a (-2) ≤ 7) d 143 63 [l0, l1, l2, l3, l4, l5] [(2, S a 3), v1] S h n) ∧
  (∀ (d : Nat) (a : Int) (l0 l1 l2 l3 l4 l5 : Option mx_V) (v1 : mx_V) (S h : mx_H) (n : Int), mx_ex d 143 63 [l0, l1, l2, l3, l4, l5] [(2, a), v1] S h n = mx_gd (8 ≤ S a (-2) ∧ S a (-2) ≤ 8) d 143 66 [l0, l1, l2, l3, l4, l5] [(2, S a 1), v1] S h n) ∧
  (∀ (d : Nat) (x : Int) (l0 l1 l3 l4 l5 : Option mx_V) (v0 v1 : mx_V) (S h : mx_H) (n : Int), mx_ex d 143 66 [l0, l1, some (2, x), l3, l4, l5] [v0, v1] S h n = mx_ex d 143 67 [l0, l1, some (2, x), l3, l4, l5] [(2, x), v0, v1] S h n) ∧
  (∀ (d : Nat) (a : Int) (l0 l1 l2 l3 l4 l5 : Option mx_V) (v1 v2 : mx_V) (S h : mx_H) (n : Int), mx_ex d 143 67 [l0, l1, l2, l3, l4, l5] [(2, a), v1, v2] S h n = mx_gd (1 ≤ S a (-2) ∧ S a (-2) ≤ 6) d 143 70 [l0, l1, l2, l3, l4, l5] [(0, h a 3), v1, v2] S h n) ∧
  (∀ (d : Nat) (i a : Int) (l0 l1 l2 l3 l4 l5 : Option mx_V) (v2 : mx_V) (S h : mx_H) (n : Int), mx_ex d 143 70 [l0, l1, l2, l3, l4, l5] [(0, i), (2, a), v2] S h n = mx_gd ((S a (-2) = 20 ∨ S a (-2) = 24) ∧ 0 ≤ i ∧ i < S a (-1)) d 143 71 [l0, l1, l2, l3, l4, l5] [(0, h a i), v2] S h n) ∧
  (∀ (d : Nat) (a : Int) (l0 l1 l2 l3 l4 l5 : Option mx_V) (v1 : mx_V) (S h : mx_H) (n : Int), mx_ex d 143 71 [l0, l1, l2, l3, l4, l5] [(0, a), v1] S h n = mx_ex d 143 72 [l0, l1, l2, l3, l4, l5] [(1, a), v1] S h n) ∧
  (∀ (d : Nat) (b a : Int) (l0 l1 l2 l3 l4 l5 : Option mx_V) (S h : mx_H) (n : Int), mx_ex d 143 72 [l0, l1, l2, l3, l4, l5] [(1, b), (1, a)] S h n = mx_ex d 143 73 [l0, l1, l2, l3, l4, l5] [(0, mx_cmp a b)] S h n) ∧
  (∀ (d : Nat) (a : Int) (l0 l1 l2 l3 l4 l5 : Option mx_V) (S h : mx_H) (n : Int), mx_ex d 143 73 [l0, l1, l2, l3, l4, l5] [(0, a)] S h n = mx_br (0 < a) d 143 76 78 [l0, l1, l2, l3, l4, l5] [] S h n) ∧
  (∀ (d : Nat) (l0 l1 l2 l3 l4 l5 : Option mx_V) (S h : mx_H) (n : Int), mx_ex d 143 76 [l0, l1, l2, l3, l4, l5] [] S h n = mx_ex d 143 77 [l0, l1, l2, l3, l4, l5] [(0, 0)] S h n) ∧
  (∀ (d : Nat) (x : Int) (l0 l1 l2 l3 l4 l5 : Option mx_V) (S h : mx_H) (n : Int), mx_ex d 143 77 [l0, l1, l2, l3, l4, l5] [(0, x)] S h n = mx_re (0 ≤ x ∧ x ≤ 1) (some (0, x)) S h n) ∧
  (∀ (d : Nat) (x : Int) (l0 l1 l2 l4 l5 : Option mx_V) (S h : mx_H) (n : Int), mx_ex d 143 78 [l0, l1, l2, some (1, x), l4, l5] [] S h n = mx_ex d 143 79 [l0, l1, l2, some (1, x), l4, l5] [(1, x)] S h n) ∧
  (∀ (d : Nat) (a : Int) (l0 l1 l2 l3 l4 l5 : Option mx_V) (S h : mx_H) (n : Int), mx_ex d 143 79 [l0, l1, l2, l3, l4, l5] [(1, a)] S h n = mx_ex d 143 80 [l0, l1, l2, l3, l4, l5] [(0, mx_w a)] S h n) ∧
  (∀ (d : Nat) (x : Int) (l0 l1 l2 l3 l4 l5 : Option mx_V) (S h : mx_H) (n : Int), mx_ex d 143 80 [l0, l1, l2, l3, l4, l5] [(0, x)] S h n = mx_ex d 143 82 [l0, l1, l2, l3, mx_nl l4, some (0, x)] [] S h n) ∧
  (∀ (d : Nat) (x : Int) (l1 l2 l3 l4 l5 : Option mx_V) (S h : mx_H) (n : Int), mx_ex d 143 82 [some (2, x), l1, l2, l3, l4, l5] [] S h n = mx_ex d 143 83 [some (2, x), l1, l2, l3, l4, l5] [(2, x)] S h n) ∧
  (∀ (d : Nat) (a : Int) (l0 l1 l2 l3 l4 l5 : Option mx_V) (S h : mx_H) (n : Int), mx_ex d 143 83 [l0, l1, l2, l3, l4, l5] [(2, a)] S h n = mx_gd (7 ≤ S a (-2) ∧ S a (-2) ≤ 7) d 143 86 [l0, l1, l2, l3, l4, l5] [(2, S a 11)] S h n) ∧
  (∀ (d : Nat) (x : Int) (l0 l1 l3 l4 l5 : Option mx_V) (v0 : mx_V) (S h : mx_H) (n : Int), mx_ex d 143 86 [l0, l1, some (2, x), l3, l4, l5] [v0] S h n = mx_ex d 143 87 [l0, l1, some (2, x), l3, l4, l5] [(2, x), v0] S h n) ∧
  (∀ (d : Nat) (a : Int) (l0 l1 l2 l3 l4 l5 : Option mx_V) (v1 : mx_V) (S h : mx_H) (n : Int), mx_ex d 143 87 [l0, l1, l2, l3, l4, l5] [(2, a), v1] S h n = mx_gd (1 ≤ S a (-2) ∧ S a (-2) ≤ 6) d 143 90 [l0, l1, l2, l3, l4, l5] [(0, h a 3), v1] S h n) ∧
  (∀ (d : Nat) (i a : Int) (l0 l1 l2 l3 l4 l5 : Option mx_V) (S h : mx_H) (n : Int), mx_ex d 143 90 [l0, l1, l2, l3, l4, l5] [(0, i), (2, a)] S h n = mx_gd ((S a (-2) = 20 ∨ S a (-2) = 24) ∧ 0 ≤ i ∧ i < S a (-1)) d 143 91 [l0, l1, l2, l3, l4, l5] [(0, h a i)] S h n) ∧
  (∀ (d : Nat) (a : Int) (l0 l1 l2 l3 l4 l5 : Option mx_V) (S h : mx_H) (n : Int), mx_ex d 143 91 [l0, l1, l2, l3, l4, l5] [(0, a)] S h n = mx_br (a = 0) d 143 110 94 [l0, l1, l2, l3, l4, l5] [] S h n) ∧
  (∀ (d : Nat) (x : Int) (l1 l2 l3 l4 l5 : Option mx_V) (S h : mx_H) (n : Int), mx_ex d 143 94 [some (2, x), l1, l2, l3, l4, l5] [] S h n = mx_ex d 143 95 [some (2, x), l1, l2, l3, l4, l5] [(2, x)] S h n) ∧
  (∀ (d : Nat) (a : Int) (l0 l1 l2 l3 l4 l5 : Option mx_V) (S h : mx_H) (n : Int), mx_ex d 143 95 [l0, l1, l2, l3, l4, l5] [(2, a)] S h n = mx_gd (7 ≤ S a (-2) ∧ S a (-2) ≤ 7) d 143 98 [l0, l1, l2, l3, l4, l5] [(2, S a 11)] S h n) ∧
  (∀ (d : Nat) (x : Int) (l0 l1 l3 l4 l5 : Option mx_V) (v0 : mx_V) (S h : mx_H) (n : Int), mx_ex d 143 98 [l0, l1, some (2, x), l3, l4, l5] [v0] S h n = mx_ex d 143 99 [l0, l1, some (2, x), l3, l4, l5] [(2, x), v0] S h n) ∧
  (∀ (d : Nat) (a : Int) (l0 l1 l2 l3 l4 l5 : Option mx_V) (v1 : mx_V) (S h : mx_H) (n : Int), mx_ex d 143 99 [l0, l1, l2, l3, l4, l5] [(2, a), v1] S h n = mx_gd (1 ≤ S a (-2) ∧ S a (-2) ≤ 6) d 143 102 [l0, l1, l2, l3, l4, l5] [(0, h a 3), v1] S h n) ∧
  (∀ (d : Nat) (i a : Int) (l0 l1 l2 l3 l4 l5 : Option mx_V) (S h : mx_H) (n : Int), mx_ex d 143 102 [l0, l1, l2, l3, l4, l5] [(0, i), (2, a)] S h n = mx_gd ((S a (-2) = 20 ∨ S a (-2) = 24) ∧ 0 ≤ i ∧ i < S a (-1)) d 143 103 [l0, l1, l2, l3, l4, l5] [(0, h a i)] S h n) ∧
  (∀ (d : Nat) (x : Int) (l0 l1 l2 l3 l4 : Option mx_V) (v0 : mx_V) (S h : mx_H) (n : Int), mx_ex d 143 103 [l0, l1, l2, l3, l4, some (0, x)] [v0] S h n = mx_ex d 143 105 [l0, l1, l2, l3, l4, some (0, x)] [(0, x), v0] S h n) ∧
  (∀ (d : Nat) (b a : Int) (l0 l1 l2 l3 l4 l5 : Option mx_V) (S h : mx_H) (n : Int), mx_ex d 143 105 [l0, l1, l2, l3, l4, l5] [(0, b), (0, a)] S h n = mx_br (a = b) d 143 110 108 [l0, l1, l2, l3, l4, l5] [] S h n) ∧
  (∀ (d : Nat) (l0 l1 l2 l3 l4 l5 : Option mx_V) (S h : mx_H) (n : Int), mx_ex d 143 108 [l0, l1, l2, l3, l4, l5] [] S h n = mx_ex d 143 109 [l0, l1, l2, l3, l4, l5] [(0, 0)] S h n) ∧
  (∀ (d : Nat) (x : Int) (l0 l1 l2 l3 l4 l5 : Option mx_V) (S h : mx_H) (n : Int), mx_ex d 143 109 [l0, l1, l2, l3, l4, l5] [(0, x)] S h n = mx_re (0 ≤ x ∧ x ≤ 1) (some (0, x)) S h n) ∧
  (∀ (d : Nat) (x : Int) (l1 l2 l3 l4 l5 : Option mx_V) (S h : mx_H) (n : Int), mx_ex d 143 110 [some (2, x), l1, l2, l3, l4, l5] [] S h n = mx_ex d 143 111 [some (2, x), l1, l2, l3, l4, l5] [(2, x)] S h n) :=
  ⟨by intros; exact rfl,
   by intros; exact eq_ld rfl rfl,
   by intros; exact eq_gr rfl,
   by intros; exact eq_ld rfl rfl,
   by intros; exact eq_cv rfl (Nat.le_of_ble_eq_true rfl) rfl rfl rfl (Nat.le_of_ble_eq_true rfl),
   by intros; exact eq_st rfl (by decide) (Nat.le_of_ble_eq_true rfl) rfl,
   by intros; exact eq_ld rfl rfl,
   by intros; exact eq_nul rfl,
   by intros; exact eq_ld rfl rfl,
   by intros; exact eq_gr rfl,
   by intros; exact eq_ld rfl rfl,
   by intros; exact eq_push rfl,
   by intros; exact eq_i2 (o := mx_mul) rfl,
   by intros; exact eq_lald rfl,
   by intros; exact eq_ld rfl rfl,
   by intros; exact eq_i2l rfl,
   by intros; exact eq_lcmp rfl,
   by intros; exact eq_if0 rfl,
   by intros; exact eq_push rfl,
   by intros; exact eq_rr rfl,
   by intros; exact eq_ld rfl rfl,
   by intros; exact eq_gr rfl,
   by intros; exact eq_ld rfl rfl,
   by intros; exact eq_push rfl,
   by intros; exact eq_i2 (o := mx_mul) rfl,
   by intros; exact eq_push rfl,
   by intros; exact eq_i2 (o := mx_add) rfl,
   by intros; exact eq_lald rfl,
   by intros; exact eq_st2 rfl (Nat.le_of_ble_eq_true rfl) rfl,
   by intros; exact eq_ld rfl rfl,
   by intros; exact eq_ld rfl rfl,
   by intros; exact eq_gr rfl,
   by intros; exact eq_gr rfl,
   by intros; exact eq_ld rfl rfl,
   by intros; exact eq_gi rfl,
   by intros; exact eq_iald rfl,
   by intros; exact eq_i2l rfl,
   by intros; exact eq_lcmp rfl,
   by intros; exact eq_if2 rfl,
   by intros; exact eq_ld rfl rfl,
   by intros; exact eq_ld rfl rfl,
   by intros; exact eq_gr rfl,
   by intros; exact eq_gr rfl,
   by intros; exact eq_ld rfl rfl,
   by intros; exact eq_gi rfl,
   by intros; exact eq_iald rfl,
   by intros; exact eq_i2l rfl,
   by intros; exact eq_lcmp rfl,
   by intros; exact eq_if5 rfl,
   by intros; exact eq_push rfl,
   by intros; exact eq_rr rfl,
   by intros; exact eq_ld rfl rfl,
   by intros; exact eq_l2i rfl,
   by intros; exact eq_st rfl (by decide) (Nat.le_of_ble_eq_true rfl) rfl,
   by intros; exact eq_ld rfl rfl,
   by intros; exact eq_gr rfl,
   by intros; exact eq_ld rfl rfl,
   by intros; exact eq_gi rfl,
   by intros; exact eq_iald rfl,
   by intros; exact eq_if0 rfl,
   by intros; exact eq_ld rfl rfl,
   by intros; exact eq_gr rfl,
   by intros; exact eq_ld rfl rfl,
   by intros; exact eq_gi rfl,
   by intros; exact eq_iald rfl,
   by intros; exact eq_ld rfl rfl,
   by intros; exact eq_ic0 rfl,
   by intros; exact eq_push rfl,
   by intros; exact eq_rr rfl,
   by intros; exact eq_ld rfl rfl⟩
theorem rw_X11_isRightRow_1 :
  (∀ (d : Nat) (a : Int) (l0 l1 l2 l3 l4 l5 : Option mx_V) (S h : mx_H) (n : Int), mx_ex d 143 111 [l0, l1, l2, l3, l4, l5] [(2, a)] S h n = mx_gd (7 ≤ S a (-2) ∧ S a (-2) ≤ 7) d 143 114 [l0, l1, l2, l3, l4, l5] [(2, S a 11)] S h n) ∧
  (∀ (d : Nat) (x : Int) (l0 l1 l3 l4 l5 : Option mx_V) (v0 : mx_V) (S h : mx_H) (n : Int), mx_ex d 143 114 [l0, l1, some (2, x), l3, l4, l5] [v0] S h n = mx_ex d 143 115 [l0, l1, some (2, x), l3, l4, l5] [(2, x), v0] S h n) ∧
  (∀ (d : Nat) (a : Int) (l0 l1 l2 l3 l4 l5 : Option mx_V) (v1 : mx_V) (S h : mx_H) (n : Int), mx_ex d 143 115 [l0, l1, l2, l3, l4, l5] [(2, a), v1] S h n = mx_gd (1 ≤ S a (-2) ∧ S a (-2) ≤ 6) d 143 118 [l0, l1, l2, l3, l4, l5] [(0, h a 3), v1] S h n) ∧
  (∀ (d : Nat) (x : Int) (l0 l1 l2 l3 l4 : Option mx_V) (v0 v1 : mx_V) (S h : mx_H) (n : Int), mx_ex d 143 118 [l0, l1, l2, l3, l4, some (0, x)] [v0, v1] S h n = mx_ex d 143 120 [l0, l1, l2, l3, l4, some (0, x)] [(0, x), v0, v1] S h n) ∧
  (∀ (d : Nat) (v i a : Int) (l0 l1 l2 l3 l4 l5 : Option mx_V) (S h : mx_H) (n : Int), mx_ex d 143 120 [l0, l1, l2, l3, l4, l5] [(0, v), (0, i), (2, a)] S h n = mx_gd (S a (-2) = 20 ∧ 0 ≤ i ∧ i < S a (-1)) d 143 121 [l0, l1, l2, l3, l4, l5] [] S (mx_u h a i v) n) ∧
  (∀ (d : Nat) (x : Int) (l0 l1 l3 l4 l5 : Option mx_V) (S h : mx_H) (n : Int), mx_ex d 143 121 [l0, l1, some (2, x), l3, l4, l5] [] S h n = mx_ex d 143 122 [l0, l1, some (2, x), l3, l4, l5] [(2, x)] S h n) ∧
  (∀ (d : Nat) (x : Int) (l0 l1 l2 l3 l4 : Option mx_V) (v0 : mx_V) (S h : mx_H) (n : Int), mx_ex d 143 122 [l0, l1, l2, l3, l4, some (0, x)] [v0] S h n = mx_ex d 143 124 [l0, l1, l2, l3, l4, some (0, x)] [(0, x), v0] S h n) ∧
  (∀ (d : Nat) (x0 a : Int) (l0 l1 l2 l3 l4 l5 : Option mx_V) (S h : mx_H) (n : Int), mx_ex (d + 1) 143 124 [l0, l1, l2, l3, l4, l5] [(0, x0), (2, a)] S h n = mx_cu (mx_vt (S a (-2)) [(1, 44), (2, 57), (3, 4), (4, 4), (5, 44), (6, 57)]) d [(2, a), (0, x0)] 143 127 [l0, l1, l2, l3, l4, l5] [] S h n) ∧
  (∀ (d : Nat) (a : Int) (l0 l1 l2 l3 l4 l5 : Option mx_V) (S h : mx_H) (n : Int), mx_ex d 143 127 [l0, l1, l2, l3, l4, l5] [(0, a)] S h n = mx_br (a = 0) d 143 155 130 [l0, l1, l2, l3, l4, l5] [] S h n) ∧
  (∀ (d : Nat) (x : Int) (l0 l1 l3 l4 l5 : Option mx_V) (S h : mx_H) (n : Int), mx_ex d 143 130 [l0, l1, some (2, x), l3, l4, l5] [] S h n = mx_ex d 143 131 [l0, l1, some (2, x), l3, l4, l5] [(2, x)] S h n) ∧
  (∀ (d : Nat) (x : Int) (l0 l1 l2 l3 l4 : Option mx_V) (v0 : mx_V) (S h : mx_H) (n : Int), mx_ex d 143 131 [l0, l1, l2, l3, l4, some (0, x)] [v0] S h n = mx_ex d 143 133 [l0, l1, l2, l3, l4, some (0, x)] [(0, x), v0] S h n) ∧
  (∀ (d : Nat) (x0 a : Int) (l0 l1 l2 l3 l4 l5 : Option mx_V) (S h : mx_H) (n : Int), mx_ex (d + 1) 143 133 [l0, l1, l2, l3, l4, l5] [(0, x0), (2, a)] S h n = mx_cu (mx_vt (S a (-2)) [(1, 43), (2, 56), (3, 3), (4, 3), (5, 81), (6, 9)]) d [(2, a), (0, x0)] 143 136 [l0, l1, l2, l3, l4, l5] [] S h n) ∧
  (∀ (d : Nat) (a : Int) (l0 l1 l2 l3 l4 l5 : Option mx_V) (S h : mx_H) (n : Int), mx_ex d 143 136 [l0, l1, l2, l3, l4, l5] [(0, a)] S h n = mx_ex d 143 137 [l0, l1, l2, l3, l4, l5] [(1, a)] S h n) ∧
  (∀ (d : Nat) (x : Int) (l1 l2 l3 l4 l5 : Option mx_V) (v0 : mx_V) (S h : mx_H) (n : Int), mx_ex d 143 137 [some (2, x), l1, l2, l3, l4, l5] [v0] S h n = mx_ex d 143 138 [some (2, x), l1, l2, l3, l4, l5] [(2, x), v0] S h n) ∧
  (∀ (d : Nat) (a : Int) (l0 l1 l2 l3 l4 l5 : Option mx_V) (v1 : mx_V) (S h : mx_H) (n : Int), mx_ex d 143 138 [l0, l1, l2, l3, l4, l5] [(2, a), v1] S h n = mx_gd (7 ≤ S a (-2) ∧ S a (-2) ≤ 7) d 143 141 [l0, l1, l2, l3, l4, l5] [(2, S a 9), v1] S h n) ∧
  (∀ (d : Nat) (x : Int) (l0 l2 l3 l4 l5 : Option mx_V) (v0 v1 : mx_V) (S h : mx_H) (n : Int), mx_ex d 143 141 [l0, some (0, x), l2, l3, l4, l5] [v0, v1] S h n = mx_ex d 143 142 [l0, some (0, x), l2, l3, l4, l5] [(0, x), v0, v1] S h n) ∧
  (∀ (d : Nat) (l0 l1 l2 l3 l4 l5 : Option mx_V) (v0 v1 v2 : mx_V) (S h : mx_H) (n : Int), mx_ex d 143 142 [l0, l1, l2, l3, l4, l5] [v0, v1, v2] S h n = mx_ex d 143 143 [l0, l1, l2, l3, l4, l5] [(0, 3), v0, v1, v2] S h n) ∧
  (∀ (d : Nat) (b a : Int) (l0 l1 l2 l3 l4 l5 : Option mx_V) (v2 v3 : mx_V) (S h : mx_H) (n : Int), mx_ex d 143 143 [l0, l1, l2, l3, l4, l5] [(0, b), (0, a), v2, v3] S h n = mx_ex d 143 144 [l0, l1, l2, l3, l4, l5] [(0, mx_w (a * b)), v2, v3] S h n) ∧
  (∀ (d : Nat) (l0 l1 l2 l3 l4 l5 : Option mx_V) (v0 v1 v2 : mx_V) (S h : mx_H) (n : Int), mx_ex d 143 144 [l0, l1, l2, l3, l4, l5] [v0, v1, v2] S h n = mx_ex d 143 145 [l0, l1, l2, l3, l4, l5] [(0, 2), v0, v1, v2] S h n) ∧
  (∀ (d : Nat) (b a : Int) (l0 l1 l2 l3 l4 l5 : Option mx_V) (v2 v3 : mx_V) (S h : mx_H) (n : Int), mx_ex d 143 145 [l0, l1, l2, l3, l4, l5] [(0, b), (0, a), v2, v3] S h n = mx_ex d 143 146 [l0, l1, l2, l3, l4, l5] [(0, mx_w (a + b)), v2, v3] S h n) ∧
  (∀ (d : Nat) (i a : Int) (l0 l1 l2 l3 l4 l5 : Option mx_V) (v2 : mx_V) (S h : mx_H) (n : Int), mx_ex d 143 146 [l0, l1, l2, l3, l4, l5] [(0, i), (2, a), v2] S h n = mx_gd (S a (-2) = 21 ∧ 0 ≤ i ∧ i < S a (-1)) d 143 147 [l0, l1, l2, l3, l4, l5] [(1, h a i), v2] S h n) ∧
  (∀ (d : Nat) (b a : Int) (l0 l1 l2 l3 l4 l5 : Option mx_V) (S h : mx_H) (n : Int), mx_ex d 143 147 [l0, l1, l2, l3, l4, l5] [(1, b), (1, a)] S h n = mx_ex d 143 148 [l0, l1, l2, l3, l4, l5] [(0, mx_cmp a b)] S h n) ∧
  (∀ (d : Nat) (a : Int) (l0 l1 l2 l3 l4 l5 : Option mx_V) (S h : mx_H) (n : Int), mx_ex d 143 148 [l0, l1, l2, l3, l4, l5] [(0, a)] S h n = mx_br (a = 0) d 143 151 155 [l0, l1, l2, l3, l4, l5] [] S h n) ∧
  (∀ (d : Nat) (l0 l1 l2 l3 l4 l5 : Option mx_V) (S h : mx_H) (n : Int), mx_ex d 143 151 [l0, l1, l2, l3, l4, l5] [] S h n = mx_ex d 143 152 [l0, l1, l2, l3, l4, l5] [(0, 1)] S h n) ∧
  (∀ (d : Nat) (l0 l1 l2 l3 l4 l5 : Option mx_V) (v0 : mx_V) (S h : mx_H) (n : Int), mx_ex d 143 152 [l0, l1, l2, l3, l4, l5] [v0] S h n = mx_ex d 143 156 [l0, l1, l2, l3, l4, l5] [v0] S h n) ∧
  (∀ (d : Nat) (l0 l1 l2 l3 l4 l5 : Option mx_V) (S h : mx_H) (n : Int), mx_ex d 143 155 [l0, l1, l2, l3, l4, l5] [] S h n = mx_ex d 143 156 [l0, l1, l2, l3, l4, l5] [(0, 0)] S h n) ∧
  (∀ (d : Nat) (x : Int) (l0 l1 l2 l3 l4 l5 : Option mx_V) (S h : mx_H) (n : Int), mx_ex d 143 156 [l0, l1, l2, l3, l4, l5] [(0, x)] S h n = mx_re (0 ≤ x ∧ x ≤ 1) (some (0, x)) S h n) :=
  ⟨by intros; exact eq_gr rfl,
   by intros; exact eq_ld rfl rfl,
   by intros; exact eq_gi rfl,
   by intros; exact eq_ld rfl rfl,
   by intros; exact eq_iast rfl,
   by intros; exact eq_ld rfl rfl,
   by intros; exact eq_ld rfl rfl,
   by intros; exact eq_cu rfl (Nat.le_of_ble_eq_true rfl) rfl rfl rfl (Nat.le_of_ble_eq_true rfl),
   by intros; exact eq_if0 rfl,
   by intros; exact eq_ld rfl rfl,
   by intros; exact eq_ld rfl rfl,
   by intros; exact eq_cu rfl (Nat.le_of_ble_eq_true rfl) rfl rfl rfl (Nat.le_of_ble_eq_true rfl),
   by intros; exact eq_i2l rfl,
   by intros; exact eq_ld rfl rfl,
   by intros; exact eq_gr rfl,
   by intros; exact eq_ld rfl rfl,
   by intros; exact eq_push rfl,
   by intros; exact eq_i2 (o := mx_mul) rfl,
   by intros; exact eq_push rfl,
   by intros; exact eq_i2 (o := mx_add) rfl,
   by intros; exact eq_lald rfl,
   by intros; exact eq_lcmp rfl,
   by intros; exact eq_if1 rfl,
   by intros; exact eq_push rfl,
   by intros; exact eq_go rfl,
   by intros; exact eq_push rfl,
   by intros; exact eq_rr rfl⟩
theorem rw_X11_noteOn :
  (∀ (d : Nat) (a0 a1 : Int) (S h : mx_H) (n : Int), mx_M d 144 [(2, a0), (0, a1)] S h n = mx_ex d 144 0 [some (2, a0), some (0, a1)] [] S h n) ∧
  (∀ (d : Nat) (x : Int) (l1 : Option mx_V) (S h : mx_H) (n : Int), mx_ex d 144 0 [some (2, x), l1] [] S h n = mx_ex d 144 1 [some (2, x), l1] [(2, x)] S h n) ∧
  (∀ (d : Nat) (a : Int) (l0 l1 : Option mx_V) (S h : mx_H) (n : Int), mx_ex d 144 1 [l0, l1] [(2, a)] S h n = mx_gd (7 ≤ S a (-2) ∧ S a (-2) ≤ 7) d 144 4 [l0, l1] [(2, S a 13)] S h n) ∧
  (∀ (d : Nat) (x : Int) (l0 : Option mx_V) (v0 : mx_V) (S h : mx_H) (n : Int), mx_ex d 144 4 [l0, some (0, x)] [v0] S h n = mx_ex d 144 5 [l0, some (0, x)] [(0, x), v0] S h n) ∧
  (∀ (d : Nat) (i a : Int) (l0 l1 : Option mx_V) (S h : mx_H) (n : Int), mx_ex d 144 5 [l0, l1] [(0, i), (2, a)] S h n = mx_gd ((S a (-2) = 20 ∨ S a (-2) = 24) ∧ 0 ≤ i ∧ i < S a (-1)) d 144 6 [l0, l1] [(0, h a i)] S h n) ∧
  (∀ (d : Nat) (a : Int) (l0 l1 : Option mx_V) (S h : mx_H) (n : Int), mx_ex d 144 6 [l0, l1] [(0, a)] S h n = mx_br (a = 0) d 144 9 25 [l0, l1] [] S h n) ∧
  (∀ (d : Nat) (x : Int) (l1 : Option mx_V) (S h : mx_H) (n : Int), mx_ex d 144 9 [some (2, x), l1] [] S h n = mx_ex d 144 10 [some (2, x), l1] [(2, x)] S h n) ∧
  (∀ (d : Nat) (a : Int) (l0 l1 : Option mx_V) (S h : mx_H) (n : Int), mx_ex d 144 10 [l0, l1] [(2, a)] S h n = mx_gd (7 ≤ S a (-2) ∧ S a (-2) ≤ 7) d 144 13 [l0, l1] [(2, S a 3)] S h n) ∧
  (∀ (d : Nat) (x : Int) (l1 : Option mx_V) (v0 : mx_V) (S h : mx_H) (n : Int), mx_ex d 144 13 [some (2, x), l1] [v0] S h n = mx_ex d 144 14 [some (2, x), l1] [(2, x), v0] S h n) ∧
  (∀ (d : Nat) (a : Int) (l0 l1 : Option mx_V) (v1 : mx_V) (S h : mx_H) (n : Int), mx_ex d 144 14 [l0, l1] [(2, a), v1] S h n = mx_gd (7 ≤ S a (-2) ∧ S a (-2) ≤ 7) d 144 17 [l0, l1] [(2, S a 14), v1] S h n) ∧
  (∀ (d : Nat) (x : Int) (l0 : Option mx_V) (v0 v1 : mx_V) (S h : mx_H) (n : Int), mx_ex d 144 17 [l0, some (0, x)] [v0, v1] S h n = mx_ex d 144 18 [l0, some (0, x)] [(0, x), v0, v1] S h n) ∧
  (∀ (d : Nat) (i a : Int) (l0 l1 : Option mx_V) (v2 : mx_V) (S h : mx_H) (n : Int), mx_ex d 144 18 [l0, l1] [(0, i), (2, a), v2] S h n = mx_gd ((S a (-2) = 20 ∨ S a (-2) = 24) ∧ 0 ≤ i ∧ i < S a (-1)) d 144 19 [l0, l1] [(0, h a i), v2] S h n) ∧
  (∀ (d : Nat) (x0 a : Int) (l0 l1 : Option mx_V) (S h : mx_H) (n : Int), mx_ex (d + 1) 144 19 [l0, l1] [(0, x0), (2, a)] S h n = mx_cl (S a (-2) = 8) d 90 [(2, a), (0, x0)] 144 22 [l0, l1] [] S h n) ∧
  (∀ (d : Nat) (l0 l1 : Option mx_V) (v0 : mx_V) (S h : mx_H) (n : Int), mx_ex d 144 22 [l0, l1] [v0] S h n = mx_ex d 144 26 [l0, l1] [v0] S h n) ∧
  (∀ (d : Nat) (l0 l1 : Option mx_V) (S h : mx_H) (n : Int), mx_ex d 144 25 [l0, l1] [] S h n = mx_ex d 144 26 [l0, l1] [(2, (-1))] S h n) ∧
  (∀ (d : Nat) (x : Int) (l0 l1 : Option mx_V) (S h : mx_H) (n : Int), mx_ex d 144 26 [l0, l1] [(2, x)] S h n = some (some (2, x), S, h, n)) :=
  ⟨by intros; exact rfl,
   by intros; exact eq_ld rfl rfl,
   by intros; exact eq_gr rfl,
   by intros; exact eq_ld rfl rfl,
   by intros; exact eq_iald rfl,
   by intros; exact eq_if1 rfl,
   by intros; exact eq_ld rfl rfl,
   by intros; exact eq_gr rfl,
   by intros; exact eq_ld rfl rfl,
   by intros; exact eq_gr rfl,
   by intros; exact eq_ld rfl rfl,
   by intros; exact eq_iald rfl,
   by intros; exact eq_cv rfl (Nat.le_of_ble_eq_true rfl) rfl rfl rfl (Nat.le_of_ble_eq_true rfl),
   by intros; exact eq_go rfl,
   by intros; exact eq_push rfl,
   by intros; exact eq_ret rfl⟩
theorem rw_X11_within :
  (∀ (d : Nat) (a0 a1 a2 : Int) (S h : mx_H) (n : Int), mx_M d 145 [(0, a0), (0, a1), (0, a2)] S h n = mx_ex d 145 0 [some (0, a0), some (0, a1), some (0, a2)] [] S h n) ∧
  (∀ (d : Nat) (x : Int) (l1 l2 : Option mx_V) (S h : mx_H) (n : Int), mx_ex d 145 0 [some (0, x), l1, l2] [] S h n = mx_ex d 145 1 [some (0, x), l1, l2] [(0, x)] S h n) ∧
  (∀ (d : Nat) (x : Int) (l0 l2 : Option mx_V) (v0 : mx_V) (S h : mx_H) (n : Int), mx_ex d 145 1 [l0, some (0, x), l2] [v0] S h n = mx_ex d 145 2 [l0, some (0, x), l2] [(0, x), v0] S h n) ∧
  (∀ (d : Nat) (b a : Int) (l0 l1 l2 : Option mx_V) (S h : mx_H) (n : Int), mx_ex d 145 2 [l0, l1, l2] [(0, b), (0, a)] S h n = mx_br (a < b) d 145 14 5 [l0, l1, l2] [] S h n) ∧
  (∀ (d : Nat) (x : Int) (l1 l2 : Option mx_V) (S h : mx_H) (n : Int), mx_ex d 145 5 [some (0, x), l1, l2] [] S h n = mx_ex d 145 6 [some (0, x), l1, l2] [(0, x)] S h n) ∧
  (∀ (d : Nat) (x : Int) (l0 l1 : Option mx_V) (v0 : mx_V) (S h : mx_H) (n : Int), mx_ex d 145 6 [l0, l1, some (0, x)] [v0] S h n = mx_ex d 145 7 [l0, l1, some (0, x)] [(0, x), v0] S h n) ∧
  (∀ (d : Nat) (b a : Int) (l0 l1 l2 : Option mx_V) (S h : mx_H) (n : Int), mx_ex d 145 7 [l0, l1, l2] [(0, b), (0, a)] S h n = mx_br (b < a) d 145 14 10 [l0, l1, l2] [] S h n) ∧
  (∀ (d : Nat) (l0 l1 l2 : Option mx_V) (S h : mx_H) (n : Int), mx_ex d 145 10 [l0, l1, l2] [] S h n = mx_ex d 145 11 [l0, l1, l2] [(0, 1)] S h n) ∧
  (∀ (d : Nat) (l0 l1 l2 : Option mx_V) (v0 : mx_V) (S h : mx_H) (n : Int), mx_ex d 145 11 [l0, l1, l2] [v0] S h n = mx_ex d 145 15 [l0, l1, l2] [v0] S h n) ∧
  (∀ (d : Nat) (l0 l1 l2 : Option mx_V) (S h : mx_H) (n : Int), mx_ex d 145 14 [l0, l1, l2] [] S h n = mx_ex d 145 15 [l0, l1, l2] [(0, 0)] S h n) ∧
  (∀ (d : Nat) (x : Int) (l0 l1 l2 : Option mx_V) (S h : mx_H) (n : Int), mx_ex d 145 15 [l0, l1, l2] [(0, x)] S h n = mx_re (0 ≤ x ∧ x ≤ 1) (some (0, x)) S h n) :=
  ⟨by intros; exact rfl,
   by intros; exact eq_ld rfl rfl,
   by intros; exact eq_ld rfl rfl,
   by intros; exact eq_ic2 rfl,
   by intros; exact eq_ld rfl rfl,
   by intros; exact eq_ld rfl rfl,
   by intros; exact eq_ic4 rfl,
   by intros; exact eq_push rfl,
   by intros; exact eq_go rfl,
   by intros; exact eq_push rfl,
   by intros; exact eq_rr rfl⟩
theorem rw_X11_isEvening :
  (∀ (d : Nat) (a0 : Int) (S h : mx_H) (n : Int), mx_M d 146 [(0, a0)] S h n = mx_ex d 146 0 [some (0, a0)] [] S h n) ∧
  (∀ (d : Nat) (x : Int) (S h : mx_H) (n : Int), mx_ex d 146 0 [some (0, x)] [] S h n = mx_ex d 146 1 [some (0, x)] [(0, x)] S h n) ∧
  (∀ (d : Nat) (l0 : Option mx_V) (v0 : mx_V) (S h : mx_H) (n : Int), mx_ex d 146 1 [l0] [v0] S h n = mx_ex d 146 2 [l0] [(0, 0), v0] S h n) ∧
  (∀ (d : Nat) (l0 : Option mx_V) (v0 v1 : mx_V) (S h : mx_H) (n : Int), mx_ex d 146 2 [l0] [v0, v1] S h n = mx_ex d 146 3 [l0] [(0, 2), v0, v1] S h n) ∧
  (∀ (d : Nat) (x0 x1 x2 : Int) (l0 : Option mx_V) (S h : mx_H) (n : Int), mx_ex (d + 1) 146 3 [l0] [(0, x0), (0, x1), (0, x2)] S h n = mx_rt (mx_M d 145 [(0, x2), (0, x1), (0, x0)] S h n) (d + 1) 146 6 [l0] []) ∧
  (∀ (d : Nat) (x : Int) (l0 : Option mx_V) (S h : mx_H) (n : Int), mx_ex d 146 6 [l0] [(0, x)] S h n = mx_re (0 ≤ x ∧ x ≤ 1) (some (0, x)) S h n) :=
  ⟨by intros; exact rfl,
   by intros; exact eq_ld rfl rfl,
   by intros; exact eq_push rfl,
   by intros; exact eq_push rfl,
   by intros; exact eq_cs rfl (Nat.le_of_ble_eq_true rfl) rfl rfl rfl (Nat.le_of_ble_eq_true rfl),
   by intros; exact eq_rr rfl⟩
theorem rw_X11_isBase :
  (∀ (d : Nat) (a0 : Int) (S h : mx_H) (n : Int), mx_M d 147 [(0, a0)] S h n = mx_ex d 147 0 [some (0, a0)] [] S h n) ∧
  (∀ (d : Nat) (x : Int) (S h : mx_H) (n : Int), mx_ex d 147 0 [some (0, x)] [] S h n = mx_ex d 147 1 [some (0, x)] [(0, x)] S h n) ∧
  (∀ (d : Nat) (l0 : Option mx_V) (v0 : mx_V) (S h : mx_H) (n : Int), mx_ex d 147 1 [l0] [v0] S h n = mx_ex d 147 2 [l0] [(0, 2), v0] S h n) ∧
  (∀ (d : Nat) (l0 : Option mx_V) (v0 v1 : mx_V) (S h : mx_H) (n : Int), mx_ex d 147 2 [l0] [v0, v1] S h n = mx_ex d 147 4 [l0] [(0, 16), v0, v1] S h n) ∧
  (∀ (d : Nat) (x0 x1 x2 : Int) (l0 : Option mx_V) (S h : mx_H) (n : Int), mx_ex (d + 1) 147 4 [l0] [(0, x0), (0, x1), (0, x2)] S h n = mx_rt (mx_M d 145 [(0, x2), (0, x1), (0, x0)] S h n) (d + 1) 147 7 [l0] []) ∧
  (∀ (d : Nat) (x : Int) (l0 : Option mx_V) (S h : mx_H) (n : Int), mx_ex d 147 7 [l0] [(0, x)] S h n = mx_re (0 ≤ x ∧ x ≤ 1) (some (0, x)) S h n) :=
  ⟨by intros; exact rfl,
   by intros; exact eq_ld rfl rfl,
   by intros; exact eq_push rfl,
   by intros; exact eq_push rfl,
   by intros; exact eq_cs rfl (Nat.le_of_ble_eq_true rfl) rfl rfl rfl (Nat.le_of_ble_eq_true rfl),
   by intros; exact eq_rr rfl⟩
theorem rw_X11_isSheet :
  (∀ (d : Nat) (a0 : Int) (S h : mx_H) (n : Int), mx_M d 148 [(0, a0)] S h n = mx_ex d 148 0 [some (0, a0)] [] S h n) ∧
  (∀ (d : Nat) (x : Int) (S h : mx_H) (n : Int), mx_ex d 148 0 [some (0, x)] [] S h n = mx_ex d 148 1 [some (0, x)] [(0, x)] S h n) ∧
  (∀ (d : Nat) (l0 : Option mx_V) (v0 : mx_V) (S h : mx_H) (n : Int), mx_ex d 148 1 [l0] [v0] S h n = mx_ex d 148 2 [l0] [(0, 0), v0] S h n) ∧
  (∀ (d : Nat) (l0 : Option mx_V) (v0 v1 : mx_V) (S h : mx_H) (n : Int), mx_ex d 148 2 [l0] [v0, v1] S h n = mx_ex d 148 3 [l0] [(0, 3), v0, v1] S h n) ∧
  (∀ (d : Nat) (x0 x1 x2 : Int) (l0 : Option mx_V) (S h : mx_H) (n : Int), mx_ex (d + 1) 148 3 [l0] [(0, x0), (0, x1), (0, x2)] S h n = mx_rt (mx_M d 145 [(0, x2), (0, x1), (0, x0)] S h n) (d + 1) 148 6 [l0] []) ∧
  (∀ (d : Nat) (x : Int) (l0 : Option mx_V) (S h : mx_H) (n : Int), mx_ex d 148 6 [l0] [(0, x)] S h n = mx_re (0 ≤ x ∧ x ≤ 1) (some (0, x)) S h n) :=
  ⟨by intros; exact rfl,
   by intros; exact eq_ld rfl rfl,
   by intros; exact eq_push rfl,
   by intros; exact eq_push rfl,
   by intros; exact eq_cs rfl (Nat.le_of_ble_eq_true rfl) rfl rfl rfl (Nat.le_of_ble_eq_true rfl),
   by intros; exact eq_rr rfl⟩
theorem rw_X11_isShelf :
  (∀ (d : Nat) (a0 : Int) (S h : mx_H) (n : Int), mx_M d 149 [(0, a0)] S h n = mx_ex d 149 0 [some (0, a0)] [] S h n) ∧
  (∀ (d : Nat) (x : Int) (S h : mx_H) (n : Int), mx_ex d 149 0 [some (0, x)] [] S h n = mx_ex d 149 1 [some (0, x)] [(0, x)] S h n) ∧
  (∀ (d : Nat) (l0 : Option mx_V) (v0 : mx_V) (S h : mx_H) (n : Int), mx_ex d 149 1 [l0] [v0] S h n = mx_ex d 149 2 [l0] [(0, 0), v0] S h n) ∧
  (∀ (d : Nat) (l0 : Option mx_V) (v0 v1 : mx_V) (S h : mx_H) (n : Int), mx_ex d 149 2 [l0] [v0, v1] S h n = mx_ex d 149 3 [l0] [(0, 3), v0, v1] S h n) ∧
  (∀ (d : Nat) (x0 x1 x2 : Int) (l0 : Option mx_V) (S h : mx_H) (n : Int), mx_ex (d + 1) 149 3 [l0] [(0, x0), (0, x1), (0, x2)] S h n = mx_rt (mx_M d 145 [(0, x2), (0, x1), (0, x0)] S h n) (d + 1) 149 6 [l0] []) ∧
  (∀ (d : Nat) (x : Int) (l0 : Option mx_V) (S h : mx_H) (n : Int), mx_ex d 149 6 [l0] [(0, x)] S h n = mx_re (0 ≤ x ∧ x ≤ 1) (some (0, x)) S h n) :=
  ⟨by intros; exact rfl,
   by intros; exact eq_ld rfl rfl,
   by intros; exact eq_push rfl,
   by intros; exact eq_push rfl,
   by intros; exact eq_cs rfl (Nat.le_of_ble_eq_true rfl) rfl rfl rfl (Nat.le_of_ble_eq_true rfl),
   by intros; exact eq_rr rfl⟩
theorem rw_X11_isSetOfBases :
  (∀ (d : Nat) (a0 : Int) (S h : mx_H) (n : Int), mx_M d 150 [(0, a0)] S h n = mx_ex d 150 0 [some (0, a0)] [] S h n) ∧
  (∀ (d : Nat) (x : Int) (S h : mx_H) (n : Int), mx_ex d 150 0 [some (0, x)] [] S h n = mx_ex d 150 1 [some (0, x)] [(0, x)] S h n) ∧
  (∀ (d : Nat) (a : Int) (l0 : Option mx_V) (S h : mx_H) (n : Int), mx_ex d 150 1 [l0] [(0, a)] S h n = mx_br (a = 0) d 150 16 4 [l0] [] S h n) ∧
  (∀ (d : Nat) (x : Int) (S h : mx_H) (n : Int), mx_ex d 150 4 [some (0, x)] [] S h n = mx_ex d 150 5 [some (0, x)] [(0, x)] S h n) ∧
  (∀ (d : Nat) (l0 : Option mx_V) (v0 : mx_V) (S h : mx_H) (n : Int), mx_ex d 150 5 [l0] [v0] S h n = mx_ex d 150 8 [l0] [(0, (-131069)), v0] S h n) ∧
  (∀ (d : Nat) (b a : Int) (l0 : Option mx_V) (S h : mx_H) (n : Int), mx_ex d 150 8 [l0] [(0, b), (0, a)] S h n = mx_ex d 150 9 [l0] [(0, mx_and a b)] S h n) ∧
  (∀ (d : Nat) (a : Int) (l0 : Option mx_V) (S h : mx_H) (n : Int), mx_ex d 150 9 [l0] [(0, a)] S h n = mx_br (a = 0) d 150 12 16 [l0] [] S h n) ∧
  (∀ (d : Nat) (l0 : Option mx_V) (S h : mx_H) (n : Int), mx_ex d 150 12 [l0] [] S h n = mx_ex d 150 13 [l0] [(0, 1)] S h n) ∧
  (∀ (d : Nat) (l0 : Option mx_V) (v0 : mx_V) (S h : mx_H) (n : Int), mx_ex d 150 13 [l0] [v0] S h n = mx_ex d 150 17 [l0] [v0] S h n) ∧
  (∀ (d : Nat) (l0 : Option mx_V) (S h : mx_H) (n : Int), mx_ex d 150 16 [l0] [] S h n = mx_ex d 150 17 [l0] [(0, 0)] S h n) ∧
  (∀ (d : Nat) (x : Int) (l0 : Option mx_V) (S h : mx_H) (n : Int), mx_ex d 150 17 [l0] [(0, x)] S h n = mx_re (0 ≤ x ∧ x ≤ 1) (some (0, x)) S h n) :=
  ⟨by intros; exact rfl,
   by intros; exact eq_ld rfl rfl,
   by intros; exact eq_if0 rfl,
   by intros; exact eq_ld rfl rfl,
   by intros; exact eq_push rfl,
   by intros; exact eq_i2 (o := mx_and) rfl,
   by intros; exact eq_if1 rfl,
   by intros; exact eq_push rfl,
   by intros; exact eq_go rfl,
   by intros; exact eq_push rfl,
   by intros; exact eq_rr rfl⟩
theorem rh_X11_baseAt_4 : ∀ (d : Nat) (x : Int) (l0 l1 l2 : Option mx_V) (S h : mx_H) (n : Int), mx_ex d 151 4 [l0, l1, l2, some (0, x)] [] S h n = mx_ex d 151 5 [l0, l1, l2, some (0, x)] [(0, x)] S h n := by intros; exact eq_ld rfl rfl
theorem rw_X11_baseAt :
  (∀ (d : Nat) (a0 a1 : Int) (S h : mx_H) (n : Int), mx_M d 151 [(0, a0), (0, a1)] S h n = mx_ex d 151 0 [some (0, a0), some (0, a1), none, none] [] S h n) ∧
  (∀ (d : Nat) (x : Int) (l0 l2 l3 : Option mx_V) (S h : mx_H) (n : Int), mx_ex d 151 0 [l0, some (0, x), l2, l3] [] S h n = mx_ex d 151 1 [l0, some (0, x), l2, l3] [(0, x)] S h n) ∧
  (∀ (d : Nat) (x : Int) (l0 l1 l2 l3 : Option mx_V) (S h : mx_H) (n : Int), mx_ex d 151 1 [l0, l1, l2, l3] [(0, x)] S h n = mx_ex d 151 2 [l0, mx_nl l1, some (0, x), l3] [] S h n) ∧
  (∀ (d : Nat) (l0 l1 l2 l3 : Option mx_V) (S h : mx_H) (n : Int), mx_ex d 151 2 [l0, l1, l2, l3] [] S h n = mx_ex d 151 3 [l0, l1, l2, l3] [(0, 2)] S h n) ∧
  (∀ (d : Nat) (x : Int) (l0 l1 l2 l3 : Option mx_V) (S h : mx_H) (n : Int), mx_ex d 151 3 [l0, l1, l2, l3] [(0, x)] S h n = mx_ex d 151 4 [l0, l1, mx_nl l2, some (0, x)] [] S h n) ∧
  (∀ (d : Nat) (l0 l1 l2 l3 : Option mx_V) (v0 : mx_V) (S h : mx_H) (n : Int), mx_ex d 151 5 [l0, l1, l2, l3] [v0] S h n = mx_ex d 151 7 [l0, l1, l2, l3] [(0, 16), v0] S h n) ∧
  (∀ (d : Nat) (b a : Int) (l0 l1 l2 l3 : Option mx_V) (S h : mx_H) (n : Int), mx_ex d 151 7 [l0, l1, l2, l3] [(0, b), (0, a)] S h n = mx_br (b < a) d 151 36 10 [l0, l1, l2, l3] [] S h n) ∧
  (∀ (d : Nat) (x : Int) (l1 l2 l3 : Option mx_V) (S h : mx_H) (n : Int), mx_ex d 151 10 [some (0, x), l1, l2, l3] [] S h n = mx_ex d 151 11 [some (0, x), l1, l2, l3] [(0, x)] S h n) ∧
  (∀ (d : Nat) (x : Int) (l0 l1 l2 : Option mx_V) (v0 : mx_V) (S h : mx_H) (n : Int), mx_ex d 151 11 [l0, l1, l2, some (0, x)] [v0] S h n = mx_ex d 151 12 [l0, l1, l2, some (0, x)] [(0, x), v0] S h n) ∧
  (∀ (d : Nat) (b a : Int) (l0 l1 l2 l3 : Option mx_V) (S h : mx_H) (n : Int), mx_ex d 151 12 [l0, l1, l2, l3] [(0, b), (0, a)] S h n = mx_ex d 151 13 [l0, l1, l2, l3] [(0, mx_shr a b)] S h n) ∧
  (∀ (d : Nat) (l0 l1 l2 l3 : Option mx_V) (v0 : mx_V) (S h : mx_H) (n : Int), mx_ex d 151 13 [l0, l1, l2, l3] [v0] S h n = mx_ex d 151 14 [l0, l1, l2, l3] [(0, 1), v0] S h n) ∧
  (∀ (d : Nat) (b a : Int) (l0 l1 l2 l3 : Option mx_V) (S h : mx_H) (n : Int), mx_ex d 151 14 [l0, l1, l2, l3] [(0, b), (0, a)] S h n = mx_ex d 151 15 [l0, l1, l2, l3] [(0, mx_and a b)] S h n) ∧
  (∀ (d : Nat) (a : Int) (l0 l1 l2 l3 : Option mx_V) (S h : mx_H) (n : Int), mx_ex d 151 15 [l0, l1, l2, l3] [(0, a)] S h n = mx_br (a = 0) d 151 18 21 [l0, l1, l2, l3] [] S h n) ∧
  (∀ (d : Nat) (l0 l1 l2 l3 : Option mx_V) (S h : mx_H) (n : Int), mx_ex d 151 18 [l0, l1, l2, l3] [] S h n = mx_ex d 151 30 [l0, l1, l2, l3] [] S h n) ∧
  (∀ (d : Nat) (x : Int) (l0 l1 l3 : Option mx_V) (S h : mx_H) (n : Int), mx_ex d 151 21 [l0, l1, some (0, x), l3] [] S h n = mx_ex d 151 22 [l0, l1, some (0, x), l3] [(0, x)] S h n) ∧
  (∀ (d : Nat) (a : Int) (l0 l1 l2 l3 : Option mx_V) (S h : mx_H) (n : Int), mx_ex d 151 22 [l0, l1, l2, l3] [(0, a)] S h n = mx_br (a = 0) d 151 25 27 [l0, l1, l2, l3] [] S h n) ∧
  (∀ (d : Nat) (x : Int) (l0 l1 l2 : Option mx_V) (S h : mx_H) (n : Int), mx_ex d 151 25 [l0, l1, l2, some (0, x)] [] S h n = mx_ex d 151 26 [l0, l1, l2, some (0, x)] [(0, x)] S h n) ∧
  (∀ (d : Nat) (x : Int) (l0 l1 l2 l3 : Option mx_V) (S h : mx_H) (n : Int), mx_ex d 151 26 [l0, l1, l2, l3] [(0, x)] S h n = some (some (0, x), S, h, n)) ∧
  (∀ (d : Nat) (x : Int) (l0 l1 l3 : Option mx_V) (S h : mx_H) (n : Int), mx_ex d 151 27 [l0, l1, some (0, x), l3] [] S h n = mx_ex d 151 30 [l0, mx_nl l1, some (0, mx_w (x + (-1))), l3] [] S h n) ∧
  (∀ (d : Nat) (x : Int) (l0 l1 l2 : Option mx_V) (S h : mx_H) (n : Int), mx_ex d 151 30 [l0, l1, l2, some (0, x)] [] S h n = mx_ex d 151 33 [l0, l1, mx_nl l2, some (0, mx_w (x + 1))] [] S h n) ∧
  (∀ (d : Nat) (l0 l1 l2 l3 : Option mx_V) (S h : mx_H) (n : Int), mx_ex d 151 33 [l0, l1, l2, l3] [] S h n = mx_ex d 151 4 [l0, l1, l2, l3] [] S h n) ∧
  (∀ (d : Nat) (l0 l1 l2 l3 : Option mx_V) (S h : mx_H) (n : Int), mx_ex d 151 36 [l0, l1, l2, l3] [] S h n = mx_ex d 151 37 [l0, l1, l2, l3] [(0, 0)] S h n) ∧
  (∀ (d : Nat) (x : Int) (l0 l1 l2 l3 : Option mx_V) (S h : mx_H) (n : Int), mx_ex d 151 37 [l0, l1, l2, l3] [(0, x)] S h n = some (some (0, x), S, h, n)) :=
  ⟨by intros; exact rfl,
   by intros; exact eq_ld rfl rfl,
   by intros; exact eq_st rfl (by decide) (Nat.le_of_ble_eq_true rfl) rfl,
   by intros; exact eq_push rfl,
   by intros; exact eq_st rfl (by decide) (Nat.le_of_ble_eq_true rfl) rfl,
   by intros; exact eq_push rfl,
   by intros; exact eq_ic4 rfl,
   by intros; exact eq_ld rfl rfl,
   by intros; exact eq_ld rfl rfl,
   by intros; exact eq_i2 (o := mx_shr) rfl,
   by intros; exact eq_push rfl,
   by intros; exact eq_i2 (o := mx_and) rfl,
   by intros; exact eq_if1 rfl,
   by intros; exact eq_go rfl,
   by intros; exact eq_ld rfl rfl,
   by intros; exact eq_if1 rfl,
   by intros; exact eq_ld rfl rfl,
   by intros; exact eq_ret rfl,
   by intros; exact eq_inc rfl rfl rfl,
   by intros; exact eq_inc rfl rfl rfl,
   by intros; exact eq_go rfl,
   by intros; exact eq_push rfl,
   by intros; exact eq_ret rfl⟩
theorem rh_X11_howLong_15 : ∀ (d : Nat) (x : Int) (l0 l1 l2 : Option mx_V) (S h : mx_H) (n : Int), mx_ex d 152 15 [l0, l1, l2, some (0, x)] [] S h n = mx_ex d 152 16 [l0, l1, l2, some (0, x)] [(0, x)] S h n := by intros; exact eq_ld rfl rfl
theorem rw_X11_howLong :
  (∀ (d : Nat) (a0 a1 : Int) (S h : mx_H) (n : Int), mx_M d 152 [(0, a0), (0, a1)] S h n = mx_ex d 152 0 [some (0, a0), some (0, a1), none, none] [] S h n) ∧
  (∀ (d : Nat) (l0 l1 l2 l3 : Option mx_V) (S h : mx_H) (n : Int), mx_ex d 152 0 [l0, l1, l2, l3] [] S h n = mx_ex d 152 1 [l0, l1, l2, l3] [(0, 1)] S h n) ∧
  (∀ (d : Nat) (x : Int) (l0 l1 l2 l3 : Option mx_V) (S h : mx_H) (n : Int), mx_ex d 152 1 [l0, l1, l2, l3] [(0, x)] S h n = mx_ex d 152 2 [l0, mx_nl l1, some (0, x), l3] [] S h n) ∧
  (∀ (d : Nat) (x : Int) (l0 l2 l3 : Option mx_V) (S h : mx_H) (n : Int), mx_ex d 152 2 [l0, some (0, x), l2, l3] [] S h n = mx_ex d 152 3 [l0, some (0, x), l2, l3] [(0, x)] S h n) ∧
  (∀ (d : Nat) (l0 l1 l2 l3 : Option mx_V) (v0 : mx_V) (S h : mx_H) (n : Int), mx_ex d 152 3 [l0, l1, l2, l3] [v0] S h n = mx_ex d 152 4 [l0, l1, l2, l3] [(0, 2), v0] S h n) ∧
  (∀ (d : Nat) (b a : Int) (l0 l1 l2 l3 : Option mx_V) (S h : mx_H) (n : Int), mx_ex d 152 4 [l0, l1, l2, l3] [(0, b), (0, a)] S h n = mx_br (a < b) d 152 7 11 [l0, l1, l2, l3] [] S h n) ∧
  (∀ (d : Nat) (l0 l1 l2 l3 : Option mx_V) (S h : mx_H) (n : Int), mx_ex d 152 7 [l0, l1, l2, l3] [] S h n = mx_ex d 152 8 [l0, l1, l2, l3] [(0, 0)] S h n) ∧
  (∀ (d : Nat) (l0 l1 l2 l3 : Option mx_V) (v0 : mx_V) (S h : mx_H) (n : Int), mx_ex d 152 8 [l0, l1, l2, l3] [v0] S h n = mx_ex d 152 14 [l0, l1, l2, l3] [v0] S h n) ∧
  (∀ (d : Nat) (x : Int) (l1 l2 l3 : Option mx_V) (S h : mx_H) (n : Int), mx_ex d 152 11 [some (0, x), l1, l2, l3] [] S h n = mx_ex d 152 12 [some (0, x), l1, l2, l3] [(0, x)] S h n) ∧
  (∀ (d : Nat) (x : Int) (l0 l2 l3 : Option mx_V) (v0 : mx_V) (S h : mx_H) (n : Int), mx_ex d 152 12 [l0, some (0, x), l2, l3] [v0] S h n = mx_ex d 152 13 [l0, some (0, x), l2, l3] [(0, x), v0] S h n) ∧
  (∀ (d : Nat) (b a : Int) (l0 l1 l2 l3 : Option mx_V) (S h : mx_H) (n : Int), mx_ex d 152 13 [l0, l1, l2, l3] [(0, b), (0, a)] S h n = mx_gd (¬ b = 0) d 152 14 [l0, l1, l2, l3] [(0, mx_w (Int.tdiv a b))] S h n) ∧
  (∀ (d : Nat) (x : Int) (l0 l1 l2 l3 : Option mx_V) (S h : mx_H) (n : Int), mx_ex d 152 14 [l0, l1, l2, l3] [(0, x)] S h n = mx_ex d 152 15 [l0, l1, mx_nl l2, some (0, x)] [] S h n) ∧
  (∀ (d : Nat) (a : Int) (l0 l1 l2 l3 : Option mx_V) (S h : mx_H) (n : Int), mx_ex d 152 16 [l0, l1, l2, l3] [(0, a)] S h n = mx_br (0 < a) d 152 19 35 [l0, l1, l2, l3] [] S h n) ∧
  (∀ (d : Nat) (x : Int) (l0 l1 l3 : Option mx_V) (S h : mx_H) (n : Int), mx_ex d 152 19 [l0, l1, some (0, x), l3] [] S h n = mx_ex d 152 20 [l0, l1, some (0, x), l3] [(0, x)] S h n) ∧
  (∀ (d : Nat) (l0 l1 l2 l3 : Option mx_V) (v0 : mx_V) (S h : mx_H) (n : Int), mx_ex d 152 20 [l0, l1, l2, l3] [v0] S h n = mx_ex d 152 22 [l0, l1, l2, l3] [(0, 32), v0] S h n) ∧
  (∀ (d : Nat) (b a : Int) (l0 l1 l2 l3 : Option mx_V) (S h : mx_H) (n : Int), mx_ex d 152 22 [l0, l1, l2, l3] [(0, b), (0, a)] S h n = mx_br (a < b) d 152 25 35 [l0, l1, l2, l3] [] S h n) ∧
  (∀ (d : Nat) (x : Int) (l0 l1 l2 : Option mx_V) (S h : mx_H) (n : Int), mx_ex d 152 25 [l0, l1, l2, some (0, x)] [] S h n = mx_ex d 152 26 [l0, l1, l2, some (0, x)] [(0, x)] S h n) ∧
  (∀ (d : Nat) (x : Int) (l0 l2 l3 : Option mx_V) (v0 : mx_V) (S h : mx_H) (n : Int), mx_ex d 152 26 [l0, some (0, x), l2, l3] [v0] S h n = mx_ex d 152 27 [l0, some (0, x), l2, l3] [(0, x), v0] S h n) ∧
  (∀ (d : Nat) (b a : Int) (l0 l1 l2 l3 : Option mx_V) (S h : mx_H) (n : Int), mx_ex d 152 27 [l0, l1, l2, l3] [(0, b), (0, a)] S h n = mx_gd (¬ b = 0) d 152 28 [l0, l1, l2, l3] [(0, mx_w (Int.tdiv a b))] S h n) ∧
  (∀ (d : Nat) (x : Int) (l0 l1 l2 l3 : Option mx_V) (S h : mx_H) (n : Int), mx_ex d 152 28 [l0, l1, l2, l3] [(0, x)] S h n = mx_ex d 152 29 [l0, l1, mx_nl l2, some (0, x)] [] S h n) ∧
  (∀ (d : Nat) (x : Int) (l0 l1 l3 : Option mx_V) (S h : mx_H) (n : Int), mx_ex d 152 29 [l0, l1, some (0, x), l3] [] S h n = mx_ex d 152 32 [l0, mx_nl l1, some (0, mx_w (x + 1)), l3] [] S h n) ∧
  (∀ (d : Nat) (l0 l1 l2 l3 : Option mx_V) (S h : mx_H) (n : Int), mx_ex d 152 32 [l0, l1, l2, l3] [] S h n = mx_ex d 152 15 [l0, l1, l2, l3] [] S h n) ∧
  (∀ (d : Nat) (x : Int) (l0 l1 l3 : Option mx_V) (S h : mx_H) (n : Int), mx_ex d 152 35 [l0, l1, some (0, x), l3] [] S h n = mx_ex d 152 36 [l0, l1, some (0, x), l3] [(0, x)] S h n) ∧
  (∀ (d : Nat) (x : Int) (l0 l1 l2 l3 : Option mx_V) (S h : mx_H) (n : Int), mx_ex d 152 36 [l0, l1, l2, l3] [(0, x)] S h n = some (some (0, x), S, h, n)) :=
  ⟨by intros; exact rfl,
   by intros; exact eq_push rfl,
   by intros; exact eq_st rfl (by decide) (Nat.le_of_ble_eq_true rfl) rfl,
   by intros; exact eq_ld rfl rfl,
   by intros; exact eq_push rfl,
   by intros; exact eq_ic3 rfl,
   by intros; exact eq_push rfl,
   by intros; exact eq_go rfl,
   by intros; exact eq_ld rfl rfl,
   by intros; exact eq_ld rfl rfl,
   by intros; exact eq_i2d (o := mx_div) rfl,
   by intros; exact eq_st rfl (by decide) (Nat.le_of_ble_eq_true rfl) rfl,
   by intros; exact eq_if5 rfl,
   by intros; exact eq_ld rfl rfl,
   by intros; exact eq_push rfl,
   by intros; exact eq_ic3 rfl,
   by intros; exact eq_ld rfl rfl,
   by intros; exact eq_ld rfl rfl,
   by intros; exact eq_i2d (o := mx_div) rfl,
   by intros; exact eq_st rfl (by decide) (Nat.le_of_ble_eq_true rfl) rfl,
   by intros; exact eq_inc rfl rfl rfl,
   by intros; exact eq_go rfl,
   by intros; exact eq_ld rfl rfl,
   by intros; exact eq_ret rfl⟩
theorem rw_X11_sortHolds :
  (∀ (d : Nat) (a0 a1 a2 a3 : Int) (S h : mx_H) (n : Int), mx_M d 153 [(0, a0), (0, a1), (0, a2), (0, a3)] S h n = mx_ex d 153 0 [some (0, a0), some (0, a1), some (0, a2), some (0, a3)] [] S h n) ∧
  (∀ (d : Nat) (x : Int) (l1 l2 l3 : Option mx_V) (S h : mx_H) (n : Int), mx_ex d 153 0 [some (0, x), l1, l2, l3] [] S h n = mx_ex d 153 1 [some (0, x), l1, l2, l3] [(0, x)] S h n) ∧
  (∀ (d : Nat) (a : Int) (l0 l1 l2 l3 : Option mx_V) (S h : mx_H) (n : Int), mx_ex d 153 1 [l0, l1, l2, l3] [(0, a)] S h n = mx_sw a [(0, 28), (1, 39), (2, 50)] d 153 63 [l0, l1, l2, l3] [] S h n) ∧
  (∀ (d : Nat) (x : Int) (l0 l2 l3 : Option mx_V) (S h : mx_H) (n : Int), mx_ex d 153 28 [l0, some (0, x), l2, l3] [] S h n = mx_ex d 153 29 [l0, some (0, x), l2, l3] [(0, x)] S h n) ∧
  (∀ (d : Nat) (x : Int) (l0 l1 l3 : Option mx_V) (v0 : mx_V) (S h : mx_H) (n : Int), mx_ex d 153 29 [l0, l1, some (0, x), l3] [v0] S h n = mx_ex d 153 30 [l0, l1, some (0, x), l3] [(0, x), v0] S h n) ∧
  (∀ (d : Nat) (b a : Int) (l0 l1 l2 l3 : Option mx_V) (S h : mx_H) (n : Int), mx_ex d 153 30 [l0, l1, l2, l3] [(0, b), (0, a)] S h n = mx_br (a = b) d 153 33 37 [l0, l1, l2, l3] [] S h n) ∧
  (∀ (d : Nat) (l0 l1 l2 l3 : Option mx_V) (S h : mx_H) (n : Int), mx_ex d 153 33 [l0, l1, l2, l3] [] S h n = mx_ex d 153 34 [l0, l1, l2, l3] [(0, 1)] S h n) ∧
  (∀ (d : Nat) (l0 l1 l2 l3 : Option mx_V) (v0 : mx_V) (S h : mx_H) (n : Int), mx_ex d 153 34 [l0, l1, l2, l3] [v0] S h n = mx_ex d 153 38 [l0, l1, l2, l3] [v0] S h n) ∧
  (∀ (d : Nat) (l0 l1 l2 l3 : Option mx_V) (S h : mx_H) (n : Int), mx_ex d 153 37 [l0, l1, l2, l3] [] S h n = mx_ex d 153 38 [l0, l1, l2, l3] [(0, 0)] S h n) ∧
  (∀ (d : Nat) (x : Int) (l0 l1 l2 l3 : Option mx_V) (S h : mx_H) (n : Int), mx_ex d 153 38 [l0, l1, l2, l3] [(0, x)] S h n = mx_re (0 ≤ x ∧ x ≤ 1) (some (0, x)) S h n) ∧
  (∀ (d : Nat) (x : Int) (l0 l2 l3 : Option mx_V) (S h : mx_H) (n : Int), mx_ex d 153 39 [l0, some (0, x), l2, l3] [] S h n = mx_ex d 153 40 [l0, some (0, x), l2, l3] [(0, x)] S h n) ∧
  (∀ (d : Nat) (x : Int) (l0 l1 l3 : Option mx_V) (v0 : mx_V) (S h : mx_H) (n : Int), mx_ex d 153 40 [l0, l1, some (0, x), l3] [v0] S h n = mx_ex d 153 41 [l0, l1, some (0, x), l3] [(0, x), v0] S h n) ∧
  (∀ (d : Nat) (b a : Int) (l0 l1 l2 l3 : Option mx_V) (S h : mx_H) (n : Int), mx_ex d 153 41 [l0, l1, l2, l3] [(0, b), (0, a)] S h n = mx_br (b < a) d 153 44 48 [l0, l1, l2, l3] [] S h n) ∧
  (∀ (d : Nat) (l0 l1 l2 l3 : Option mx_V) (S h : mx_H) (n : Int), mx_ex d 153 44 [l0, l1, l2, l3] [] S h n = mx_ex d 153 45 [l0, l1, l2, l3] [(0, 1)] S h n) ∧
  (∀ (d : Nat) (l0 l1 l2 l3 : Option mx_V) (v0 : mx_V) (S h : mx_H) (n : Int), mx_ex d 153 45 [l0, l1, l2, l3] [v0] S h n = mx_ex d 153 49 [l0, l1, l2, l3] [v0] S h n) ∧
  (∀ (d : Nat) (l0 l1 l2 l3 : Option mx_V) (S h : mx_H) (n : Int), mx_ex d 153 48 [l0, l1, l2, l3] [] S h n = mx_ex d 153 49 [l0, l1, l2, l3] [(0, 0)] S h n) ∧
  (∀ (d : Nat) (x : Int) (l0 l1 l2 l3 : Option mx_V) (S h : mx_H) (n : Int), mx_ex d 153 49 [l0, l1, l2, l3] [(0, x)] S h n = mx_re (0 ≤ x ∧ x ≤ 1) (some (0, x)) S h n) ∧
  (∀ (d : Nat) (x : Int) (l0 l2 l3 : Option mx_V) (S h : mx_H) (n : Int), mx_ex d 153 50 [l0, some (0, x), l2, l3] [] S h n = mx_ex d 153 51 [l0, some (0, x), l2, l3] [(0, x)] S h n) ∧
  (∀ (d : Nat) (x : Int) (l0 l1 l3 : Option mx_V) (v0 : mx_V) (S h : mx_H) (n : Int), mx_ex d 153 51 [l0, l1, some (0, x), l3] [v0] S h n = mx_ex d 153 52 [l0, l1, some (0, x), l3] [(0, x), v0] S h n) ∧
  (∀ (d : Nat) (b a : Int) (l0 l1 l2 l3 : Option mx_V) (S h : mx_H) (n : Int), mx_ex d 153 52 [l0, l1, l2, l3] [(0, b), (0, a)] S h n = mx_ex d 153 53 [l0, l1, l2, l3] [(0, mx_w (a + b))] S h n) ∧
  (∀ (d : Nat) (x : Int) (l0 l1 l2 : Option mx_V) (v0 : mx_V) (S h : mx_H) (n : Int), mx_ex d 153 53 [l0, l1, l2, some (0, x)] [v0] S h n = mx_ex d 153 54 [l0, l1, l2, some (0, x)] [(0, x), v0] S h n) ∧
  (∀ (d : Nat) (b a : Int) (l0 l1 l2 l3 : Option mx_V) (S h : mx_H) (n : Int), mx_ex d 153 54 [l0, l1, l2, l3] [(0, b), (0, a)] S h n = mx_br (a = b) d 153 57 61 [l0, l1, l2, l3] [] S h n) ∧
  (∀ (d : Nat) (l0 l1 l2 l3 : Option mx_V) (S h : mx_H) (n : Int), mx_ex d 153 57 [l0, l1, l2, l3] [] S h n = mx_ex d 153 58 [l0, l1, l2, l3] [(0, 1)] S h n) ∧
  (∀ (d : Nat) (l0 l1 l2 l3 : Option mx_V) (v0 : mx_V) (S h : mx_H) (n : Int), mx_ex d 153 58 [l0, l1, l2, l3] [v0] S h n = mx_ex d 153 62 [l0, l1, l2, l3] [v0] S h n) ∧
  (∀ (d : Nat) (l0 l1 l2 l3 : Option mx_V) (S h : mx_H) (n : Int), mx_ex d 153 61 [l0, l1, l2, l3] [] S h n = mx_ex d 153 62 [l0, l1, l2, l3] [(0, 0)] S h n) ∧
  (∀ (d : Nat) (x : Int) (l0 l1 l2 l3 : Option mx_V) (S h : mx_H) (n : Int), mx_ex d 153 62 [l0, l1, l2, l3] [(0, x)] S h n = mx_re (0 ≤ x ∧ x ≤ 1) (some (0, x)) S h n) ∧
  (∀ (d : Nat) (x : Int) (l0 l1 l2 : Option mx_V) (S h : mx_H) (n : Int), mx_ex d 153 63 [l0, l1, l2, some (0, x)] [] S h n = mx_ex d 153 64 [l0, l1, l2, some (0, x)] [(0, x)] S h n) ∧
  (∀ (d : Nat) (a : Int) (l0 l1 l2 l3 : Option mx_V) (S h : mx_H) (n : Int), mx_ex d 153 64 [l0, l1, l2, l3] [(0, a)] S h n = mx_br (a = 0) d 153 77 67 [l0, l1, l2, l3] [] S h n) ∧
  (∀ (d : Nat) (x : Int) (l0 l2 l3 : Option mx_V) (S h : mx_H) (n : Int), mx_ex d 153 67 [l0, some (0, x), l2, l3] [] S h n = mx_ex d 153 68 [l0, some (0, x), l2, l3] [(0, x)] S h n) ∧
  (∀ (d : Nat) (x : Int) (l0 l1 l2 : Option mx_V) (v0 : mx_V) (S h : mx_H) (n : Int), mx_ex d 153 68 [l0, l1, l2, some (0, x)] [v0] S h n = mx_ex d 153 69 [l0, l1, l2, some (0, x)] [(0, x), v0] S h n) ∧
  (∀ (d : Nat) (b a : Int) (l0 l1 l2 l3 : Option mx_V) (S h : mx_H) (n : Int), mx_ex d 153 69 [l0, l1, l2, l3] [(0, b), (0, a)] S h n = mx_gd (¬ b = 0) d 153 70 [l0, l1, l2, l3] [(0, Int.tmod a b)] S h n) ∧
  (∀ (d : Nat) (a : Int) (l0 l1 l2 l3 : Option mx_V) (S h : mx_H) (n : Int), mx_ex d 153 70 [l0, l1, l2, l3] [(0, a)] S h n = mx_br (a = 0) d 153 73 77 [l0, l1, l2, l3] [] S h n) ∧
  (∀ (d : Nat) (l0 l1 l2 l3 : Option mx_V) (S h : mx_H) (n : Int), mx_ex d 153 73 [l0, l1, l2, l3] [] S h n = mx_ex d 153 74 [l0, l1, l2, l3] [(0, 1)] S h n) ∧
  (∀ (d : Nat) (l0 l1 l2 l3 : Option mx_V) (v0 : mx_V) (S h : mx_H) (n : Int), mx_ex d 153 74 [l0, l1, l2, l3] [v0] S h n = mx_ex d 153 78 [l0, l1, l2, l3] [v0] S h n) ∧
  (∀ (d : Nat) (l0 l1 l2 l3 : Option mx_V) (S h : mx_H) (n : Int), mx_ex d 153 77 [l0, l1, l2, l3] [] S h n = mx_ex d 153 78 [l0, l1, l2, l3] [(0, 0)] S h n) ∧
  (∀ (d : Nat) (x : Int) (l0 l1 l2 l3 : Option mx_V) (S h : mx_H) (n : Int), mx_ex d 153 78 [l0, l1, l2, l3] [(0, x)] S h n = mx_re (0 ≤ x ∧ x ≤ 1) (some (0, x)) S h n) :=
  ⟨by intros; exact rfl,
   by intros; exact eq_ld rfl rfl,
   by intros; exact eq_sw rfl,
   by intros; exact eq_ld rfl rfl,
   by intros; exact eq_ld rfl rfl,
   by intros; exact eq_ic1 rfl,
   by intros; exact eq_push rfl,
   by intros; exact eq_go rfl,
   by intros; exact eq_push rfl,
   by intros; exact eq_rr rfl,
   by intros; exact eq_ld rfl rfl,
   by intros; exact eq_ld rfl rfl,
   by intros; exact eq_ic5 rfl,
   by intros; exact eq_push rfl,
   by intros; exact eq_go rfl,
   by intros; exact eq_push rfl,
   by intros; exact eq_rr rfl,
   by intros; exact eq_ld rfl rfl,
   by intros; exact eq_ld rfl rfl,
   by intros; exact eq_i2 (o := mx_add) rfl,
   by intros; exact eq_ld rfl rfl,
   by intros; exact eq_ic1 rfl,
   by intros; exact eq_push rfl,
   by intros; exact eq_go rfl,
   by intros; exact eq_push rfl,
   by intros; exact eq_rr rfl,
   by intros; exact eq_ld rfl rfl,
   by intros; exact eq_if0 rfl,
   by intros; exact eq_ld rfl rfl,
   by intros; exact eq_ld rfl rfl,
   by intros; exact eq_i2d (o := mx_rem) rfl,
   by intros; exact eq_if1 rfl,
   by intros; exact eq_push rfl,
   by intros; exact eq_go rfl,
   by intros; exact eq_push rfl,
   by intros; exact eq_rr rfl⟩
