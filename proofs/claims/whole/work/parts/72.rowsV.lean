/-! PRINTED (gen_rows.py): a row an instruction -/
theorem rw_X7_init :
  (∀ (d : Nat) (a0 : Int) (S h : mx_H) (n : Int), mx_M d 59 [(2, a0)] S h n = mx_ex d 59 0 [some (2, a0)] [] S h n) ∧
  (∀ (d : Nat) (x : Int) (S h : mx_H) (n : Int), mx_ex d 59 0 [some (2, x)] [] S h n = mx_ex d 59 1 [some (2, x)] [(2, x)] S h n) ∧
  (∀ (d : Nat) (a : Int) (l0 : Option mx_V) (S h : mx_H) (n : Int), mx_ex d 59 1 [l0] [(2, a)] S h n = mx_gd (0 ≤ a) d 59 4 [l0] [] S h n) ∧
  (∀ (d : Nat) (x : Int) (S h : mx_H) (n : Int), mx_ex d 59 4 [some (2, x)] [] S h n = mx_ex d 59 5 [some (2, x)] [(2, x)] S h n) ∧
  (∀ (d : Nat) (l0 : Option mx_V) (v0 : mx_V) (S h : mx_H) (n : Int), mx_ex d 59 5 [l0] [v0] S h n = mx_ex d 59 8 [l0] [(2, n), v0] (mx_t S n 8 0) (mx_z h n) (n + 1)) ∧
  (∀ (d : Nat) (a : Int) (l0 : Option mx_V) (v1 : mx_V) (S h : mx_H) (n : Int), mx_ex d 59 8 [l0] [(2, a), v1] S h n = mx_ex d 59 9 [l0] [(2, a), (2, a), v1] S h n) ∧
  (∀ (d : Nat) (a : Int) (l0 : Option mx_V) (v1 v2 : mx_V) (S h : mx_H) (n : Int), mx_ex (d + 1) 59 9 [l0] [(2, a), v1, v2] S h n = mx_cl (8 ≤ S a (-2) ∧ S a (-2) ≤ 8) d 84 [(2, a)] 59 12 [l0] [v1, v2] S h n) ∧
  (∀ (d : Nat) (v a : Int) (l0 : Option mx_V) (S h : mx_H) (n : Int), mx_ex d 59 12 [l0] [(2, v), (2, a)] S h n = mx_gd (10 ≤ S a (-2) ∧ S a (-2) ≤ 10) d 59 15 [l0] [] (mx_u S a 0 v) h n) ∧
  (∀ (d : Nat) (x : Int) (S h : mx_H) (n : Int), mx_ex d 59 15 [some (2, x)] [] S h n = mx_ex d 59 16 [some (2, x)] [(2, x)] S h n) ∧
  (∀ (d : Nat) (l0 : Option mx_V) (v0 : mx_V) (S h : mx_H) (n : Int), mx_ex d 59 16 [l0] [v0] S h n = mx_ex d 59 17 [l0] [(0, 0), v0] S h n) ∧
  (∀ (d : Nat) (v a : Int) (l0 : Option mx_V) (S h : mx_H) (n : Int), mx_ex d 59 17 [l0] [(0, v), (2, a)] S h n = mx_gd (10 ≤ S a (-2) ∧ S a (-2) ≤ 10) d 59 20 [l0] [] S (mx_u h a 1 v) n) ∧
  (∀ (d : Nat) (x : Int) (S h : mx_H) (n : Int), mx_ex d 59 20 [some (2, x)] [] S h n = mx_ex d 59 21 [some (2, x)] [(2, x)] S h n) ∧
  (∀ (d : Nat) (l0 : Option mx_V) (v0 : mx_V) (S h : mx_H) (n : Int), mx_ex d 59 21 [l0] [v0] S h n = mx_ex d 59 23 [l0] [(0, 6), v0] S h n) ∧
  (∀ (d : Nat) (x : Int) (l0 : Option mx_V) (v1 : mx_V) (S h : mx_H) (n : Int), mx_ex d 59 23 [l0] [(0, x), v1] S h n = mx_gd (0 ≤ x ∧ x ≤ 300) d 59 25 [l0] [(2, n), v1] (mx_t S n 20 x) (mx_z h n) (n + 1)) ∧
  (∀ (d : Nat) (v a : Int) (l0 : Option mx_V) (S h : mx_H) (n : Int), mx_ex d 59 25 [l0] [(2, v), (2, a)] S h n = mx_gd (10 ≤ S a (-2) ∧ S a (-2) ≤ 10) d 59 28 [l0] [] (mx_u S a 2 v) h n) ∧
  (∀ (d : Nat) (x : Int) (S h : mx_H) (n : Int), mx_ex d 59 28 [some (2, x)] [] S h n = mx_ex d 59 29 [some (2, x)] [(2, x)] S h n) ∧
  (∀ (d : Nat) (l0 : Option mx_V) (v0 : mx_V) (S h : mx_H) (n : Int), mx_ex d 59 29 [l0] [v0] S h n = mx_ex d 59 30 [l0] [(0, 0), v0] S h n) ∧
  (∀ (d : Nat) (x : Int) (l0 : Option mx_V) (v1 : mx_V) (S h : mx_H) (n : Int), mx_ex d 59 30 [l0] [(0, x), v1] S h n = mx_gd (0 ≤ x ∧ x ≤ 300) d 59 32 [l0] [(2, n), v1] (mx_t S n 20 x) (mx_z h n) (n + 1)) ∧
  (∀ (d : Nat) (v a : Int) (l0 : Option mx_V) (S h : mx_H) (n : Int), mx_ex d 59 32 [l0] [(2, v), (2, a)] S h n = mx_gd (10 ≤ S a (-2) ∧ S a (-2) ≤ 10) d 59 35 [l0] [] (mx_u S a 3 v) h n) ∧
  (∀ (d : Nat) (x : Int) (S h : mx_H) (n : Int), mx_ex d 59 35 [some (2, x)] [] S h n = mx_ex d 59 36 [some (2, x)] [(2, x)] S h n) ∧
  (∀ (d : Nat) (l0 : Option mx_V) (v0 : mx_V) (S h : mx_H) (n : Int), mx_ex d 59 36 [l0] [v0] S h n = mx_ex d 59 37 [l0] [(0, 0), v0] S h n) ∧
  (∀ (d : Nat) (v a : Int) (l0 : Option mx_V) (S h : mx_H) (n : Int), mx_ex d 59 37 [l0] [(0, v), (2, a)] S h n = mx_gd (10 ≤ S a (-2) ∧ S a (-2) ≤ 10) d 59 40 [l0] [] S (mx_u h a 4 v) n) ∧
  (∀ (d : Nat) (x : Int) (S h : mx_H) (n : Int), mx_ex d 59 40 [some (2, x)] [] S h n = mx_ex d 59 41 [some (2, x)] [(2, x)] S h n) ∧
  (∀ (d : Nat) (l0 : Option mx_V) (v0 : mx_V) (S h : mx_H) (n : Int), mx_ex d 59 41 [l0] [v0] S h n = mx_ex d 59 42 [l0] [(0, 0), v0] S h n) ∧
  (∀ (d : Nat) (v a : Int) (l0 : Option mx_V) (S h : mx_H) (n : Int), mx_ex d 59 42 [l0] [(0, v), (2, a)] S h n = mx_gd (10 ≤ S a (-2) ∧ S a (-2) ≤ 10) d 59 45 [l0] [] S (mx_u h a 5 v) n) ∧
  (∀ (d : Nat) (x : Int) (S h : mx_H) (n : Int), mx_ex d 59 45 [some (2, x)] [] S h n = mx_ex d 59 46 [some (2, x)] [(2, x)] S h n) ∧
  (∀ (d : Nat) (l0 : Option mx_V) (v0 : mx_V) (S h : mx_H) (n : Int), mx_ex d 59 46 [l0] [v0] S h n = mx_ex d 59 47 [l0] [(0, 0), v0] S h n) ∧
  (∀ (d : Nat) (v a : Int) (l0 : Option mx_V) (S h : mx_H) (n : Int), mx_ex d 59 47 [l0] [(0, v), (2, a)] S h n = mx_gd (10 ≤ S a (-2) ∧ S a (-2) ≤ 10) d 59 50 [l0] [] S (mx_u h a 6 v) n) ∧
  (∀ (d : Nat) (x : Int) (S h : mx_H) (n : Int), mx_ex d 59 50 [some (2, x)] [] S h n = mx_ex d 59 51 [some (2, x)] [(2, x)] S h n) ∧
  (∀ (d : Nat) (l0 : Option mx_V) (v0 : mx_V) (S h : mx_H) (n : Int), mx_ex d 59 51 [l0] [v0] S h n = mx_ex d 59 52 [l0] [(0, 0), v0] S h n) ∧
  (∀ (d : Nat) (v a : Int) (l0 : Option mx_V) (S h : mx_H) (n : Int), mx_ex d 59 52 [l0] [(0, v), (2, a)] S h n = mx_gd (10 ≤ S a (-2) ∧ S a (-2) ≤ 10) d 59 55 [l0] [] S (mx_u h a 7 v) n) ∧
  (∀ (d : Nat) (l0 : Option mx_V) (S h : mx_H) (n : Int), mx_ex d 59 55 [l0] [] S h n = some (none, S, h, n)) :=
  ⟨by intros; exact rfl,
   by intros; exact eq_ld rfl rfl,
   by intros; exact eq_oini rfl (Nat.le_of_ble_eq_true rfl),
   by intros; exact eq_ld rfl rfl,
   by intros; exact eq_new rfl,
   by intros; exact eq_dup rfl (by decide),
   by intros; exact eq_ci rfl (Nat.le_of_ble_eq_true rfl) rfl rfl rfl (Nat.le_of_ble_eq_true rfl),
   by intros; exact eq_pr rfl,
   by intros; exact eq_ld rfl rfl,
   by intros; exact eq_push rfl,
   by intros; exact eq_pi rfl,
   by intros; exact eq_ld rfl rfl,
   by intros; exact eq_push rfl,
   by intros; exact eq_newa rfl,
   by intros; exact eq_pr rfl,
   by intros; exact eq_ld rfl rfl,
   by intros; exact eq_push rfl,
   by intros; exact eq_newa rfl,
   by intros; exact eq_pr rfl,
   by intros; exact eq_ld rfl rfl,
   by intros; exact eq_push rfl,
   by intros; exact eq_pi rfl,
   by intros; exact eq_ld rfl rfl,
   by intros; exact eq_push rfl,
   by intros; exact eq_pi rfl,
   by intros; exact eq_ld rfl rfl,
   by intros; exact eq_push rfl,
   by intros; exact eq_pi rfl,
   by intros; exact eq_ld rfl rfl,
   by intros; exact eq_push rfl,
   by intros; exact eq_pi rfl,
   by intros; exact eq_retv rfl⟩
theorem rh_X7_told_36 : ∀ (d : Nat) (x : Int) (l0 l1 l2 l3 l5 l6 : Option mx_V) (S h : mx_H) (n : Int), mx_ex d 60 36 [l0, l1, l2, l3, some (0, x), l5, l6] [] S h n = mx_ex d 60 38 [l0, l1, l2, l3, some (0, x), l5, l6] [(0, x)] S h n := by intros; exact eq_ld rfl rfl
theorem rw_X7_told :
  (∀ (d : Nat) (a0 a1 a2 : Int) (S h : mx_H) (n : Int), mx_M d 60 [(2, a0), (2, a1), (0, a2)] S h n = mx_ex d 60 0 [some (2, a0), some (2, a1), some (0, a2), none, none, none, none] [] S h n) ∧
  (∀ (d : Nat) (x : Int) (l1 l2 l3 l4 l5 l6 : Option mx_V) (S h : mx_H) (n : Int), mx_ex d 60 0 [some (2, x), l1, l2, l3, l4, l5, l6] [] S h n = mx_ex d 60 1 [some (2, x), l1, l2, l3, l4, l5, l6] [(2, x)] S h n) ∧
  (∀ (d : Nat) (x : Int) (l0 l2 l3 l4 l5 l6 : Option mx_V) (v0 : mx_V) (S h : mx_H) (n : Int), mx_ex d 60 1 [l0, some (2, x), l2, l3, l4, l5, l6] [v0] S h n = mx_ex d 60 2 [l0, some (2, x), l2, l3, l4, l5, l6] [(2, x), v0] S h n) ∧
  (∀ (d : Nat) (v a : Int) (l0 l1 l2 l3 l4 l5 l6 : Option mx_V) (S h : mx_H) (n : Int), mx_ex d 60 2 [l0, l1, l2, l3, l4, l5, l6] [(2, v), (2, a)] S h n = mx_gd (10 ≤ S a (-2) ∧ S a (-2) ≤ 10) d 60 5 [l0, l1, l2, l3, l4, l5, l6] [] (mx_u S a 3 v) h n) ∧
  (∀ (d : Nat) (x : Int) (l1 l2 l3 l4 l5 l6 : Option mx_V) (S h : mx_H) (n : Int), mx_ex d 60 5 [some (2, x), l1, l2, l3, l4, l5, l6] [] S h n = mx_ex d 60 6 [some (2, x), l1, l2, l3, l4, l5, l6] [(2, x)] S h n) ∧
  (∀ (d : Nat) (x : Int) (l0 l1 l3 l4 l5 l6 : Option mx_V) (v0 : mx_V) (S h : mx_H) (n : Int), mx_ex d 60 6 [l0, l1, some (0, x), l3, l4, l5, l6] [v0] S h n = mx_ex d 60 7 [l0, l1, some (0, x), l3, l4, l5, l6] [(0, x), v0] S h n) ∧
  (∀ (d : Nat) (x : Int) (l0 l2 l3 l4 l5 l6 : Option mx_V) (v0 v1 : mx_V) (S h : mx_H) (n : Int), mx_ex d 60 7 [l0, some (2, x), l2, l3, l4, l5, l6] [v0, v1] S h n = mx_ex d 60 8 [l0, some (2, x), l2, l3, l4, l5, l6] [(2, x), v0, v1] S h n) ∧
  (∀ (d : Nat) (a : Int) (l0 l1 l2 l3 l4 l5 l6 : Option mx_V) (v1 v2 : mx_V) (S h : mx_H) (n : Int), mx_ex d 60 8 [l0, l1, l2, l3, l4, l5, l6] [(2, a), v1, v2] S h n = mx_gd (20 ≤ S a (-2) ∧ S a (-2) ≤ 25) d 60 9 [l0, l1, l2, l3, l4, l5, l6] [(0, S a (-1)), v1, v2] S h n) ∧
  (∀ (d : Nat) (b a : Int) (l0 l1 l2 l3 l4 l5 l6 : Option mx_V) (v2 : mx_V) (S h : mx_H) (n : Int), mx_ex d 60 9 [l0, l1, l2, l3, l4, l5, l6] [(0, b), (0, a), v2] S h n = mx_ex d 60 12 [l0, l1, l2, l3, l4, l5, l6] [(0, if b < a then b else a), v2] S h n) ∧
  (∀ (d : Nat) (v a : Int) (l0 l1 l2 l3 l4 l5 l6 : Option mx_V) (S h : mx_H) (n : Int), mx_ex d 60 12 [l0, l1, l2, l3, l4, l5, l6] [(0, v), (2, a)] S h n = mx_gd (10 ≤ S a (-2) ∧ S a (-2) ≤ 10) d 60 15 [l0, l1, l2, l3, l4, l5, l6] [] S (mx_u h a 4 v) n) ∧
  (∀ (d : Nat) (x : Int) (l1 l2 l3 l4 l5 l6 : Option mx_V) (S h : mx_H) (n : Int), mx_ex d 60 15 [some (2, x), l1, l2, l3, l4, l5, l6] [] S h n = mx_ex d 60 16 [some (2, x), l1, l2, l3, l4, l5, l6] [(2, x)] S h n) ∧
  (∀ (d : Nat) (l0 l1 l2 l3 l4 l5 l6 : Option mx_V) (v0 : mx_V) (S h : mx_H) (n : Int), mx_ex d 60 16 [l0, l1, l2, l3, l4, l5, l6] [v0] S h n = mx_ex d 60 17 [l0, l1, l2, l3, l4, l5, l6] [(0, 0), v0] S h n) ∧
  (∀ (d : Nat) (v a : Int) (l0 l1 l2 l3 l4 l5 l6 : Option mx_V) (S h : mx_H) (n : Int), mx_ex d 60 17 [l0, l1, l2, l3, l4, l5, l6] [(0, v), (2, a)] S h n = mx_gd (10 ≤ S a (-2) ∧ S a (-2) ≤ 10) d 60 20 [l0, l1, l2, l3, l4, l5, l6] [] S (mx_u h a 5 v) n) ∧
  (∀ (d : Nat) (x : Int) (l1 l2 l3 l4 l5 l6 : Option mx_V) (S h : mx_H) (n : Int), mx_ex d 60 20 [some (2, x), l1, l2, l3, l4, l5, l6] [] S h n = mx_ex d 60 21 [some (2, x), l1, l2, l3, l4, l5, l6] [(2, x)] S h n) ∧
  (∀ (d : Nat) (a : Int) (l0 l1 l2 l3 l4 l5 l6 : Option mx_V) (S h : mx_H) (n : Int), mx_ex d 60 21 [l0, l1, l2, l3, l4, l5, l6] [(2, a)] S h n = mx_gd (10 ≤ S a (-2) ∧ S a (-2) ≤ 10) d 60 24 [l0, l1, l2, l3, l4, l5, l6] [(2, S a 0)] S h n) ∧
  (∀ (d : Nat) (a : Int) (l0 l1 l2 l3 l4 l5 l6 : Option mx_V) (S h : mx_H) (n : Int), mx_ex (d + 1) 60 24 [l0, l1, l2, l3, l4, l5, l6] [(2, a)] S h n = mx_cl (S a (-2) = 8) d 85 [(2, a)] 60 27 [l0, l1, l2, l3, l4, l5, l6] [] S h n) ∧
  (∀ (d : Nat) (x : Int) (l1 l2 l3 l4 l5 l6 : Option mx_V) (S h : mx_H) (n : Int), mx_ex d 60 27 [some (2, x), l1, l2, l3, l4, l5, l6] [] S h n = mx_ex d 60 28 [some (2, x), l1, l2, l3, l4, l5, l6] [(2, x)] S h n) ∧
  (∀ (d : Nat) (a : Int) (l0 l1 l2 l3 l4 l5 l6 : Option mx_V) (S h : mx_H) (n : Int), mx_ex (d + 1) 60 28 [l0, l1, l2, l3, l4, l5, l6] [(2, a)] S h n = mx_cl (S a (-2) = 10) d 70 [(2, a)] 60 31 [l0, l1, l2, l3, l4, l5, l6] [] S h n) ∧
  (∀ (d : Nat) (l0 l1 l2 l3 l4 l5 l6 : Option mx_V) (S h : mx_H) (n : Int), mx_ex d 60 31 [l0, l1, l2, l3, l4, l5, l6] [] S h n = mx_ex d 60 32 [l0, l1, l2, l3, l4, l5, l6] [(0, 1)] S h n) ∧
  (∀ (d : Nat) (x : Int) (l0 l1 l2 l3 l4 l5 l6 : Option mx_V) (S h : mx_H) (n : Int), mx_ex d 60 32 [l0, l1, l2, l3, l4, l5, l6] [(0, x)] S h n = mx_ex d 60 33 [l0, l1, mx_nl l2, some (0, x), l4, l5, l6] [] S h n) ∧
  (∀ (d : Nat) (l0 l1 l2 l3 l4 l5 l6 : Option mx_V) (S h : mx_H) (n : Int), mx_ex d 60 33 [l0, l1, l2, l3, l4, l5, l6] [] S h n = mx_ex d 60 34 [l0, l1, l2, l3, l4, l5, l6] [(0, 0)] S h n) ∧
  (∀ (d : Nat) (x : Int) (l0 l1 l2 l3 l4 l5 l6 : Option mx_V) (S h : mx_H) (n : Int), mx_ex d 60 34 [l0, l1, l2, l3, l4, l5, l6] [(0, x)] S h n = mx_ex d 60 36 [l0, l1, l2, mx_nl l3, some (0, x), l5, l6] [] S h n) ∧
  (∀ (d : Nat) (x : Int) (l1 l2 l3 l4 l5 l6 : Option mx_V) (v0 : mx_V) (S h : mx_H) (n : Int), mx_ex d 60 38 [some (2, x), l1, l2, l3, l4, l5, l6] [v0] S h n = mx_ex d 60 39 [some (2, x), l1, l2, l3, l4, l5, l6] [(2, x), v0] S h n) ∧
  (∀ (d : Nat) (a : Int) (l0 l1 l2 l3 l4 l5 l6 : Option mx_V) (v1 : mx_V) (S h : mx_H) (n : Int), mx_ex d 60 39 [l0, l1, l2, l3, l4, l5, l6] [(2, a), v1] S h n = mx_gd (10 ≤ S a (-2) ∧ S a (-2) ≤ 10) d 60 42 [l0, l1, l2, l3, l4, l5, l6] [(0, h a 4), v1] S h n) ∧
  (∀ (d : Nat) (b a : Int) (l0 l1 l2 l3 l4 l5 l6 : Option mx_V) (S h : mx_H) (n : Int), mx_ex d 60 42 [l0, l1, l2, l3, l4, l5, l6] [(0, b), (0, a)] S h n = mx_br (b < a) d 60 126 45 [l0, l1, l2, l3, l4, l5, l6] [] S h n) ∧
  (∀ (d : Nat) (x : Int) (l0 l1 l2 l4 l5 l6 : Option mx_V) (S h : mx_H) (n : Int), mx_ex d 60 45 [l0, l1, l2, some (0, x), l4, l5, l6] [] S h n = mx_ex d 60 46 [l0, l1, l2, some (0, x), l4, l5, l6] [(0, x)] S h n) ∧
  (∀ (d : Nat) (a : Int) (l0 l1 l2 l3 l4 l5 l6 : Option mx_V) (S h : mx_H) (n : Int), mx_ex d 60 46 [l0, l1, l2, l3, l4, l5, l6] [(0, a)] S h n = mx_br (a = 0) d 60 126 49 [l0, l1, l2, l3, l4, l5, l6] [] S h n) ∧
  (∀ (d : Nat) (x : Int) (l1 l2 l3 l4 l5 l6 : Option mx_V) (S h : mx_H) (n : Int), mx_ex d 60 49 [some (2, x), l1, l2, l3, l4, l5, l6] [] S h n = mx_ex d 60 50 [some (2, x), l1, l2, l3, l4, l5, l6] [(2, x)] S h n) ∧
  (∀ (d : Nat) (a : Int) (l0 l1 l2 l3 l4 l5 l6 : Option mx_V) (S h : mx_H) (n : Int), mx_ex d 60 50 [l0, l1, l2, l3, l4, l5, l6] [(2, a)] S h n = mx_gd (10 ≤ S a (-2) ∧ S a (-2) ≤ 10) d 60 53 [l0, l1, l2, l3, l4, l5, l6] [(0, h a 6)] S h n) ∧
  (∀ (d : Nat) (a : Int) (l0 l1 l2 l3 l4 l5 l6 : Option mx_V) (S h : mx_H) (n : Int), mx_ex d 60 53 [l0, l1, l2, l3, l4, l5, l6] [(0, a)] S h n = mx_br (a = 0) d 60 126 56 [l0, l1, l2, l3, l4, l5, l6] [] S h n) ∧
  (∀ (d : Nat) (x : Int) (l1 l2 l3 l4 l5 l6 : Option mx_V) (S h : mx_H) (n : Int), mx_ex d 60 56 [some (2, x), l1, l2, l3, l4, l5, l6] [] S h n = mx_ex d 60 57 [some (2, x), l1, l2, l3, l4, l5, l6] [(2, x)] S h n) ∧
  (∀ (d : Nat) (a : Int) (l0 l1 l2 l3 l4 l5 l6 : Option mx_V) (S h : mx_H) (n : Int), mx_ex (d + 1) 60 57 [l0, l1, l2, l3, l4, l5, l6] [(2, a)] S h n = mx_cl (S a (-2) = 10) d 61 [(2, a)] 60 60 [l0, l1, l2, l3, l4, l5, l6] [] S h n) ∧
  (∀ (d : Nat) (x : Int) (l0 l1 l2 l3 l4 l5 l6 : Option mx_V) (S h : mx_H) (n : Int), mx_ex d 60 60 [l0, l1, l2, l3, l4, l5, l6] [(0, x)] S h n = mx_ex d 60 62 [l0, l1, l2, l3, mx_nl l4, some (0, x), l6] [] S h n) ∧
  (∀ (d : Nat) (x : Int) (l1 l2 l3 l4 l5 l6 : Option mx_V) (S h : mx_H) (n : Int), mx_ex d 60 62 [some (2, x), l1, l2, l3, l4, l5, l6] [] S h n = mx_ex d 60 63 [some (2, x), l1, l2, l3, l4, l5, l6] [(2, x)] S h n) ∧
  (∀ (d : Nat) (a : Int) (l0 l1 l2 l3 l4 l5 l6 : Option mx_V) (S h : mx_H) (n : Int), mx_ex (d + 1) 60 63 [l0, l1, l2, l3, l4, l5, l6] [(2, a)] S h n = mx_cl (S a (-2) = 10) d 62 [(2, a)] 60 66 [l0, l1, l2, l3, l4, l5, l6] [] S h n) ∧
  (∀ (d : Nat) (x : Int) (l0 l1 l2 l3 l4 l5 l6 : Option mx_V) (S h : mx_H) (n : Int), mx_ex d 60 66 [l0, l1, l2, l3, l4, l5, l6] [(0, x)] S h n = mx_ex d 60 68 [l0, l1, l2, l3, l4, mx_nl l5, some (0, x)] [] S h n) ∧
  (∀ (d : Nat) (x : Int) (l0 l1 l2 l3 l4 l6 : Option mx_V) (S h : mx_H) (n : Int), mx_ex d 60 68 [l0, l1, l2, l3, l4, some (0, x), l6] [] S h n = mx_ex d 60 70 [l0, l1, l2, l3, l4, some (0, x), l6] [(0, x)] S h n) ∧
  (∀ (d : Nat) (a : Int) (l0 l1 l2 l3 l4 l5 l6 : Option mx_V) (S h : mx_H) (n : Int), mx_ex d 60 70 [l0, l1, l2, l3, l4, l5, l6] [(0, a)] S h n = mx_br (a < 0) d 60 83 73 [l0, l1, l2, l3, l4, l5, l6] [] S h n) ∧
  (∀ (d : Nat) (x : Int) (l1 l2 l3 l4 l5 l6 : Option mx_V) (S h : mx_H) (n : Int), mx_ex d 60 73 [some (2, x), l1, l2, l3, l4, l5, l6] [] S h n = mx_ex d 60 74 [some (2, x), l1, l2, l3, l4, l5, l6] [(2, x)] S h n) ∧
  (∀ (d : Nat) (x : Int) (l0 l1 l2 l3 l4 l6 : Option mx_V) (v0 : mx_V) (S h : mx_H) (n : Int), mx_ex d 60 74 [l0, l1, l2, l3, l4, some (0, x), l6] [v0] S h n = mx_ex d 60 76 [l0, l1, l2, l3, l4, some (0, x), l6] [(0, x), v0] S h n) ∧
  (∀ (d : Nat) (x0 a : Int) (l0 l1 l2 l3 l4 l5 l6 : Option mx_V) (S h : mx_H) (n : Int), mx_ex (d + 1) 60 76 [l0, l1, l2, l3, l4, l5, l6] [(0, x0), (2, a)] S h n = mx_cl (S a (-2) = 10) d 63 [(2, a), (0, x0)] 60 79 [l0, l1, l2, l3, l4, l5, l6] [] S h n) ∧
  (∀ (d : Nat) (x : Int) (l0 l1 l2 l3 l4 l5 l6 : Option mx_V) (S h : mx_H) (n : Int), mx_ex d 60 79 [l0, l1, l2, l3, l4, l5, l6] [(0, x)] S h n = mx_ex d 60 80 [l0, l1, mx_nl l2, some (0, x), l4, l5, l6] [] S h n) ∧
  (∀ (d : Nat) (l0 l1 l2 l3 l4 l5 l6 : Option mx_V) (S h : mx_H) (n : Int), mx_ex d 60 80 [l0, l1, l2, l3, l4, l5, l6] [] S h n = mx_ex d 60 120 [l0, l1, l2, l3, l4, l5, l6] [] S h n) ∧
  (∀ (d : Nat) (x : Int) (l0 l1 l2 l3 l4 l5 : Option mx_V) (S h : mx_H) (n : Int), mx_ex d 60 83 [l0, l1, l2, l3, l4, l5, some (0, x)] [] S h n = mx_ex d 60 85 [l0, l1, l2, l3, l4, l5, some (0, x)] [(0, x)] S h n) ∧
  (∀ (d : Nat) (a : Int) (l0 l1 l2 l3 l4 l5 l6 : Option mx_V) (S h : mx_H) (n : Int), mx_ex d 60 85 [l0, l1, l2, l3, l4, l5, l6] [(0, a)] S h n = mx_br (a < 0) d 60 98 88 [l0, l1, l2, l3, l4, l5, l6] [] S h n) ∧
  (∀ (d : Nat) (x : Int) (l1 l2 l3 l4 l5 l6 : Option mx_V) (S h : mx_H) (n : Int), mx_ex d 60 88 [some (2, x), l1, l2, l3, l4, l5, l6] [] S h n = mx_ex d 60 89 [some (2, x), l1, l2, l3, l4, l5, l6] [(2, x)] S h n) ∧
  (∀ (d : Nat) (x : Int) (l0 l1 l2 l3 l4 l5 : Option mx_V) (v0 : mx_V) (S h : mx_H) (n : Int), mx_ex d 60 89 [l0, l1, l2, l3, l4, l5, some (0, x)] [v0] S h n = mx_ex d 60 91 [l0, l1, l2, l3, l4, l5, some (0, x)] [(0, x), v0] S h n) ∧
  (∀ (d : Nat) (x0 a : Int) (l0 l1 l2 l3 l4 l5 l6 : Option mx_V) (S h : mx_H) (n : Int), mx_ex (d + 1) 60 91 [l0, l1, l2, l3, l4, l5, l6] [(0, x0), (2, a)] S h n = mx_cl (S a (-2) = 10) d 66 [(2, a), (0, x0)] 60 94 [l0, l1, l2, l3, l4, l5, l6] [] S h n) ∧
  (∀ (d : Nat) (x : Int) (l0 l1 l2 l3 l4 l5 l6 : Option mx_V) (S h : mx_H) (n : Int), mx_ex d 60 94 [l0, l1, l2, l3, l4, l5, l6] [(0, x)] S h n = mx_ex d 60 95 [l0, l1, mx_nl l2, some (0, x), l4, l5, l6] [] S h n) ∧
  (∀ (d : Nat) (l0 l1 l2 l3 l4 l5 l6 : Option mx_V) (S h : mx_H) (n : Int), mx_ex d 60 95 [l0, l1, l2, l3, l4, l5, l6] [] S h n = mx_ex d 60 120 [l0, l1, l2, l3, l4, l5, l6] [] S h n) ∧
  (∀ (d : Nat) (x : Int) (l1 l2 l3 l4 l5 l6 : Option mx_V) (S h : mx_H) (n : Int), mx_ex d 60 98 [some (2, x), l1, l2, l3, l4, l5, l6] [] S h n = mx_ex d 60 99 [some (2, x), l1, l2, l3, l4, l5, l6] [(2, x)] S h n) ∧
  (∀ (d : Nat) (l0 l1 l2 l3 l4 l5 l6 : Option mx_V) (v0 : mx_V) (S h : mx_H) (n : Int), mx_ex d 60 99 [l0, l1, l2, l3, l4, l5, l6] [v0] S h n = mx_ex d 60 101 [l0, l1, l2, l3, l4, l5, l6] [(2, (-10)), v0] S h n) ∧
  (∀ (d : Nat) (x0 a : Int) (l0 l1 l2 l3 l4 l5 l6 : Option mx_V) (S h : mx_H) (n : Int), mx_ex (d + 1) 60 101 [l0, l1, l2, l3, l4, l5, l6] [(2, x0), (2, a)] S h n = mx_cl (S a (-2) = 10) d 69 [(2, a), (2, x0)] 60 104 [l0, l1, l2, l3, l4, l5, l6] [] S h n) ∧
  (∀ (d : Nat) (a : Int) (l0 l1 l2 l3 l4 l5 l6 : Option mx_V) (S h : mx_H) (n : Int), mx_ex d 60 104 [l0, l1, l2, l3, l4, l5, l6] [(0, a)] S h n = mx_br (a = 0) d 60 118 107 [l0, l1, l2, l3, l4, l5, l6] [] S h n) ∧
  (∀ (d : Nat) (x : Int) (l1 l2 l3 l4 l5 l6 : Option mx_V) (S h : mx_H) (n : Int), mx_ex d 60 107 [some (2, x), l1, l2, l3, l4, l5, l6] [] S h n = mx_ex d 60 108 [some (2, x), l1, l2, l3, l4, l5, l6] [(2, x)] S h n) ∧
  (∀ (d : Nat) (a : Int) (l0 l1 l2 l3 l4 l5 l6 : Option mx_V) (S h : mx_H) (n : Int), mx_ex (d + 1) 60 108 [l0, l1, l2, l3, l4, l5, l6] [(2, a)] S h n = mx_cl (S a (-2) = 10) d 65 [(2, a)] 60 111 [l0, l1, l2, l3, l4, l5, l6] [] S h n) ∧
  (∀ (d : Nat) (a : Int) (l0 l1 l2 l3 l4 l5 l6 : Option mx_V) (S h : mx_H) (n : Int), mx_ex d 60 111 [l0, l1, l2, l3, l4, l5, l6] [(0, a)] S h n = mx_br (a = 0) d 60 118 114 [l0, l1, l2, l3, l4, l5, l6] [] S h n) ∧
  (∀ (d : Nat) (l0 l1 l2 l3 l4 l5 l6 : Option mx_V) (S h : mx_H) (n : Int), mx_ex d 60 114 [l0, l1, l2, l3, l4, l5, l6] [] S h n = mx_ex d 60 115 [l0, l1, l2, l3, l4, l5, l6] [(0, 1)] S h n) ∧
  (∀ (d : Nat) (l0 l1 l2 l3 l4 l5 l6 : Option mx_V) (v0 : mx_V) (S h : mx_H) (n : Int), mx_ex d 60 115 [l0, l1, l2, l3, l4, l5, l6] [v0] S h n = mx_ex d 60 119 [l0, l1, l2, l3, l4, l5, l6] [v0] S h n) ∧
  (∀ (d : Nat) (l0 l1 l2 l3 l4 l5 l6 : Option mx_V) (S h : mx_H) (n : Int), mx_ex d 60 118 [l0, l1, l2, l3, l4, l5, l6] [] S h n = mx_ex d 60 119 [l0, l1, l2, l3, l4, l5, l6] [(0, 0)] S h n) ∧
  (∀ (d : Nat) (x : Int) (l0 l1 l2 l3 l4 l5 l6 : Option mx_V) (S h : mx_H) (n : Int), mx_ex d 60 119 [l0, l1, l2, l3, l4, l5, l6] [(0, x)] S h n = mx_ex d 60 120 [l0, l1, mx_nl l2, some (0, x), l4, l5, l6] [] S h n) ∧
  (∀ (d : Nat) (x : Int) (l0 l1 l2 l3 l5 l6 : Option mx_V) (S h : mx_H) (n : Int), mx_ex d 60 120 [l0, l1, l2, l3, some (0, x), l5, l6] [] S h n = mx_ex d 60 123 [l0, l1, l2, mx_nl l3, some (0, mx_w (x + 1)), l5, l6] [] S h n) ∧
  (∀ (d : Nat) (l0 l1 l2 l3 l4 l5 l6 : Option mx_V) (S h : mx_H) (n : Int), mx_ex d 60 123 [l0, l1, l2, l3, l4, l5, l6] [] S h n = mx_ex d 60 36 [l0, l1, l2, l3, l4, l5, l6] [] S h n) ∧
  (∀ (d : Nat) (x : Int) (l0 l1 l2 l4 l5 l6 : Option mx_V) (S h : mx_H) (n : Int), mx_ex d 60 126 [l0, l1, l2, some (0, x), l4, l5, l6] [] S h n = mx_ex d 60 127 [l0, l1, l2, some (0, x), l4, l5, l6] [(0, x)] S h n) ∧
  (∀ (d : Nat) (a : Int) (l0 l1 l2 l3 l4 l5 l6 : Option mx_V) (S h : mx_H) (n : Int), mx_ex d 60 127 [l0, l1, l2, l3, l4, l5, l6] [(0, a)] S h n = mx_br (a = 0) d 60 141 130 [l0, l1, l2, l3, l4, l5, l6] [] S h n) ∧
  (∀ (d : Nat) (x : Int) (l1 l2 l3 l4 l5 l6 : Option mx_V) (S h : mx_H) (n : Int), mx_ex d 60 130 [some (2, x), l1, l2, l3, l4, l5, l6] [] S h n = mx_ex d 60 131 [some (2, x), l1, l2, l3, l4, l5, l6] [(2, x)] S h n) ∧
  (∀ (d : Nat) (a : Int) (l0 l1 l2 l3 l4 l5 l6 : Option mx_V) (S h : mx_H) (n : Int), mx_ex d 60 131 [l0, l1, l2, l3, l4, l5, l6] [(2, a)] S h n = mx_gd (10 ≤ S a (-2) ∧ S a (-2) ≤ 10) d 60 134 [l0, l1, l2, l3, l4, l5, l6] [(0, h a 6)] S h n) ∧
  (∀ (d : Nat) (a : Int) (l0 l1 l2 l3 l4 l5 l6 : Option mx_V) (S h : mx_H) (n : Int), mx_ex d 60 134 [l0, l1, l2, l3, l4, l5, l6] [(0, a)] S h n = mx_br (a = 0) d 60 137 141 [l0, l1, l2, l3, l4, l5, l6] [] S h n) ∧
  (∀ (d : Nat) (l0 l1 l2 l3 l4 l5 l6 : Option mx_V) (S h : mx_H) (n : Int), mx_ex d 60 137 [l0, l1, l2, l3, l4, l5, l6] [] S h n = mx_ex d 60 138 [l0, l1, l2, l3, l4, l5, l6] [(0, 1)] S h n) ∧
  (∀ (d : Nat) (l0 l1 l2 l3 l4 l5 l6 : Option mx_V) (v0 : mx_V) (S h : mx_H) (n : Int), mx_ex d 60 138 [l0, l1, l2, l3, l4, l5, l6] [v0] S h n = mx_ex d 60 142 [l0, l1, l2, l3, l4, l5, l6] [v0] S h n) :=
  ⟨by intros; exact rfl,
   by intros; exact eq_ld rfl rfl,
   by intros; exact eq_ld rfl rfl,
   by intros; exact eq_pr rfl,
   by intros; exact eq_ld rfl rfl,
   by intros; exact eq_ld rfl rfl,
   by intros; exact eq_ld rfl rfl,
   by intros; exact eq_alen rfl,
   by intros; exact eq_m2 (o := mx_min) rfl (Nat.le_of_ble_eq_true rfl),
   by intros; exact eq_pi rfl,
   by intros; exact eq_ld rfl rfl,
   by intros; exact eq_push rfl,
   by intros; exact eq_pi rfl,
   by intros; exact eq_ld rfl rfl,
   by intros; exact eq_gr rfl,
   by intros; exact eq_cv rfl (Nat.le_of_ble_eq_true rfl) rfl rfl rfl (Nat.le_of_ble_eq_true rfl),
   by intros; exact eq_ld rfl rfl,
   by intros; exact eq_cv rfl (Nat.le_of_ble_eq_true rfl) rfl rfl rfl (Nat.le_of_ble_eq_true rfl),
   by intros; exact eq_push rfl,
   by intros; exact eq_st rfl (by decide) (Nat.le_of_ble_eq_true rfl) rfl,
   by intros; exact eq_push rfl,
   by intros; exact eq_st rfl (by decide) (Nat.le_of_ble_eq_true rfl) rfl,
   by intros; exact eq_ld rfl rfl,
   by intros; exact eq_gi rfl,
   by intros; exact eq_ic4 rfl,
   by intros; exact eq_ld rfl rfl,
   by intros; exact eq_if0 rfl,
   by intros; exact eq_ld rfl rfl,
   by intros; exact eq_gi rfl,
   by intros; exact eq_if0 rfl,
   by intros; exact eq_ld rfl rfl,
   by intros; exact eq_cv rfl (Nat.le_of_ble_eq_true rfl) rfl rfl rfl (Nat.le_of_ble_eq_true rfl),
   by intros; exact eq_st rfl (by decide) (Nat.le_of_ble_eq_true rfl) rfl,
   by intros; exact eq_ld rfl rfl,
   by intros; exact eq_cv rfl (Nat.le_of_ble_eq_true rfl) rfl rfl rfl (Nat.le_of_ble_eq_true rfl),
   by intros; exact eq_st rfl (by decide) (Nat.le_of_ble_eq_true rfl) rfl,
   by intros; exact eq_ld rfl rfl,
   by intros; exact eq_if2 rfl,
   by intros; exact eq_ld rfl rfl,
   by intros; exact eq_ld rfl rfl,
   by intros; exact eq_cv rfl (Nat.le_of_ble_eq_true rfl) rfl rfl rfl (Nat.le_of_ble_eq_true rfl),
   by intros; exact eq_st rfl (by decide) (Nat.le_of_ble_eq_true rfl) rfl,
   by intros; exact eq_go rfl,
   by intros; exact eq_ld rfl rfl,
   by intros; exact eq_if2 rfl,
   by intros; exact eq_ld rfl rfl,
   by intros; exact eq_ld rfl rfl,
   by intros; exact eq_cv rfl (Nat.le_of_ble_eq_true rfl) rfl rfl rfl (Nat.le_of_ble_eq_true rfl),
   by intros; exact eq_st rfl (by decide) (Nat.le_of_ble_eq_true rfl) rfl,
   by intros; exact eq_go rfl,
   by intros; exact eq_ld rfl rfl,
   by intros; exact eq_push rfl,
   by intros; exact eq_cv rfl (Nat.le_of_ble_eq_true rfl) rfl rfl rfl (Nat.le_of_ble_eq_true rfl),
   by intros; exact eq_if0 rfl,
   by intros; exact eq_ld rfl rfl,
   by intros; exact eq_cv rfl (Nat.le_of_ble_eq_true rfl) rfl rfl rfl (Nat.le_of_ble_eq_true rfl),
   by intros; exact eq_if0 rfl,
   by intros; exact eq_push rfl,
   by intros; exact eq_go rfl,
   by intros; exact eq_push rfl,
   by intros; exact eq_st rfl (by decide) (Nat.le_of_ble_eq_true rfl) rfl,
   by intros; exact eq_inc rfl rfl rfl,
   by intros; exact eq_go rfl,
   by intros; exact eq_ld rfl rfl,
   by intros; exact eq_if0 rfl,
   by intros; exact eq_ld rfl rfl,
   by intros; exact eq_gi rfl,
   by intros; exact eq_if1 rfl,
   by intros; exact eq_push rfl,
   by intros; exact eq_go rfl⟩
theorem rw_X7_told_1 :
  (∀ (d : Nat) (l0 l1 l2 l3 l4 l5 l6 : Option mx_V) (S h : mx_H) (n : Int), mx_ex d 60 141 [l0, l1, l2, l3, l4, l5, l6] [] S h n = mx_ex d 60 142 [l0, l1, l2, l3, l4, l5, l6] [(0, 0)] S h n) ∧
  (∀ (d : Nat) (x : Int) (l0 l1 l2 l3 l4 l5 l6 : Option mx_V) (S h : mx_H) (n : Int), mx_ex d 60 142 [l0, l1, l2, l3, l4, l5, l6] [(0, x)] S h n = mx_re (0 ≤ x ∧ x ≤ 1) (some (0, x)) S h n) :=
  ⟨by intros; exact eq_push rfl,
   by intros; exact eq_rr rfl⟩
theorem rw_X7_kindNamed :
  (∀ (d : Nat) (a0 : Int) (S h : mx_H) (n : Int), mx_M d 61 [(2, a0)] S h n = mx_ex d 61 0 [some (2, a0)] [] S h n) ∧
  (∀ (d : Nat) (x : Int) (S h : mx_H) (n : Int), mx_ex d 61 0 [some (2, x)] [] S h n = mx_ex d 61 1 [some (2, x)] [(2, x)] S h n) ∧
  (∀ (d : Nat) (l0 : Option mx_V) (v0 : mx_V) (S h : mx_H) (n : Int), mx_ex d 61 1 [l0] [v0] S h n = mx_ex d 61 3 [l0] [(2, (-11)), v0] S h n) ∧
  (∀ (d : Nat) (x0 a : Int) (l0 : Option mx_V) (S h : mx_H) (n : Int), mx_ex (d + 1) 61 3 [l0] [(2, x0), (2, a)] S h n = mx_cl (S a (-2) = 10) d 69 [(2, a), (2, x0)] 61 6 [l0] [] S h n) ∧
  (∀ (d : Nat) (a : Int) (l0 : Option mx_V) (S h : mx_H) (n : Int), mx_ex d 61 6 [l0] [(0, a)] S h n = mx_br (a = 0) d 61 11 9 [l0] [] S h n) ∧
  (∀ (d : Nat) (l0 : Option mx_V) (S h : mx_H) (n : Int), mx_ex d 61 9 [l0] [] S h n = mx_ex d 61 10 [l0] [(0, 0)] S h n) ∧
  (∀ (d : Nat) (x : Int) (l0 : Option mx_V) (S h : mx_H) (n : Int), mx_ex d 61 10 [l0] [(0, x)] S h n = some (some (0, x), S, h, n)) ∧
  (∀ (d : Nat) (x : Int) (S h : mx_H) (n : Int), mx_ex d 61 11 [some (2, x)] [] S h n = mx_ex d 61 12 [some (2, x)] [(2, x)] S h n) ∧
  (∀ (d : Nat) (l0 : Option mx_V) (v0 : mx_V) (S h : mx_H) (n : Int), mx_ex d 61 12 [l0] [v0] S h n = mx_ex d 61 14 [l0] [(2, (-12)), v0] S h n) ∧
  (∀ (d : Nat) (x0 a : Int) (l0 : Option mx_V) (S h : mx_H) (n : Int), mx_ex (d + 1) 61 14 [l0] [(2, x0), (2, a)] S h n = mx_cl (S a (-2) = 10) d 69 [(2, a), (2, x0)] 61 17 [l0] [] S h n) ∧
  (∀ (d : Nat) (a : Int) (l0 : Option mx_V) (S h : mx_H) (n : Int), mx_ex d 61 17 [l0] [(0, a)] S h n = mx_br (a = 0) d 61 22 20 [l0] [] S h n) ∧
  (∀ (d : Nat) (l0 : Option mx_V) (S h : mx_H) (n : Int), mx_ex d 61 20 [l0] [] S h n = mx_ex d 61 21 [l0] [(0, 1)] S h n) ∧
  (∀ (d : Nat) (x : Int) (l0 : Option mx_V) (S h : mx_H) (n : Int), mx_ex d 61 21 [l0] [(0, x)] S h n = some (some (0, x), S, h, n)) ∧
  (∀ (d : Nat) (x : Int) (S h : mx_H) (n : Int), mx_ex d 61 22 [some (2, x)] [] S h n = mx_ex d 61 23 [some (2, x)] [(2, x)] S h n) ∧
  (∀ (d : Nat) (l0 : Option mx_V) (v0 : mx_V) (S h : mx_H) (n : Int), mx_ex d 61 23 [l0] [v0] S h n = mx_ex d 61 25 [l0] [(2, (-13)), v0] S h n) ∧
  (∀ (d : Nat) (x0 a : Int) (l0 : Option mx_V) (S h : mx_H) (n : Int), mx_ex (d + 1) 61 25 [l0] [(2, x0), (2, a)] S h n = mx_cl (S a (-2) = 10) d 69 [(2, a), (2, x0)] 61 28 [l0] [] S h n) ∧
  (∀ (d : Nat) (a : Int) (l0 : Option mx_V) (S h : mx_H) (n : Int), mx_ex d 61 28 [l0] [(0, a)] S h n = mx_br (a = 0) d 61 33 31 [l0] [] S h n) ∧
  (∀ (d : Nat) (l0 : Option mx_V) (S h : mx_H) (n : Int), mx_ex d 61 31 [l0] [] S h n = mx_ex d 61 32 [l0] [(0, 2)] S h n) ∧
  (∀ (d : Nat) (x : Int) (l0 : Option mx_V) (S h : mx_H) (n : Int), mx_ex d 61 32 [l0] [(0, x)] S h n = some (some (0, x), S, h, n)) ∧
  (∀ (d : Nat) (x : Int) (S h : mx_H) (n : Int), mx_ex d 61 33 [some (2, x)] [] S h n = mx_ex d 61 34 [some (2, x)] [(2, x)] S h n) ∧
  (∀ (d : Nat) (l0 : Option mx_V) (v0 : mx_V) (S h : mx_H) (n : Int), mx_ex d 61 34 [l0] [v0] S h n = mx_ex d 61 36 [l0] [(2, (-14)), v0] S h n) ∧
  (∀ (d : Nat) (x0 a : Int) (l0 : Option mx_V) (S h : mx_H) (n : Int), mx_ex (d + 1) 61 36 [l0] [(2, x0), (2, a)] S h n = mx_cl (S a (-2) = 10) d 69 [(2, a), (2, x0)] 61 39 [l0] [] S h n) ∧
  (∀ (d : Nat) (a : Int) (l0 : Option mx_V) (S h : mx_H) (n : Int), mx_ex d 61 39 [l0] [(0, a)] S h n = mx_br (a = 0) d 61 44 42 [l0] [] S h n) ∧
  (∀ (d : Nat) (l0 : Option mx_V) (S h : mx_H) (n : Int), mx_ex d 61 42 [l0] [] S h n = mx_ex d 61 43 [l0] [(0, 3)] S h n) ∧
  (∀ (d : Nat) (x : Int) (l0 : Option mx_V) (S h : mx_H) (n : Int), mx_ex d 61 43 [l0] [(0, x)] S h n = some (some (0, x), S, h, n)) ∧
  (∀ (d : Nat) (x : Int) (S h : mx_H) (n : Int), mx_ex d 61 44 [some (2, x)] [] S h n = mx_ex d 61 45 [some (2, x)] [(2, x)] S h n) ∧
  (∀ (d : Nat) (l0 : Option mx_V) (v0 : mx_V) (S h : mx_H) (n : Int), mx_ex d 61 45 [l0] [v0] S h n = mx_ex d 61 47 [l0] [(2, (-15)), v0] S h n) ∧
  (∀ (d : Nat) (x0 a : Int) (l0 : Option mx_V) (S h : mx_H) (n : Int), mx_ex (d + 1) 61 47 [l0] [(2, x0), (2, a)] S h n = mx_cl (S a (-2) = 10) d 69 [(2, a), (2, x0)] 61 50 [l0] [] S h n) ∧
  (∀ (d : Nat) (a : Int) (l0 : Option mx_V) (S h : mx_H) (n : Int), mx_ex d 61 50 [l0] [(0, a)] S h n = mx_br (a = 0) d 61 55 53 [l0] [] S h n) ∧
  (∀ (d : Nat) (l0 : Option mx_V) (S h : mx_H) (n : Int), mx_ex d 61 53 [l0] [] S h n = mx_ex d 61 54 [l0] [(0, 4)] S h n) ∧
  (∀ (d : Nat) (x : Int) (l0 : Option mx_V) (S h : mx_H) (n : Int), mx_ex d 61 54 [l0] [(0, x)] S h n = some (some (0, x), S, h, n)) ∧
  (∀ (d : Nat) (x : Int) (S h : mx_H) (n : Int), mx_ex d 61 55 [some (2, x)] [] S h n = mx_ex d 61 56 [some (2, x)] [(2, x)] S h n) ∧
  (∀ (d : Nat) (l0 : Option mx_V) (v0 : mx_V) (S h : mx_H) (n : Int), mx_ex d 61 56 [l0] [v0] S h n = mx_ex d 61 58 [l0] [(2, (-16)), v0] S h n) ∧
  (∀ (d : Nat) (x0 a : Int) (l0 : Option mx_V) (S h : mx_H) (n : Int), mx_ex (d + 1) 61 58 [l0] [(2, x0), (2, a)] S h n = mx_cl (S a (-2) = 10) d 69 [(2, a), (2, x0)] 61 61 [l0] [] S h n) ∧
  (∀ (d : Nat) (a : Int) (l0 : Option mx_V) (S h : mx_H) (n : Int), mx_ex d 61 61 [l0] [(0, a)] S h n = mx_br (a = 0) d 61 68 64 [l0] [] S h n) ∧
  (∀ (d : Nat) (l0 : Option mx_V) (S h : mx_H) (n : Int), mx_ex d 61 64 [l0] [] S h n = mx_ex d 61 65 [l0] [(0, 5)] S h n) ∧
  (∀ (d : Nat) (l0 : Option mx_V) (v0 : mx_V) (S h : mx_H) (n : Int), mx_ex d 61 65 [l0] [v0] S h n = mx_ex d 61 69 [l0] [v0] S h n) ∧
  (∀ (d : Nat) (l0 : Option mx_V) (S h : mx_H) (n : Int), mx_ex d 61 68 [l0] [] S h n = mx_ex d 61 69 [l0] [(0, (-1))] S h n) ∧
  (∀ (d : Nat) (x : Int) (l0 : Option mx_V) (S h : mx_H) (n : Int), mx_ex d 61 69 [l0] [(0, x)] S h n = some (some (0, x), S, h, n)) :=
  ⟨by intros; exact rfl,
   by intros; exact eq_ld rfl rfl,
   by intros; exact eq_push rfl,
   by intros; exact eq_cv rfl (Nat.le_of_ble_eq_true rfl) rfl rfl rfl (Nat.le_of_ble_eq_true rfl),
   by intros; exact eq_if0 rfl,
   by intros; exact eq_push rfl,
   by intros; exact eq_ret rfl,
   by intros; exact eq_ld rfl rfl,
   by intros; exact eq_push rfl,
   by intros; exact eq_cv rfl (Nat.le_of_ble_eq_true rfl) rfl rfl rfl (Nat.le_of_ble_eq_true rfl),
   by intros; exact eq_if0 rfl,
   by intros; exact eq_push rfl,
   by intros; exact eq_ret rfl,
   by intros; exact eq_ld rfl rfl,
   by intros; exact eq_push rfl,
   by intros; exact eq_cv rfl (Nat.le_of_ble_eq_true rfl) rfl rfl rfl (Nat.le_of_ble_eq_true rfl),
   by intros; exact eq_if0 rfl,
   by intros; exact eq_push rfl,
   by intros; exact eq_ret rfl,
   by intros; exact eq_ld rfl rfl,
   by intros; exact eq_push rfl,
   by intros; exact eq_cv rfl (Nat.le_of_ble_eq_true rfl) rfl rfl rfl (Nat.le_of_ble_eq_true rfl),
   by intros; exact eq_if0 rfl,
   by intros; exact eq_push rfl,
   by intros; exact eq_ret rfl,
   by intros; exact eq_ld rfl rfl,
   by intros; exact eq_push rfl,
   by intros; exact eq_cv rfl (Nat.le_of_ble_eq_true rfl) rfl rfl rfl (Nat.le_of_ble_eq_true rfl),
   by intros; exact eq_if0 rfl,
   by intros; exact eq_push rfl,
   by intros; exact eq_ret rfl,
   by intros; exact eq_ld rfl rfl,
   by intros; exact eq_push rfl,
   by intros; exact eq_cv rfl (Nat.le_of_ble_eq_true rfl) rfl rfl rfl (Nat.le_of_ble_eq_true rfl),
   by intros; exact eq_if0 rfl,
   by intros; exact eq_push rfl,
   by intros; exact eq_go rfl,
   by intros; exact eq_push rfl,
   by intros; exact eq_ret rfl⟩
theorem rw_X7_lineSortNamed :
  (∀ (d : Nat) (a0 : Int) (S h : mx_H) (n : Int), mx_M d 62 [(2, a0)] S h n = mx_ex d 62 0 [some (2, a0)] [] S h n) ∧
  (∀ (d : Nat) (x : Int) (S h : mx_H) (n : Int), mx_ex d 62 0 [some (2, x)] [] S h n = mx_ex d 62 1 [some (2, x)] [(2, x)] S h n) ∧
  (∀ (d : Nat) (l0 : Option mx_V) (v0 : mx_V) (S h : mx_H) (n : Int), mx_ex d 62 1 [l0] [v0] S h n = mx_ex d 62 3 [l0] [(2, (-17)), v0] S h n) ∧
  (∀ (d : Nat) (x0 a : Int) (l0 : Option mx_V) (S h : mx_H) (n : Int), mx_ex (d + 1) 62 3 [l0] [(2, x0), (2, a)] S h n = mx_cl (S a (-2) = 10) d 69 [(2, a), (2, x0)] 62 6 [l0] [] S h n) ∧
  (∀ (d : Nat) (a : Int) (l0 : Option mx_V) (S h : mx_H) (n : Int), mx_ex d 62 6 [l0] [(0, a)] S h n = mx_br (a = 0) d 62 11 9 [l0] [] S h n) ∧
  (∀ (d : Nat) (l0 : Option mx_V) (S h : mx_H) (n : Int), mx_ex d 62 9 [l0] [] S h n = mx_ex d 62 10 [l0] [(0, 0)] S h n) ∧
  (∀ (d : Nat) (x : Int) (l0 : Option mx_V) (S h : mx_H) (n : Int), mx_ex d 62 10 [l0] [(0, x)] S h n = some (some (0, x), S, h, n)) ∧
  (∀ (d : Nat) (x : Int) (S h : mx_H) (n : Int), mx_ex d 62 11 [some (2, x)] [] S h n = mx_ex d 62 12 [some (2, x)] [(2, x)] S h n) ∧
  (∀ (d : Nat) (l0 : Option mx_V) (v0 : mx_V) (S h : mx_H) (n : Int), mx_ex d 62 12 [l0] [v0] S h n = mx_ex d 62 14 [l0] [(2, (-18)), v0] S h n) ∧
  (∀ (d : Nat) (x0 a : Int) (l0 : Option mx_V) (S h : mx_H) (n : Int), mx_ex (d + 1) 62 14 [l0] [(2, x0), (2, a)] S h n = mx_cl (S a (-2) = 10) d 69 [(2, a), (2, x0)] 62 17 [l0] [] S h n) ∧
  (∀ (d : Nat) (a : Int) (l0 : Option mx_V) (S h : mx_H) (n : Int), mx_ex d 62 17 [l0] [(0, a)] S h n = mx_br (a = 0) d 62 22 20 [l0] [] S h n) ∧
  (∀ (d : Nat) (l0 : Option mx_V) (S h : mx_H) (n : Int), mx_ex d 62 20 [l0] [] S h n = mx_ex d 62 21 [l0] [(0, 1)] S h n) ∧
  (∀ (d : Nat) (x : Int) (l0 : Option mx_V) (S h : mx_H) (n : Int), mx_ex d 62 21 [l0] [(0, x)] S h n = some (some (0, x), S, h, n)) ∧
  (∀ (d : Nat) (x : Int) (S h : mx_H) (n : Int), mx_ex d 62 22 [some (2, x)] [] S h n = mx_ex d 62 23 [some (2, x)] [(2, x)] S h n) ∧
  (∀ (d : Nat) (l0 : Option mx_V) (v0 : mx_V) (S h : mx_H) (n : Int), mx_ex d 62 23 [l0] [v0] S h n = mx_ex d 62 25 [l0] [(2, (-19)), v0] S h n) ∧
  (∀ (d : Nat) (x0 a : Int) (l0 : Option mx_V) (S h : mx_H) (n : Int), mx_ex (d + 1) 62 25 [l0] [(2, x0), (2, a)] S h n = mx_cl (S a (-2) = 10) d 69 [(2, a), (2, x0)] 62 28 [l0] [] S h n) ∧
  (∀ (d : Nat) (a : Int) (l0 : Option mx_V) (S h : mx_H) (n : Int), mx_ex d 62 28 [l0] [(0, a)] S h n = mx_br (a = 0) d 62 33 31 [l0] [] S h n) ∧
  (∀ (d : Nat) (l0 : Option mx_V) (S h : mx_H) (n : Int), mx_ex d 62 31 [l0] [] S h n = mx_ex d 62 32 [l0] [(0, 2)] S h n) ∧
  (∀ (d : Nat) (x : Int) (l0 : Option mx_V) (S h : mx_H) (n : Int), mx_ex d 62 32 [l0] [(0, x)] S h n = some (some (0, x), S, h, n)) ∧
  (∀ (d : Nat) (x : Int) (S h : mx_H) (n : Int), mx_ex d 62 33 [some (2, x)] [] S h n = mx_ex d 62 34 [some (2, x)] [(2, x)] S h n) ∧
  (∀ (d : Nat) (l0 : Option mx_V) (v0 : mx_V) (S h : mx_H) (n : Int), mx_ex d 62 34 [l0] [v0] S h n = mx_ex d 62 36 [l0] [(2, (-20)), v0] S h n) ∧
  (∀ (d : Nat) (x0 a : Int) (l0 : Option mx_V) (S h : mx_H) (n : Int), mx_ex (d + 1) 62 36 [l0] [(2, x0), (2, a)] S h n = mx_cl (S a (-2) = 10) d 69 [(2, a), (2, x0)] 62 39 [l0] [] S h n) ∧
  (∀ (d : Nat) (a : Int) (l0 : Option mx_V) (S h : mx_H) (n : Int), mx_ex d 62 39 [l0] [(0, a)] S h n = mx_br (a = 0) d 62 46 42 [l0] [] S h n) ∧
  (∀ (d : Nat) (l0 : Option mx_V) (S h : mx_H) (n : Int), mx_ex d 62 42 [l0] [] S h n = mx_ex d 62 43 [l0] [(0, 3)] S h n) ∧
  (∀ (d : Nat) (l0 : Option mx_V) (v0 : mx_V) (S h : mx_H) (n : Int), mx_ex d 62 43 [l0] [v0] S h n = mx_ex d 62 47 [l0] [v0] S h n) ∧
  (∀ (d : Nat) (l0 : Option mx_V) (S h : mx_H) (n : Int), mx_ex d 62 46 [l0] [] S h n = mx_ex d 62 47 [l0] [(0, (-1))] S h n) ∧
  (∀ (d : Nat) (x : Int) (l0 : Option mx_V) (S h : mx_H) (n : Int), mx_ex d 62 47 [l0] [(0, x)] S h n = some (some (0, x), S, h, n)) :=
  ⟨by intros; exact rfl,
   by intros; exact eq_ld rfl rfl,
   by intros; exact eq_push rfl,
   by intros; exact eq_cv rfl (Nat.le_of_ble_eq_true rfl) rfl rfl rfl (Nat.le_of_ble_eq_true rfl),
   by intros; exact eq_if0 rfl,
   by intros; exact eq_push rfl,
   by intros; exact eq_ret rfl,
   by intros; exact eq_ld rfl rfl,
   by intros; exact eq_push rfl,
   by intros; exact eq_cv rfl (Nat.le_of_ble_eq_true rfl) rfl rfl rfl (Nat.le_of_ble_eq_true rfl),
   by intros; exact eq_if0 rfl,
   by intros; exact eq_push rfl,
   by intros; exact eq_ret rfl,
   by intros; exact eq_ld rfl rfl,
   by intros; exact eq_push rfl,
   by intros; exact eq_cv rfl (Nat.le_of_ble_eq_true rfl) rfl rfl rfl (Nat.le_of_ble_eq_true rfl),
   by intros; exact eq_if0 rfl,
   by intros; exact eq_push rfl,
   by intros; exact eq_ret rfl,
   by intros; exact eq_ld rfl rfl,
   by intros; exact eq_push rfl,
   by intros; exact eq_cv rfl (Nat.le_of_ble_eq_true rfl) rfl rfl rfl (Nat.le_of_ble_eq_true rfl),
   by intros; exact eq_if0 rfl,
   by intros; exact eq_push rfl,
   by intros; exact eq_go rfl,
   by intros; exact eq_push rfl,
   by intros; exact eq_ret rfl⟩
theorem rw_X7_noteTold :
  (∀ (d : Nat) (a0 a1 : Int) (S h : mx_H) (n : Int), mx_M d 63 [(2, a0), (0, a1)] S h n = mx_ex d 63 0 [some (2, a0), some (0, a1), none, none, none, none] [] S h n) ∧
  (∀ (d : Nat) (x : Int) (l1 l2 l3 l4 l5 : Option mx_V) (S h : mx_H) (n : Int), mx_ex d 63 0 [some (2, x), l1, l2, l3, l4, l5] [] S h n = mx_ex d 63 1 [some (2, x), l1, l2, l3, l4, l5] [(2, x)] S h n) ∧
  (∀ (d : Nat) (a : Int) (l0 l1 l2 l3 l4 l5 : Option mx_V) (S h : mx_H) (n : Int), mx_ex d 63 1 [l0, l1, l2, l3, l4, l5] [(2, a)] S h n = mx_gd (10 ≤ S a (-2) ∧ S a (-2) ≤ 10) d 63 4 [l0, l1, l2, l3, l4, l5] [(2, S a 0)] S h n) ∧
  (∀ (d : Nat) (a : Int) (l0 l1 l2 l3 l4 l5 : Option mx_V) (S h : mx_H) (n : Int), mx_ex d 63 4 [l0, l1, l2, l3, l4, l5] [(2, a)] S h n = mx_gd (8 ≤ S a (-2) ∧ S a (-2) ≤ 8) d 63 7 [l0, l1, l2, l3, l4, l5] [(0, h a 3)] S h n) ∧
  (∀ (d : Nat) (l0 l1 l2 l3 l4 l5 : Option mx_V) (v0 : mx_V) (S h : mx_H) (n : Int), mx_ex d 63 7 [l0, l1, l2, l3, l4, l5] [v0] S h n = mx_ex d 63 9 [l0, l1, l2, l3, l4, l5] [(0, 6), v0] S h n) ∧
  (∀ (d : Nat) (b a : Int) (l0 l1 l2 l3 l4 l5 : Option mx_V) (S h : mx_H) (n : Int), mx_ex d 63 9 [l0, l1, l2, l3, l4, l5] [(0, b), (0, a)] S h n = mx_br (a < b) d 63 14 12 [l0, l1, l2, l3, l4, l5] [] S h n) ∧
  (∀ (d : Nat) (l0 l1 l2 l3 l4 l5 : Option mx_V) (S h : mx_H) (n : Int), mx_ex d 63 12 [l0, l1, l2, l3, l4, l5] [] S h n = mx_ex d 63 13 [l0, l1, l2, l3, l4, l5] [(0, 0)] S h n) ∧
  (∀ (d : Nat) (x : Int) (l0 l1 l2 l3 l4 l5 : Option mx_V) (S h : mx_H) (n : Int), mx_ex d 63 13 [l0, l1, l2, l3, l4, l5] [(0, x)] S h n = mx_re (0 ≤ x ∧ x ≤ 1) (some (0, x)) S h n) ∧
  (∀ (d : Nat) (x : Int) (l1 l2 l3 l4 l5 : Option mx_V) (S h : mx_H) (n : Int), mx_ex d 63 14 [some (2, x), l1, l2, l3, l4, l5] [] S h n = mx_ex d 63 15 [some (2, x), l1, l2, l3, l4, l5] [(2, x)] S h n) ∧
  (∀ (d : Nat) (a : Int) (l0 l1 l2 l3 l4 l5 : Option mx_V) (S h : mx_H) (n : Int), mx_ex (d + 1) 63 15 [l0, l1, l2, l3, l4, l5] [(2, a)] S h n = mx_cl (S a (-2) = 10) d 70 [(2, a)] 63 18 [l0, l1, l2, l3, l4, l5] [] S h n) ∧
  (∀ (d : Nat) (x : Int) (l1 l2 l3 l4 l5 : Option mx_V) (S h : mx_H) (n : Int), mx_ex d 63 18 [some (2, x), l1, l2, l3, l4, l5] [] S h n = mx_ex d 63 19 [some (2, x), l1, l2, l3, l4, l5] [(2, x)] S h n) ∧
  (∀ (d : Nat) (l0 l1 l2 l3 l4 l5 : Option mx_V) (v0 : mx_V) (S h : mx_H) (n : Int), mx_ex d 63 19 [l0, l1, l2, l3, l4, l5] [v0] S h n = mx_ex d 63 20 [l0, l1, l2, l3, l4, l5] [(0, 0), v0] S h n) ∧
  (∀ (d : Nat) (l0 l1 l2 l3 l4 l5 : Option mx_V) (v0 v1 : mx_V) (S h : mx_H) (n : Int), mx_ex d 63 20 [l0, l1, l2, l3, l4, l5] [v0, v1] S h n = mx_ex d 63 21 [l0, l1, l2, l3, l4, l5] [(0, 2), v0, v1] S h n) ∧
  (∀ (d : Nat) (x0 x1 a : Int) (l0 l1 l2 l3 l4 l5 : Option mx_V) (S h : mx_H) (n : Int), mx_ex (d + 1) 63 21 [l0, l1, l2, l3, l4, l5] [(0, x0), (0, x1), (2, a)] S h n = mx_cl (S a (-2) = 10) d 67 [(2, a), (0, x1), (0, x0)] 63 24 [l0, l1, l2, l3, l4, l5] [] S h n) ∧
  (∀ (d : Nat) (x : Int) (l0 l1 l2 l3 l4 l5 : Option mx_V) (S h : mx_H) (n : Int), mx_ex d 63 24 [l0, l1, l2, l3, l4, l5] [(0, x)] S h n = mx_ex d 63 25 [l0, mx_nl l1, some (0, x), l3, l4, l5] [] S h n) ∧
  (∀ (d : Nat) (x : Int) (l0 l1 l3 l4 l5 : Option mx_V) (S h : mx_H) (n : Int), mx_ex d 63 25 [l0, l1, some (0, x), l3, l4, l5] [] S h n = mx_ex d 63 26 [l0, l1, some (0, x), l3, l4, l5] [(0, x)] S h n) ∧
  (∀ (d : Nat) (a : Int) (l0 l1 l2 l3 l4 l5 : Option mx_V) (S h : mx_H) (n : Int), mx_ex d 63 26 [l0, l1, l2, l3, l4, l5] [(0, a)] S h n = mx_br (a < 0) d 63 29 31 [l0, l1, l2, l3, l4, l5] [] S h n) ∧
  (∀ (d : Nat) (l0 l1 l2 l3 l4 l5 : Option mx_V) (S h : mx_H) (n : Int), mx_ex d 63 29 [l0, l1, l2, l3, l4, l5] [] S h n = mx_ex d 63 30 [l0, l1, l2, l3, l4, l5] [(0, 0)] S h n) ∧
  (∀ (d : Nat) (x : Int) (l0 l1 l2 l3 l4 l5 : Option mx_V) (S h : mx_H) (n : Int), mx_ex d 63 30 [l0, l1, l2, l3, l4, l5] [(0, x)] S h n = mx_re (0 ≤ x ∧ x ≤ 1) (some (0, x)) S h n) ∧
  (∀ (d : Nat) (l0 l1 l2 l3 l4 l5 : Option mx_V) (S h : mx_H) (n : Int), mx_ex d 63 31 [l0, l1, l2, l3, l4, l5] [] S h n = mx_ex d 63 32 [l0, l1, l2, l3, l4, l5] [(0, 0)] S h n) ∧
  (∀ (d : Nat) (x : Int) (l0 l1 l2 l3 l4 l5 : Option mx_V) (S h : mx_H) (n : Int), mx_ex d 63 32 [l0, l1, l2, l3, l4, l5] [(0, x)] S h n = mx_ex d 63 33 [l0, l1, mx_nl l2, some (0, x), l4, l5] [] S h n) ∧
  (∀ (d : Nat) (x : Int) (l1 l2 l3 l4 l5 : Option mx_V) (S h : mx_H) (n : Int), mx_ex d 63 33 [some (2, x), l1, l2, l3, l4, l5] [] S h n = mx_ex d 63 34 [some (2, x), l1, l2, l3, l4, l5] [(2, x)] S h n) ∧
  (∀ (d : Nat) (l0 l1 l2 l3 l4 l5 : Option mx_V) (v0 : mx_V) (S h : mx_H) (n : Int), mx_ex d 63 34 [l0, l1, l2, l3, l4, l5] [v0] S h n = mx_ex d 63 36 [l0, l1, l2, l3, l4, l5] [(2, (-21)), v0] S h n) ∧
  (∀ (d : Nat) (x0 a : Int) (l0 l1 l2 l3 l4 l5 : Option mx_V) (S h : mx_H) (n : Int), mx_ex (d + 1) 63 36 [l0, l1, l2, l3, l4, l5] [(2, x0), (2, a)] S h n = mx_cl (S a (-2) = 10) d 69 [(2, a), (2, x0)] 63 39 [l0, l1, l2, l3, l4, l5] [] S h n) ∧
  (∀ (d : Nat) (a : Int) (l0 l1 l2 l3 l4 l5 : Option mx_V) (S h : mx_H) (n : Int), mx_ex d 63 39 [l0, l1, l2, l3, l4, l5] [(0, a)] S h n = mx_br (a = 0) d 63 54 42 [l0, l1, l2, l3, l4, l5] [] S h n) ∧
  (∀ (d : Nat) (x : Int) (l1 l2 l3 l4 l5 : Option mx_V) (S h : mx_H) (n : Int), mx_ex d 63 42 [some (2, x), l1, l2, l3, l4, l5] [] S h n = mx_ex d 63 43 [some (2, x), l1, l2, l3, l4, l5] [(2, x)] S h n) ∧
  (∀ (d : Nat) (a : Int) (l0 l1 l2 l3 l4 l5 : Option mx_V) (S h : mx_H) (n : Int), mx_ex (d + 1) 63 43 [l0, l1, l2, l3, l4, l5] [(2, a)] S h n = mx_cl (S a (-2) = 10) d 70 [(2, a)] 63 46 [l0, l1, l2, l3, l4, l5] [] S h n) ∧
  (∀ (d : Nat) (x : Int) (l1 l2 l3 l4 l5 : Option mx_V) (S h : mx_H) (n : Int), mx_ex d 63 46 [some (2, x), l1, l2, l3, l4, l5] [] S h n = mx_ex d 63 47 [some (2, x), l1, l2, l3, l4, l5] [(2, x)] S h n) ∧
  (∀ (d : Nat) (l0 l1 l2 l3 l4 l5 : Option mx_V) (v0 : mx_V) (S h : mx_H) (n : Int), mx_ex d 63 47 [l0, l1, l2, l3, l4, l5] [v0] S h n = mx_ex d 63 48 [l0, l1, l2, l3, l4, l5] [(0, 0), v0] S h n) ∧
  (∀ (d : Nat) (l0 l1 l2 l3 l4 l5 : Option mx_V) (v0 v1 : mx_V) (S h : mx_H) (n : Int), mx_ex d 63 48 [l0, l1, l2, l3, l4, l5] [v0, v1] S h n = mx_ex d 63 50 [l0, l1, l2, l3, l4, l5] [(0, 6), v0, v1] S h n) ∧
  (∀ (d : Nat) (x0 x1 a : Int) (l0 l1 l2 l3 l4 l5 : Option mx_V) (S h : mx_H) (n : Int), mx_ex (d + 1) 63 50 [l0, l1, l2, l3, l4, l5] [(0, x0), (0, x1), (2, a)] S h n = mx_cl (S a (-2) = 10) d 67 [(2, a), (0, x1), (0, x0)] 63 53 [l0, l1, l2, l3, l4, l5] [] S h n) ∧
  (∀ (d : Nat) (x : Int) (l0 l1 l2 l3 l4 l5 : Option mx_V) (S h : mx_H) (n : Int), mx_ex d 63 53 [l0, l1, l2, l3, l4, l5] [(0, x)] S h n = mx_ex d 63 54 [l0, l1, mx_nl l2, some (0, x), l4, l5] [] S h n) ∧
  (∀ (d : Nat) (x : Int) (l0 l1 l2 l4 l5 : Option mx_V) (S h : mx_H) (n : Int), mx_ex d 63 54 [l0, l1, l2, some (0, x), l4, l5] [] S h n = mx_ex d 63 55 [l0, l1, l2, some (0, x), l4, l5] [(0, x)] S h n) ∧
  (∀ (d : Nat) (a : Int) (l0 l1 l2 l3 l4 l5 : Option mx_V) (S h : mx_H) (n : Int), mx_ex d 63 55 [l0, l1, l2, l3, l4, l5] [(0, a)] S h n = mx_br (a < 0) d 63 67 58 [l0, l1, l2, l3, l4, l5] [] S h n) ∧
  (∀ (d : Nat) (x : Int) (l1 l2 l3 l4 l5 : Option mx_V) (S h : mx_H) (n : Int), mx_ex d 63 58 [some (2, x), l1, l2, l3, l4, l5] [] S h n = mx_ex d 63 59 [some (2, x), l1, l2, l3, l4, l5] [(2, x)] S h n) ∧
  (∀ (d : Nat) (l0 l1 l2 l3 l4 l5 : Option mx_V) (v0 : mx_V) (S h : mx_H) (n : Int), mx_ex d 63 59 [l0, l1, l2, l3, l4, l5] [v0] S h n = mx_ex d 63 61 [l0, l1, l2, l3, l4, l5] [(0, 58), v0] S h n) ∧
  (∀ (d : Nat) (x0 a : Int) (l0 l1 l2 l3 l4 l5 : Option mx_V) (S h : mx_H) (n : Int), mx_ex (d + 1) 63 61 [l0, l1, l2, l3, l4, l5] [(0, x0), (2, a)] S h n = mx_cl (S a (-2) = 10) d 68 [(2, a), (0, x0)] 63 64 [l0, l1, l2, l3, l4, l5] [] S h n) ∧
  (∀ (d : Nat) (a : Int) (l0 l1 l2 l3 l4 l5 : Option mx_V) (S h : mx_H) (n : Int), mx_ex d 63 64 [l0, l1, l2, l3, l4, l5] [(0, a)] S h n = mx_br (a = 0) d 63 67 69 [l0, l1, l2, l3, l4, l5] [] S h n) ∧
  (∀ (d : Nat) (l0 l1 l2 l3 l4 l5 : Option mx_V) (S h : mx_H) (n : Int), mx_ex d 63 67 [l0, l1, l2, l3, l4, l5] [] S h n = mx_ex d 63 68 [l0, l1, l2, l3, l4, l5] [(0, 0)] S h n) ∧
  (∀ (d : Nat) (x : Int) (l0 l1 l2 l3 l4 l5 : Option mx_V) (S h : mx_H) (n : Int), mx_ex d 63 68 [l0, l1, l2, l3, l4, l5] [(0, x)] S h n = mx_re (0 ≤ x ∧ x ≤ 1) (some (0, x)) S h n) ∧
  (∀ (d : Nat) (x : Int) (l1 l2 l3 l4 l5 : Option mx_V) (S h : mx_H) (n : Int), mx_ex d 63 69 [some (2, x), l1, l2, l3, l4, l5] [] S h n = mx_ex d 63 70 [some (2, x), l1, l2, l3, l4, l5] [(2, x)] S h n) ∧
  (∀ (d : Nat) (a : Int) (l0 l1 l2 l3 l4 l5 : Option mx_V) (S h : mx_H) (n : Int), mx_ex (d + 1) 63 70 [l0, l1, l2, l3, l4, l5] [(2, a)] S h n = mx_cl (S a (-2) = 10) d 64 [(2, a)] 63 73 [l0, l1, l2, l3, l4, l5] [] S h n) ∧
  (∀ (d : Nat) (x : Int) (l0 l1 l2 l3 l4 l5 : Option mx_V) (S h : mx_H) (n : Int), mx_ex d 63 73 [l0, l1, l2, l3, l4, l5] [(0, x)] S h n = mx_ex d 63 75 [l0, l1, l2, mx_nl l3, some (0, x), l5] [] S h n) ∧
  (∀ (d : Nat) (x : Int) (l0 l1 l2 l3 l5 : Option mx_V) (S h : mx_H) (n : Int), mx_ex d 63 75 [l0, l1, l2, l3, some (0, x), l5] [] S h n = mx_ex d 63 77 [l0, l1, l2, l3, some (0, x), l5] [(0, x)] S h n) ∧
  (∀ (d : Nat) (l0 l1 l2 l3 l4 l5 : Option mx_V) (v0 : mx_V) (S h : mx_H) (n : Int), mx_ex d 63 77 [l0, l1, l2, l3, l4, l5] [v0] S h n = mx_ex d 63 78 [l0, l1, l2, l3, l4, l5] [(0, 1), v0] S h n) ∧
  (∀ (d : Nat) (b a : Int) (l0 l1 l2 l3 l4 l5 : Option mx_V) (S h : mx_H) (n : Int), mx_ex d 63 78 [l0, l1, l2, l3, l4, l5] [(0, b), (0, a)] S h n = mx_br (a < b) d 63 90 81 [l0, l1, l2, l3, l4, l5] [] S h n) ∧
  (∀ (d : Nat) (x : Int) (l1 l2 l3 l4 l5 : Option mx_V) (S h : mx_H) (n : Int), mx_ex d 63 81 [some (2, x), l1, l2, l3, l4, l5] [] S h n = mx_ex d 63 82 [some (2, x), l1, l2, l3, l4, l5] [(2, x)] S h n) ∧
  (∀ (d : Nat) (l0 l1 l2 l3 l4 l5 : Option mx_V) (v0 : mx_V) (S h : mx_H) (n : Int), mx_ex d 63 82 [l0, l1, l2, l3, l4, l5] [v0] S h n = mx_ex d 63 84 [l0, l1, l2, l3, l4, l5] [(0, 59), v0] S h n) ∧
  (∀ (d : Nat) (x0 a : Int) (l0 l1 l2 l3 l4 l5 : Option mx_V) (S h : mx_H) (n : Int), mx_ex (d + 1) 63 84 [l0, l1, l2, l3, l4, l5] [(0, x0), (2, a)] S h n = mx_cl (S a (-2) = 10) d 68 [(2, a), (0, x0)] 63 87 [l0, l1, l2, l3, l4, l5] [] S h n) ∧
  (∀ (d : Nat) (a : Int) (l0 l1 l2 l3 l4 l5 : Option mx_V) (S h : mx_H) (n : Int), mx_ex d 63 87 [l0, l1, l2, l3, l4, l5] [(0, a)] S h n = mx_br (a = 0) d 63 90 92 [l0, l1, l2, l3, l4, l5] [] S h n) ∧
  (∀ (d : Nat) (l0 l1 l2 l3 l4 l5 : Option mx_V) (S h : mx_H) (n : Int), mx_ex d 63 90 [l0, l1, l2, l3, l4, l5] [] S h n = mx_ex d 63 91 [l0, l1, l2, l3, l4, l5] [(0, 0)] S h n) ∧
  (∀ (d : Nat) (x : Int) (l0 l1 l2 l3 l4 l5 : Option mx_V) (S h : mx_H) (n : Int), mx_ex d 63 91 [l0, l1, l2, l3, l4, l5] [(0, x)] S h n = mx_re (0 ≤ x ∧ x ≤ 1) (some (0, x)) S h n) ∧
  (∀ (d : Nat) (x : Int) (l0 l1 l2 l3 l5 : Option mx_V) (S h : mx_H) (n : Int), mx_ex d 63 92 [l0, l1, l2, l3, some (0, x), l5] [] S h n = mx_ex d 63 94 [l0, l1, l2, l3, some (0, x), l5] [(0, x)] S h n) ∧
  (∀ (d : Nat) (x : Int) (l0 l1 l2 l3 l4 l5 : Option mx_V) (S h : mx_H) (n : Int), mx_ex d 63 94 [l0, l1, l2, l3, l4, l5] [(0, x)] S h n = mx_gd (0 ≤ x ∧ x ≤ 300) d 63 96 [l0, l1, l2, l3, l4, l5] [(2, n)] (mx_t S n 20 x) (mx_z h n) (n + 1)) ∧
  (∀ (d : Nat) (x : Int) (l0 l1 l2 l3 l4 l5 : Option mx_V) (S h : mx_H) (n : Int), mx_ex d 63 96 [l0, l1, l2, l3, l4, l5] [(2, x)] S h n = mx_ex d 63 98 [l0, l1, l2, l3, mx_nl l4, some (2, x)] [] S h n) ∧
  (∀ (d : Nat) (x : Int) (l1 l2 l3 l4 l5 : Option mx_V) (S h : mx_H) (n : Int), mx_ex d 63 98 [some (2, x), l1, l2, l3, l4, l5] [] S h n = mx_ex d 63 99 [some (2, x), l1, l2, l3, l4, l5] [(2, x)] S h n) ∧
  (∀ (d : Nat) (a : Int) (l0 l1 l2 l3 l4 l5 : Option mx_V) (S h : mx_H) (n : Int), mx_ex d 63 99 [l0, l1, l2, l3, l4, l5] [(2, a)] S h n = mx_gd (10 ≤ S a (-2) ∧ S a (-2) ≤ 10) d 63 102 [l0, l1, l2, l3, l4, l5] [(2, S a 2)] S h n) ∧
  (∀ (d : Nat) (l0 l1 l2 l3 l4 l5 : Option mx_V) (v0 : mx_V) (S h : mx_H) (n : Int), mx_ex d 63 102 [l0, l1, l2, l3, l4, l5] [v0] S h n = mx_ex d 63 103 [l0, l1, l2, l3, l4, l5] [(0, 0), v0] S h n) ∧
  (∀ (d : Nat) (x : Int) (l0 l1 l2 l3 l4 : Option mx_V) (v0 v1 : mx_V) (S h : mx_H) (n : Int), mx_ex d 63 103 [l0, l1, l2, l3, l4, some (2, x)] [v0, v1] S h n = mx_ex d 63 105 [l0, l1, l2, l3, l4, some (2, x)] [(2, x), v0, v1] S h n) ∧
  (∀ (d : Nat) (l0 l1 l2 l3 l4 l5 : Option mx_V) (v0 v1 v2 : mx_V) (S h : mx_H) (n : Int), mx_ex d 63 105 [l0, l1, l2, l3, l4, l5] [v0, v1, v2] S h n = mx_ex d 63 106 [l0, l1, l2, l3, l4, l5] [(0, 0), v0, v1, v2] S h n) ∧
  (∀ (d : Nat) (x : Int) (l0 l1 l2 l3 l5 : Option mx_V) (v0 v1 v2 v3 : mx_V) (S h : mx_H) (n : Int), mx_ex d 63 106 [l0, l1, l2, l3, some (0, x), l5] [v0, v1, v2, v3] S h n = mx_ex d 63 108 [l0, l1, l2, l3, some (0, x), l5] [(0, x), v0, v1, v2, v3] S h n) ∧
  (∀ (d : Nat) (x j b i a : Int) (l0 l1 l2 l3 l4 l5 : Option mx_V) (S h : mx_H) (n : Int), mx_ex d 63 108 [l0, l1, l2, l3, l4, l5] [(0, x), (0, j), (2, b), (0, i), (2, a)] S h n = mx_gd (S a (-2) = 20 ∧ S b (-2) = 20 ∧ 0 ≤ x ∧ 0 ≤ i ∧ 0 ≤ j ∧ i + x ≤ S a (-1) ∧ j + x ≤ S b (-1)) d 63 111 [l0, l1, l2, l3, l4, l5] [] S (mx_y h a i b j x) n) ∧
  (∀ (d : Nat) (x : Int) (l1 l2 l3 l4 l5 : Option mx_V) (S h : mx_H) (n : Int), mx_ex d 63 111 [some (2, x), l1, l2, l3, l4, l5] [] S h n = mx_ex d 63 112 [some (2, x), l1, l2, l3, l4, l5] [(2, x)] S h n) ∧
  (∀ (d : Nat) (a : Int) (l0 l1 l2 l3 l4 l5 : Option mx_V) (S h : mx_H) (n : Int), mx_ex d 63 112 [l0, l1, l2, l3, l4, l5] [(2, a)] S h n = mx_gd (10 ≤ S a (-2) ∧ S a (-2) ≤ 10) d 63 115 [l0, l1, l2, l3, l4, l5] [(2, S a 0)] S h n) ∧
  (∀ (d : Nat) (x : Int) (l0 l2 l3 l4 l5 : Option mx_V) (v0 : mx_V) (S h : mx_H) (n : Int), mx_ex d 63 115 [l0, some (0, x), l2, l3, l4, l5] [v0] S h n = mx_ex d 63 116 [l0, some (0, x), l2, l3, l4, l5] [(0, x), v0] S h n) ∧
  (∀ (d : Nat) (x : Int) (l0 l1 l3 l4 l5 : Option mx_V) (v0 v1 : mx_V) (S h : mx_H) (n : Int), mx_ex d 63 116 [l0, l1, some (0, x), l3, l4, l5] [v0, v1] S h n = mx_ex d 63 117 [l0, l1, some (0, x), l3, l4, l5] [(0, x), v0, v1] S h n) ∧
  (∀ (d : Nat) (x : Int) (l0 l1 l2 l4 l5 : Option mx_V) (v0 v1 v2 : mx_V) (S h : mx_H) (n : Int), mx_ex d 63 117 [l0, l1, l2, some (0, x), l4, l5] [v0, v1, v2] S h n = mx_ex d 63 118 [l0, l1, l2, some (0, x), l4, l5] [(0, x), v0, v1, v2] S h n) ∧
  (∀ (d : Nat) (x : Int) (l0 l1 l2 l3 l4 : Option mx_V) (v0 v1 v2 v3 : mx_V) (S h : mx_H) (n : Int), mx_ex d 63 118 [l0, l1, l2, l3, l4, some (2, x)] [v0, v1, v2, v3] S h n = mx_ex d 63 120 [l0, l1, l2, l3, l4, some (2, x)] [(2, x), v0, v1, v2, v3] S h n) ∧
  (∀ (d : Nat) (x0 x1 x2 x3 a : Int) (l0 l1 l2 l3 l4 l5 : Option mx_V) (S h : mx_H) (n : Int), mx_ex (d + 1) 63 120 [l0, l1, l2, l3, l4, l5] [(2, x0), (0, x1), (0, x2), (0, x3), (2, a)] S h n = mx_cl (S a (-2) = 8) d 91 [(2, a), (0, x3), (0, x2), (0, x1), (2, x0)] 63 123 [l0, l1, l2, l3, l4, l5] [] S h n) ∧
  (∀ (d : Nat) (a : Int) (l0 l1 l2 l3 l4 l5 : Option mx_V) (S h : mx_H) (n : Int), mx_ex d 63 123 [l0, l1, l2, l3, l4, l5] [(0, a)] S h n = mx_ex d 63 124 [l0, l1, l2, l3, l4, l5] [] S h n) :=
  ⟨by intros; exact rfl,
   by intros; exact eq_ld rfl rfl,
   by intros; exact eq_gr rfl,
   by intros; exact eq_gi rfl,
   by intros; exact eq_push rfl,
   by intros; exact eq_ic2 rfl,
   by intros; exact eq_push rfl,
   by intros; exact eq_rr rfl,
   by intros; exact eq_ld rfl rfl,
   by intros; exact eq_cv rfl (Nat.le_of_ble_eq_true rfl) rfl rfl rfl (Nat.le_of_ble_eq_true rfl),
   by intros; exact eq_ld rfl rfl,
   by intros; exact eq_push rfl,
   by intros; exact eq_push rfl,
   by intros; exact eq_cv rfl (Nat.le_of_ble_eq_true rfl) rfl rfl rfl (Nat.le_of_ble_eq_true rfl),
   by intros; exact eq_st rfl (by decide) (Nat.le_of_ble_eq_true rfl) rfl,
   by intros; exact eq_ld rfl rfl,
   by intros; exact eq_if3 rfl,
   by intros; exact eq_push rfl,
   by intros; exact eq_rr rfl,
   by intros; exact eq_push rfl,
   by intros; exact eq_st rfl (by decide) (Nat.le_of_ble_eq_true rfl) rfl,
   by intros; exact eq_ld rfl rfl,
   by intros; exact eq_push rfl,
   by intros; exact eq_cv rfl (Nat.le_of_ble_eq_true rfl) rfl rfl rfl (Nat.le_of_ble_eq_true rfl),
   by intros; exact eq_if0 rfl,
   by intros; exact eq_ld rfl rfl,
   by intros; exact eq_cv rfl (Nat.le_of_ble_eq_true rfl) rfl rfl rfl (Nat.le_of_ble_eq_true rfl),
   by intros; exact eq_ld rfl rfl,
   by intros; exact eq_push rfl,
   by intros; exact eq_push rfl,
   by intros; exact eq_cv rfl (Nat.le_of_ble_eq_true rfl) rfl rfl rfl (Nat.le_of_ble_eq_true rfl),
   by intros; exact eq_st rfl (by decide) (Nat.le_of_ble_eq_true rfl) rfl,
   by intros; exact eq_ld rfl rfl,
   by intros; exact eq_if2 rfl,
   by intros; exact eq_ld rfl rfl,
   by intros; exact eq_push rfl,
   by intros; exact eq_cv rfl (Nat.le_of_ble_eq_true rfl) rfl rfl rfl (Nat.le_of_ble_eq_true rfl),
   by intros; exact eq_if1 rfl,
   by intros; exact eq_push rfl,
   by intros; exact eq_rr rfl,
   by intros; exact eq_ld rfl rfl,
   by intros; exact eq_cv rfl (Nat.le_of_ble_eq_true rfl) rfl rfl rfl (Nat.le_of_ble_eq_true rfl),
   by intros; exact eq_st rfl (by decide) (Nat.le_of_ble_eq_true rfl) rfl,
   by intros; exact eq_ld rfl rfl,
   by intros; exact eq_push rfl,
   by intros; exact eq_ic2 rfl,
   by intros; exact eq_ld rfl rfl,
   by intros; exact eq_push rfl,
   by intros; exact eq_cv rfl (Nat.le_of_ble_eq_true rfl) rfl rfl rfl (Nat.le_of_ble_eq_true rfl),
   by intros; exact eq_if1 rfl,
   by intros; exact eq_push rfl,
   by intros; exact eq_rr rfl,
   by intros; exact eq_ld rfl rfl,
   by intros; exact eq_newa rfl,
   by intros; exact eq_st rfl (by decide) (Nat.le_of_ble_eq_true rfl) rfl,
   by intros; exact eq_ld rfl rfl,
   by intros; exact eq_gr rfl,
   by intros; exact eq_push rfl,
   by intros; exact eq_ld rfl rfl,
   by intros; exact eq_push rfl,
   by intros; exact eq_ld rfl rfl,
   by intros; exact eq_copy rfl (Nat.le_of_ble_eq_true rfl),
   by intros; exact eq_ld rfl rfl,
   by intros; exact eq_gr rfl,
   by intros; exact eq_ld rfl rfl,
   by intros; exact eq_ld rfl rfl,
   by intros; exact eq_ld rfl rfl,
   by intros; exact eq_ld rfl rfl,
   by intros; exact eq_cv rfl (Nat.le_of_ble_eq_true rfl) rfl rfl rfl (Nat.le_of_ble_eq_true rfl),
   by intros; exact eq_pop rfl (by decide)⟩
theorem rw_X7_noteTold_1 :
  (∀ (d : Nat) (l0 l1 l2 l3 l4 l5 : Option mx_V) (S h : mx_H) (n : Int), mx_ex d 63 124 [l0, l1, l2, l3, l4, l5] [] S h n = mx_ex d 63 125 [l0, l1, l2, l3, l4, l5] [(0, 1)] S h n) ∧
  (∀ (d : Nat) (x : Int) (l0 l1 l2 l3 l4 l5 : Option mx_V) (S h : mx_H) (n : Int), mx_ex d 63 125 [l0, l1, l2, l3, l4, l5] [(0, x)] S h n = mx_re (0 ≤ x ∧ x ≤ 1) (some (0, x)) S h n) :=
  ⟨by intros; exact eq_push rfl,
   by intros; exact eq_rr rfl⟩
theorem rh_X7_marksTold_2 : ∀ (d : Nat) (x : Int) (l0 : Option mx_V) (S h : mx_H) (n : Int), mx_ex d 64 2 [l0, some (0, x)] [] S h n = mx_ex d 64 3 [l0, some (0, x)] [(0, x)] S h n := by intros; exact eq_ld rfl rfl
theorem rw_X7_marksTold :
  (∀ (d : Nat) (a0 : Int) (S h : mx_H) (n : Int), mx_M d 64 [(2, a0)] S h n = mx_ex d 64 0 [some (2, a0), none] [] S h n) ∧
  (∀ (d : Nat) (l0 l1 : Option mx_V) (S h : mx_H) (n : Int), mx_ex d 64 0 [l0, l1] [] S h n = mx_ex d 64 1 [l0, l1] [(0, 0)] S h n) ∧
  (∀ (d : Nat) (x : Int) (l0 l1 : Option mx_V) (S h : mx_H) (n : Int), mx_ex d 64 1 [l0, l1] [(0, x)] S h n = mx_ex d 64 2 [mx_nl l0, some (0, x)] [] S h n) ∧
  (∀ (d : Nat) (l0 l1 : Option mx_V) (v0 : mx_V) (S h : mx_H) (n : Int), mx_ex d 64 3 [l0, l1] [v0] S h n = mx_ex d 64 5 [l0, l1] [(0, 6), v0] S h n) ∧
  (∀ (d : Nat) (b a : Int) (l0 l1 : Option mx_V) (S h : mx_H) (n : Int), mx_ex d 64 5 [l0, l1] [(0, b), (0, a)] S h n = mx_br (a < b) d 64 8 51 [l0, l1] [] S h n) ∧
  (∀ (d : Nat) (x : Int) (l1 : Option mx_V) (S h : mx_H) (n : Int), mx_ex d 64 8 [some (2, x), l1] [] S h n = mx_ex d 64 9 [some (2, x), l1] [(2, x)] S h n) ∧
  (∀ (d : Nat) (a : Int) (l0 l1 : Option mx_V) (S h : mx_H) (n : Int), mx_ex d 64 9 [l0, l1] [(2, a)] S h n = mx_gd (10 ≤ S a (-2) ∧ S a (-2) ≤ 10) d 64 12 [l0, l1] [(2, S a 2)] S h n) ∧
  (∀ (d : Nat) (x : Int) (l0 : Option mx_V) (v0 : mx_V) (S h : mx_H) (n : Int), mx_ex d 64 12 [l0, some (0, x)] [v0] S h n = mx_ex d 64 13 [l0, some (0, x)] [(0, x), v0] S h n) ∧
  (∀ (d : Nat) (x : Int) (l1 : Option mx_V) (v0 v1 : mx_V) (S h : mx_H) (n : Int), mx_ex d 64 13 [some (2, x), l1] [v0, v1] S h n = mx_ex d 64 14 [some (2, x), l1] [(2, x), v0, v1] S h n) ∧
  (∀ (d : Nat) (l0 l1 : Option mx_V) (v0 v1 v2 : mx_V) (S h : mx_H) (n : Int), mx_ex d 64 14 [l0, l1] [v0, v1, v2] S h n = mx_ex d 64 15 [l0, l1] [(0, 0), v0, v1, v2] S h n) ∧
  (∀ (d : Nat) (l0 l1 : Option mx_V) (v0 v1 v2 v3 : mx_V) (S h : mx_H) (n : Int), mx_ex d 64 15 [l0, l1] [v0, v1, v2, v3] S h n = mx_ex d 64 17 [l0, l1] [(0, 15), v0, v1, v2, v3] S h n) ∧
  (∀ (d : Nat) (x0 x1 a : Int) (l0 l1 : Option mx_V) (v3 v4 : mx_V) (S h : mx_H) (n : Int), mx_ex (d + 1) 64 17 [l0, l1] [(0, x0), (0, x1), (2, a), v3, v4] S h n = mx_cl (S a (-2) = 10) d 67 [(2, a), (0, x1), (0, x0)] 64 20 [l0, l1] [v3, v4] S h n) ∧
  (∀ (d : Nat) (v i a : Int) (l0 l1 : Option mx_V) (S h : mx_H) (n : Int), mx_ex d 64 20 [l0, l1] [(0, v), (0, i), (2, a)] S h n = mx_gd (S a (-2) = 20 ∧ 0 ≤ i ∧ i < S a (-1)) d 64 21 [l0, l1] [] S (mx_u h a i v) n) ∧
  (∀ (d : Nat) (x : Int) (l1 : Option mx_V) (S h : mx_H) (n : Int), mx_ex d 64 21 [some (2, x), l1] [] S h n = mx_ex d 64 22 [some (2, x), l1] [(2, x)] S h n) ∧
  (∀ (d : Nat) (a : Int) (l0 l1 : Option mx_V) (S h : mx_H) (n : Int), mx_ex d 64 22 [l0, l1] [(2, a)] S h n = mx_gd (10 ≤ S a (-2) ∧ S a (-2) ≤ 10) d 64 25 [l0, l1] [(2, S a 2)] S h n) ∧
  (∀ (d : Nat) (x : Int) (l0 : Option mx_V) (v0 : mx_V) (S h : mx_H) (n : Int), mx_ex d 64 25 [l0, some (0, x)] [v0] S h n = mx_ex d 64 26 [l0, some (0, x)] [(0, x), v0] S h n) ∧
  (∀ (d : Nat) (i a : Int) (l0 l1 : Option mx_V) (S h : mx_H) (n : Int), mx_ex d 64 26 [l0, l1] [(0, i), (2, a)] S h n = mx_gd ((S a (-2) = 20 ∨ S a (-2) = 24) ∧ 0 ≤ i ∧ i < S a (-1)) d 64 27 [l0, l1] [(0, h a i)] S h n) ∧
  (∀ (d : Nat) (a : Int) (l0 l1 : Option mx_V) (S h : mx_H) (n : Int), mx_ex d 64 27 [l0, l1] [(0, a)] S h n = mx_br (a < 0) d 64 30 32 [l0, l1] [] S h n) ∧
  (∀ (d : Nat) (l0 l1 : Option mx_V) (S h : mx_H) (n : Int), mx_ex d 64 30 [l0, l1] [] S h n = mx_ex d 64 31 [l0, l1] [(0, 0)] S h n) ∧
  (∀ (d : Nat) (x : Int) (l0 l1 : Option mx_V) (S h : mx_H) (n : Int), mx_ex d 64 31 [l0, l1] [(0, x)] S h n = some (some (0, x), S, h, n)) ∧
  (∀ (d : Nat) (x : Int) (l1 : Option mx_V) (S h : mx_H) (n : Int), mx_ex d 64 32 [some (2, x), l1] [] S h n = mx_ex d 64 33 [some (2, x), l1] [(2, x)] S h n) ∧
  (∀ (d : Nat) (l0 l1 : Option mx_V) (v0 : mx_V) (S h : mx_H) (n : Int), mx_ex d 64 33 [l0, l1] [v0] S h n = mx_ex d 64 35 [l0, l1] [(0, 44), v0] S h n) ∧
  (∀ (d : Nat) (x0 a : Int) (l0 l1 : Option mx_V) (S h : mx_H) (n : Int), mx_ex (d + 1) 64 35 [l0, l1] [(0, x0), (2, a)] S h n = mx_cl (S a (-2) = 10) d 68 [(2, a), (0, x0)] 64 38 [l0, l1] [] S h n) ∧
  (∀ (d : Nat) (a : Int) (l0 l1 : Option mx_V) (S h : mx_H) (n : Int), mx_ex d 64 38 [l0, l1] [(0, a)] S h n = mx_br (a = 0) d 64 41 45 [l0, l1] [] S h n) ∧
  (∀ (d : Nat) (x : Int) (l0 : Option mx_V) (S h : mx_H) (n : Int), mx_ex d 64 41 [l0, some (0, x)] [] S h n = mx_ex d 64 42 [l0, some (0, x)] [(0, x)] S h n) ∧
  (∀ (d : Nat) (l0 l1 : Option mx_V) (v0 : mx_V) (S h : mx_H) (n : Int), mx_ex d 64 42 [l0, l1] [v0] S h n = mx_ex d 64 43 [l0, l1] [(0, 1), v0] S h n) ∧
  (∀ (d : Nat) (b a : Int) (l0 l1 : Option mx_V) (S h : mx_H) (n : Int), mx_ex d 64 43 [l0, l1] [(0, b), (0, a)] S h n = mx_ex d 64 44 [l0, l1] [(0, mx_w (a + b))] S h n) ∧
  (∀ (d : Nat) (x : Int) (l0 l1 : Option mx_V) (S h : mx_H) (n : Int), mx_ex d 64 44 [l0, l1] [(0, x)] S h n = some (some (0, x), S, h, n)) ∧
  (∀ (d : Nat) (x : Int) (l0 : Option mx_V) (S h : mx_H) (n : Int), mx_ex d 64 45 [l0, some (0, x)] [] S h n = mx_ex d 64 48 [mx_nl l0, some (0, mx_w (x + 1))] [] S h n) ∧
  (∀ (d : Nat) (l0 l1 : Option mx_V) (S h : mx_H) (n : Int), mx_ex d 64 48 [l0, l1] [] S h n = mx_ex d 64 2 [l0, l1] [] S h n) ∧
  (∀ (d : Nat) (l0 l1 : Option mx_V) (S h : mx_H) (n : Int), mx_ex d 64 51 [l0, l1] [] S h n = mx_ex d 64 52 [l0, l1] [(0, 0)] S h n) ∧
  (∀ (d : Nat) (x : Int) (l0 l1 : Option mx_V) (S h : mx_H) (n : Int), mx_ex d 64 52 [l0, l1] [(0, x)] S h n = some (some (0, x), S, h, n)) :=
  ⟨by intros; exact rfl,
   by intros; exact eq_push rfl,
   by intros; exact eq_st rfl (by decide) (Nat.le_of_ble_eq_true rfl) rfl,
   by intros; exact eq_push rfl,
   by intros; exact eq_ic3 rfl,
   by intros; exact eq_ld rfl rfl,
   by intros; exact eq_gr rfl,
   by intros; exact eq_ld rfl rfl,
   by intros; exact eq_ld rfl rfl,
   by intros; exact eq_push rfl,
   by intros; exact eq_push rfl,
   by intros; exact eq_cv rfl (Nat.le_of_ble_eq_true rfl) rfl rfl rfl (Nat.le_of_ble_eq_true rfl),
   by intros; exact eq_iast rfl,
   by intros; exact eq_ld rfl rfl,
   by intros; exact eq_gr rfl,
   by intros; exact eq_ld rfl rfl,
   by intros; exact eq_iald rfl,
   by intros; exact eq_if3 rfl,
   by intros; exact eq_push rfl,
   by intros; exact eq_ret rfl,
   by intros; exact eq_ld rfl rfl,
   by intros; exact eq_push rfl,
   by intros; exact eq_cv rfl (Nat.le_of_ble_eq_true rfl) rfl rfl rfl (Nat.le_of_ble_eq_true rfl),
   by intros; exact eq_if1 rfl,
   by intros; exact eq_ld rfl rfl,
   by intros; exact eq_push rfl,
   by intros; exact eq_i2 (o := mx_add) rfl,
   by intros; exact eq_ret rfl,
   by intros; exact eq_inc rfl rfl rfl,
   by intros; exact eq_go rfl,
   by intros; exact eq_push rfl,
   by intros; exact eq_ret rfl⟩
theorem rw_X7_eveningTold :
  (∀ (d : Nat) (a0 : Int) (S h : mx_H) (n : Int), mx_M d 65 [(2, a0)] S h n = mx_ex d 65 0 [some (2, a0), none, none, none] [] S h n) ∧
  (∀ (d : Nat) (x : Int) (l1 l2 l3 : Option mx_V) (S h : mx_H) (n : Int), mx_ex d 65 0 [some (2, x), l1, l2, l3] [] S h n = mx_ex d 65 1 [some (2, x), l1, l2, l3] [(2, x)] S h n) ∧
  (∀ (d : Nat) (a : Int) (l0 l1 l2 l3 : Option mx_V) (S h : mx_H) (n : Int), mx_ex (d + 1) 65 1 [l0, l1, l2, l3] [(2, a)] S h n = mx_cl (S a (-2) = 10) d 70 [(2, a)] 65 4 [l0, l1, l2, l3] [] S h n) ∧
  (∀ (d : Nat) (x : Int) (l1 l2 l3 : Option mx_V) (S h : mx_H) (n : Int), mx_ex d 65 4 [some (2, x), l1, l2, l3] [] S h n = mx_ex d 65 5 [some (2, x), l1, l2, l3] [(2, x)] S h n) ∧
  (∀ (d : Nat) (l0 l1 l2 l3 : Option mx_V) (v0 : mx_V) (S h : mx_H) (n : Int), mx_ex d 65 5 [l0, l1, l2, l3] [v0] S h n = mx_ex d 65 6 [l0, l1, l2, l3] [(0, 0), v0] S h n) ∧
  (∀ (d : Nat) (l0 l1 l2 l3 : Option mx_V) (v0 v1 : mx_V) (S h : mx_H) (n : Int), mx_ex d 65 6 [l0, l1, l2, l3] [v0, v1] S h n = mx_ex d 65 7 [l0, l1, l2, l3] [(0, 2), v0, v1] S h n) ∧
  (∀ (d : Nat) (x0 x1 a : Int) (l0 l1 l2 l3 : Option mx_V) (S h : mx_H) (n : Int), mx_ex (d + 1) 65 7 [l0, l1, l2, l3] [(0, x0), (0, x1), (2, a)] S h n = mx_cl (S a (-2) = 10) d 67 [(2, a), (0, x1), (0, x0)] 65 10 [l0, l1, l2, l3] [] S h n) ∧
  (∀ (d : Nat) (x : Int) (l0 l1 l2 l3 : Option mx_V) (S h : mx_H) (n : Int), mx_ex d 65 10 [l0, l1, l2, l3] [(0, x)] S h n = mx_ex d 65 11 [mx_nl l0, some (0, x), l2, l3] [] S h n) ∧
  (∀ (d : Nat) (x : Int) (l0 l2 l3 : Option mx_V) (S h : mx_H) (n : Int), mx_ex d 65 11 [l0, some (0, x), l2, l3] [] S h n = mx_ex d 65 12 [l0, some (0, x), l2, l3] [(0, x)] S h n) ∧
  (∀ (d : Nat) (a : Int) (l0 l1 l2 l3 : Option mx_V) (S h : mx_H) (n : Int), mx_ex d 65 12 [l0, l1, l2, l3] [(0, a)] S h n = mx_br (a < 0) d 65 15 17 [l0, l1, l2, l3] [] S h n) ∧
  (∀ (d : Nat) (l0 l1 l2 l3 : Option mx_V) (S h : mx_H) (n : Int), mx_ex d 65 15 [l0, l1, l2, l3] [] S h n = mx_ex d 65 16 [l0, l1, l2, l3] [(0, 0)] S h n) ∧
  (∀ (d : Nat) (x : Int) (l0 l1 l2 l3 : Option mx_V) (S h : mx_H) (n : Int), mx_ex d 65 16 [l0, l1, l2, l3] [(0, x)] S h n = mx_re (0 ≤ x ∧ x ≤ 1) (some (0, x)) S h n) ∧
  (∀ (d : Nat) (x : Int) (l1 l2 l3 : Option mx_V) (S h : mx_H) (n : Int), mx_ex d 65 17 [some (2, x), l1, l2, l3] [] S h n = mx_ex d 65 18 [some (2, x), l1, l2, l3] [(2, x)] S h n) ∧
  (∀ (d : Nat) (l0 l1 l2 l3 : Option mx_V) (v0 : mx_V) (S h : mx_H) (n : Int), mx_ex d 65 18 [l0, l1, l2, l3] [v0] S h n = mx_ex d 65 19 [l0, l1, l2, l3] [(0, 2), v0] S h n) ∧
  (∀ (d : Nat) (l0 l1 l2 l3 : Option mx_V) (v0 v1 : mx_V) (S h : mx_H) (n : Int), mx_ex d 65 19 [l0, l1, l2, l3] [v0, v1] S h n = mx_ex d 65 21 [l0, l1, l2, l3] [(0, 16), v0, v1] S h n) ∧
  (∀ (d : Nat) (x0 x1 a : Int) (l0 l1 l2 l3 : Option mx_V) (S h : mx_H) (n : Int), mx_ex (d + 1) 65 21 [l0, l1, l2, l3] [(0, x0), (0, x1), (2, a)] S h n = mx_cl (S a (-2) = 10) d 67 [(2, a), (0, x1), (0, x0)] 65 24 [l0, l1, l2, l3] [] S h n) ∧
  (∀ (d : Nat) (x : Int) (l0 l1 l2 l3 : Option mx_V) (S h : mx_H) (n : Int), mx_ex d 65 24 [l0, l1, l2, l3] [(0, x)] S h n = mx_ex d 65 25 [l0, mx_nl l1, some (0, x), l3] [] S h n) ∧
  (∀ (d : Nat) (x : Int) (l0 l1 l3 : Option mx_V) (S h : mx_H) (n : Int), mx_ex d 65 25 [l0, l1, some (0, x), l3] [] S h n = mx_ex d 65 26 [l0, l1, some (0, x), l3] [(0, x)] S h n) ∧
  (∀ (d : Nat) (a : Int) (l0 l1 l2 l3 : Option mx_V) (S h : mx_H) (n : Int), mx_ex d 65 26 [l0, l1, l2, l3] [(0, a)] S h n = mx_br (a < 0) d 65 29 31 [l0, l1, l2, l3] [] S h n) ∧
  (∀ (d : Nat) (l0 l1 l2 l3 : Option mx_V) (S h : mx_H) (n : Int), mx_ex d 65 29 [l0, l1, l2, l3] [] S h n = mx_ex d 65 30 [l0, l1, l2, l3] [(0, 0)] S h n) ∧
  (∀ (d : Nat) (x : Int) (l0 l1 l2 l3 : Option mx_V) (S h : mx_H) (n : Int), mx_ex d 65 30 [l0, l1, l2, l3] [(0, x)] S h n = mx_re (0 ≤ x ∧ x ≤ 1) (some (0, x)) S h n) ∧
  (∀ (d : Nat) (x : Int) (l1 l2 l3 : Option mx_V) (S h : mx_H) (n : Int), mx_ex d 65 31 [some (2, x), l1, l2, l3] [] S h n = mx_ex d 65 32 [some (2, x), l1, l2, l3] [(2, x)] S h n) ∧
  (∀ (d : Nat) (x : Int) (l0 l1 l3 : Option mx_V) (v0 : mx_V) (S h : mx_H) (n : Int), mx_ex d 65 32 [l0, l1, some (0, x), l3] [v0] S h n = mx_ex d 65 33 [l0, l1, some (0, x), l3] [(0, x), v0] S h n) ∧
  (∀ (d : Nat) (l0 l1 l2 l3 : Option mx_V) (v0 v1 : mx_V) (S h : mx_H) (n : Int), mx_ex d 65 33 [l0, l1, l2, l3] [v0, v1] S h n = mx_ex d 65 35 [l0, l1, l2, l3] [(0, 16), v0, v1] S h n) ∧
  (∀ (d : Nat) (x0 x1 a : Int) (l0 l1 l2 l3 : Option mx_V) (S h : mx_H) (n : Int), mx_ex (d + 1) 65 35 [l0, l1, l2, l3] [(0, x0), (0, x1), (2, a)] S h n = mx_cl (S a (-2) = 10) d 67 [(2, a), (0, x1), (0, x0)] 65 38 [l0, l1, l2, l3] [] S h n) ∧
  (∀ (d : Nat) (x : Int) (l0 l1 l2 l3 : Option mx_V) (S h : mx_H) (n : Int), mx_ex d 65 38 [l0, l1, l2, l3] [(0, x)] S h n = mx_ex d 65 39 [l0, l1, mx_nl l2, some (0, x)] [] S h n) ∧
  (∀ (d : Nat) (x : Int) (l0 l1 l2 : Option mx_V) (S h : mx_H) (n : Int), mx_ex d 65 39 [l0, l1, l2, some (0, x)] [] S h n = mx_ex d 65 40 [l0, l1, l2, some (0, x)] [(0, x)] S h n) ∧
  (∀ (d : Nat) (a : Int) (l0 l1 l2 l3 : Option mx_V) (S h : mx_H) (n : Int), mx_ex d 65 40 [l0, l1, l2, l3] [(0, a)] S h n = mx_br (a < 0) d 65 52 43 [l0, l1, l2, l3] [] S h n) ∧
  (∀ (d : Nat) (x : Int) (l1 l2 l3 : Option mx_V) (S h : mx_H) (n : Int), mx_ex d 65 43 [some (2, x), l1, l2, l3] [] S h n = mx_ex d 65 44 [some (2, x), l1, l2, l3] [(2, x)] S h n) ∧
  (∀ (d : Nat) (l0 l1 l2 l3 : Option mx_V) (v0 : mx_V) (S h : mx_H) (n : Int), mx_ex d 65 44 [l0, l1, l2, l3] [v0] S h n = mx_ex d 65 46 [l0, l1, l2, l3] [(0, 59), v0] S h n) ∧
  (∀ (d : Nat) (x0 a : Int) (l0 l1 l2 l3 : Option mx_V) (S h : mx_H) (n : Int), mx_ex (d + 1) 65 46 [l0, l1, l2, l3] [(0, x0), (2, a)] S h n = mx_cl (S a (-2) = 10) d 68 [(2, a), (0, x0)] 65 49 [l0, l1, l2, l3] [] S h n) ∧
  (∀ (d : Nat) (a : Int) (l0 l1 l2 l3 : Option mx_V) (S h : mx_H) (n : Int), mx_ex d 65 49 [l0, l1, l2, l3] [(0, a)] S h n = mx_br (a = 0) d 65 52 54 [l0, l1, l2, l3] [] S h n) ∧
  (∀ (d : Nat) (l0 l1 l2 l3 : Option mx_V) (S h : mx_H) (n : Int), mx_ex d 65 52 [l0, l1, l2, l3] [] S h n = mx_ex d 65 53 [l0, l1, l2, l3] [(0, 0)] S h n) ∧
  (∀ (d : Nat) (x : Int) (l0 l1 l2 l3 : Option mx_V) (S h : mx_H) (n : Int), mx_ex d 65 53 [l0, l1, l2, l3] [(0, x)] S h n = mx_re (0 ≤ x ∧ x ≤ 1) (some (0, x)) S h n) ∧
  (∀ (d : Nat) (x : Int) (l1 l2 l3 : Option mx_V) (S h : mx_H) (n : Int), mx_ex d 65 54 [some (2, x), l1, l2, l3] [] S h n = mx_ex d 65 55 [some (2, x), l1, l2, l3] [(2, x)] S h n) ∧
  (∀ (d : Nat) (a : Int) (l0 l1 l2 l3 : Option mx_V) (S h : mx_H) (n : Int), mx_ex d 65 55 [l0, l1, l2, l3] [(2, a)] S h n = mx_gd (10 ≤ S a (-2) ∧ S a (-2) ≤ 10) d 65 58 [l0, l1, l2, l3] [(2, S a 0)] S h n) ∧
  (∀ (d : Nat) (x : Int) (l0 l2 l3 : Option mx_V) (v0 : mx_V) (S h : mx_H) (n : Int), mx_ex d 65 58 [l0, some (0, x), l2, l3] [v0] S h n = mx_ex d 65 59 [l0, some (0, x), l2, l3] [(0, x), v0] S h n) ∧
  (∀ (d : Nat) (x : Int) (l0 l1 l3 : Option mx_V) (v0 v1 : mx_V) (S h : mx_H) (n : Int), mx_ex d 65 59 [l0, l1, some (0, x), l3] [v0, v1] S h n = mx_ex d 65 60 [l0, l1, some (0, x), l3] [(0, x), v0, v1] S h n) ∧
  (∀ (d : Nat) (x : Int) (l0 l1 l2 : Option mx_V) (v0 v1 v2 : mx_V) (S h : mx_H) (n : Int), mx_ex d 65 60 [l0, l1, l2, some (0, x)] [v0, v1, v2] S h n = mx_ex d 65 61 [l0, l1, l2, some (0, x)] [(0, x), v0, v1, v2] S h n) ∧
  (∀ (d : Nat) (x0 x1 x2 a : Int) (l0 l1 l2 l3 : Option mx_V) (S h : mx_H) (n : Int), mx_ex (d + 1) 65 61 [l0, l1, l2, l3] [(0, x0), (0, x1), (0, x2), (2, a)] S h n = mx_cl (S a (-2) = 8) d 87 [(2, a), (0, x2), (0, x1), (0, x0)] 65 64 [l0, l1, l2, l3] [] S h n) ∧
  (∀ (d : Nat) (l0 l1 l2 l3 : Option mx_V) (S h : mx_H) (n : Int), mx_ex d 65 64 [l0, l1, l2, l3] [] S h n = mx_ex d 65 65 [l0, l1, l2, l3] [(0, 1)] S h n) ∧
  (∀ (d : Nat) (x : Int) (l0 l1 l2 l3 : Option mx_V) (S h : mx_H) (n : Int), mx_ex d 65 65 [l0, l1, l2, l3] [(0, x)] S h n = mx_re (0 ≤ x ∧ x ≤ 1) (some (0, x)) S h n) :=
  ⟨by intros; exact rfl,
   by intros; exact eq_ld rfl rfl,
   by intros; exact eq_cv rfl (Nat.le_of_ble_eq_true rfl) rfl rfl rfl (Nat.le_of_ble_eq_true rfl),
   by intros; exact eq_ld rfl rfl,
   by intros; exact eq_push rfl,
   by intros; exact eq_push rfl,
   by intros; exact eq_cv rfl (Nat.le_of_ble_eq_true rfl) rfl rfl rfl (Nat.le_of_ble_eq_true rfl),
   by intros; exact eq_st rfl (by decide) (Nat.le_of_ble_eq_true rfl) rfl,
   by intros; exact eq_ld rfl rfl,
   by intros; exact eq_if3 rfl,
   by intros; exact eq_push rfl,
   by intros; exact eq_rr rfl,
   by intros; exact eq_ld rfl rfl,
   by intros; exact eq_push rfl,
   by intros; exact eq_push rfl,
   by intros; exact eq_cv rfl (Nat.le_of_ble_eq_true rfl) rfl rfl rfl (Nat.le_of_ble_eq_true rfl),
   by intros; exact eq_st rfl (by decide) (Nat.le_of_ble_eq_true rfl) rfl,
   by intros; exact eq_ld rfl rfl,
   by intros; exact eq_if3 rfl,
   by intros; exact eq_push rfl,
   by intros; exact eq_rr rfl,
   by intros; exact eq_ld rfl rfl,
   by intros; exact eq_ld rfl rfl,
   by intros; exact eq_push rfl,
   by intros; exact eq_cv rfl (Nat.le_of_ble_eq_true rfl) rfl rfl rfl (Nat.le_of_ble_eq_true rfl),
   by intros; exact eq_st rfl (by decide) (Nat.le_of_ble_eq_true rfl) rfl,
   by intros; exact eq_ld rfl rfl,
   by intros; exact eq_if2 rfl,
   by intros; exact eq_ld rfl rfl,
   by intros; exact eq_push rfl,
   by intros; exact eq_cv rfl (Nat.le_of_ble_eq_true rfl) rfl rfl rfl (Nat.le_of_ble_eq_true rfl),
   by intros; exact eq_if1 rfl,
   by intros; exact eq_push rfl,
   by intros; exact eq_rr rfl,
   by intros; exact eq_ld rfl rfl,
   by intros; exact eq_gr rfl,
   by intros; exact eq_ld rfl rfl,
   by intros; exact eq_ld rfl rfl,
   by intros; exact eq_ld rfl rfl,
   by intros; exact eq_cv rfl (Nat.le_of_ble_eq_true rfl) rfl rfl rfl (Nat.le_of_ble_eq_true rfl),
   by intros; exact eq_push rfl,
   by intros; exact eq_rr rfl⟩
theorem rw_X7_lineTold :
  (∀ (d : Nat) (a0 a1 : Int) (S h : mx_H) (n : Int), mx_M d 66 [(2, a0), (0, a1)] S h n = mx_ex d 66 0 [some (2, a0), some (0, a1), none, none, none, none] [] S h n) ∧
  (∀ (d : Nat) (x : Int) (l1 l2 l3 l4 l5 : Option mx_V) (S h : mx_H) (n : Int), mx_ex d 66 0 [some (2, x), l1, l2, l3, l4, l5] [] S h n = mx_ex d 66 1 [some (2, x), l1, l2, l3, l4, l5] [(2, x)] S h n) ∧
  (∀ (d : Nat) (a : Int) (l0 l1 l2 l3 l4 l5 : Option mx_V) (S h : mx_H) (n : Int), mx_ex d 66 1 [l0, l1, l2, l3, l4, l5] [(2, a)] S h n = mx_gd (10 ≤ S a (-2) ∧ S a (-2) ≤ 10) d 66 4 [l0, l1, l2, l3, l4, l5] [(2, S a 0)] S h n) ∧
  (∀ (d : Nat) (a : Int) (l0 l1 l2 l3 l4 l5 : Option mx_V) (S h : mx_H) (n : Int), mx_ex d 66 4 [l0, l1, l2, l3, l4, l5] [(2, a)] S h n = mx_gd (8 ≤ S a (-2) ∧ S a (-2) ≤ 8) d 66 7 [l0, l1, l2, l3, l4, l5] [(0, h a 4)] S h n) ∧
  (∀ (d : Nat) (l0 l1 l2 l3 l4 l5 : Option mx_V) (v0 : mx_V) (S h : mx_H) (n : Int), mx_ex d 66 7 [l0, l1, l2, l3, l4, l5] [v0] S h n = mx_ex d 66 9 [l0, l1, l2, l3, l4, l5] [(0, 6), v0] S h n) ∧
  (∀ (d : Nat) (b a : Int) (l0 l1 l2 l3 l4 l5 : Option mx_V) (S h : mx_H) (n : Int), mx_ex d 66 9 [l0, l1, l2, l3, l4, l5] [(0, b), (0, a)] S h n = mx_br (a < b) d 66 14 12 [l0, l1, l2, l3, l4, l5] [] S h n) ∧
  (∀ (d : Nat) (l0 l1 l2 l3 l4 l5 : Option mx_V) (S h : mx_H) (n : Int), mx_ex d 66 12 [l0, l1, l2, l3, l4, l5] [] S h n = mx_ex d 66 13 [l0, l1, l2, l3, l4, l5] [(0, 0)] S h n) ∧
  (∀ (d : Nat) (x : Int) (l0 l1 l2 l3 l4 l5 : Option mx_V) (S h : mx_H) (n : Int), mx_ex d 66 13 [l0, l1, l2, l3, l4, l5] [(0, x)] S h n = mx_re (0 ≤ x ∧ x ≤ 1) (some (0, x)) S h n) ∧
  (∀ (d : Nat) (x : Int) (l1 l2 l3 l4 l5 : Option mx_V) (S h : mx_H) (n : Int), mx_ex d 66 14 [some (2, x), l1, l2, l3, l4, l5] [] S h n = mx_ex d 66 15 [some (2, x), l1, l2, l3, l4, l5] [(2, x)] S h n) ∧
  (∀ (d : Nat) (a : Int) (l0 l1 l2 l3 l4 l5 : Option mx_V) (S h : mx_H) (n : Int), mx_ex (d + 1) 66 15 [l0, l1, l2, l3, l4, l5] [(2, a)] S h n = mx_cl (S a (-2) = 10) d 70 [(2, a)] 66 18 [l0, l1, l2, l3, l4, l5] [] S h n) ∧
  (∀ (d : Nat) (x : Int) (l1 l2 l3 l4 l5 : Option mx_V) (S h : mx_H) (n : Int), mx_ex d 66 18 [some (2, x), l1, l2, l3, l4, l5] [] S h n = mx_ex d 66 19 [some (2, x), l1, l2, l3, l4, l5] [(2, x)] S h n) ∧
  (∀ (d : Nat) (a : Int) (l0 l1 l2 l3 l4 l5 : Option mx_V) (S h : mx_H) (n : Int), mx_ex d 66 19 [l0, l1, l2, l3, l4, l5] [(2, a)] S h n = mx_gd (10 ≤ S a (-2) ∧ S a (-2) ≤ 10) d 66 22 [l0, l1, l2, l3, l4, l5] [(2, S a 0)] S h n) ∧
  (∀ (d : Nat) (a : Int) (l0 l1 l2 l3 l4 l5 : Option mx_V) (S h : mx_H) (n : Int), mx_ex d 66 22 [l0, l1, l2, l3, l4, l5] [(2, a)] S h n = mx_gd (8 ≤ S a (-2) ∧ S a (-2) ≤ 8) d 66 25 [l0, l1, l2, l3, l4, l5] [(0, h a 3)] S h n) ∧
  (∀ (d : Nat) (l0 l1 l2 l3 l4 l5 : Option mx_V) (v0 : mx_V) (S h : mx_H) (n : Int), mx_ex d 66 25 [l0, l1, l2, l3, l4, l5] [v0] S h n = mx_ex d 66 26 [l0, l1, l2, l3, l4, l5] [(0, 1), v0] S h n) ∧
  (∀ (d : Nat) (b a : Int) (l0 l1 l2 l3 l4 l5 : Option mx_V) (S h : mx_H) (n : Int), mx_ex d 66 26 [l0, l1, l2, l3, l4, l5] [(0, b), (0, a)] S h n = mx_ex d 66 27 [l0, l1, l2, l3, l4, l5] [(0, mx_w (a - b))] S h n) ∧
  (∀ (d : Nat) (x : Int) (l0 l1 l2 l3 l4 l5 : Option mx_V) (S h : mx_H) (n : Int), mx_ex d 66 27 [l0, l1, l2, l3, l4, l5] [(0, x)] S h n = mx_ex d 66 28 [l0, mx_nl l1, some (0, x), l3, l4, l5] [] S h n) ∧
  (∀ (d : Nat) (x : Int) (l1 l2 l3 l4 l5 : Option mx_V) (S h : mx_H) (n : Int), mx_ex d 66 28 [some (2, x), l1, l2, l3, l4, l5] [] S h n = mx_ex d 66 29 [some (2, x), l1, l2, l3, l4, l5] [(2, x)] S h n) ∧
  (∀ (d : Nat) (l0 l1 l2 l3 l4 l5 : Option mx_V) (v0 : mx_V) (S h : mx_H) (n : Int), mx_ex d 66 29 [l0, l1, l2, l3, l4, l5] [v0] S h n = mx_ex d 66 30 [l0, l1, l2, l3, l4, l5] [(0, 0), v0] S h n) ∧
  (∀ (d : Nat) (x : Int) (l0 l1 l3 l4 l5 : Option mx_V) (v0 v1 : mx_V) (S h : mx_H) (n : Int), mx_ex d 66 30 [l0, l1, some (0, x), l3, l4, l5] [v0, v1] S h n = mx_ex d 66 31 [l0, l1, some (0, x), l3, l4, l5] [(0, x), v0, v1] S h n) ∧
  (∀ (d : Nat) (x0 x1 a : Int) (l0 l1 l2 l3 l4 l5 : Option mx_V) (S h : mx_H) (n : Int), mx_ex (d + 1) 66 31 [l0, l1, l2, l3, l4, l5] [(0, x0), (0, x1), (2, a)] S h n = mx_cl (S a (-2) = 10) d 67 [(2, a), (0, x1), (0, x0)] 66 34 [l0, l1, l2, l3, l4, l5] [] S h n) ∧
  (∀ (d : Nat) (x : Int) (l0 l1 l2 l3 l4 l5 : Option mx_V) (S h : mx_H) (n : Int), mx_ex d 66 34 [l0, l1, l2, l3, l4, l5] [(0, x)] S h n = mx_ex d 66 35 [l0, l1, mx_nl l2, some (0, x), l4, l5] [] S h n) ∧
  (∀ (d : Nat) (x : Int) (l0 l1 l2 l4 l5 : Option mx_V) (S h : mx_H) (n : Int), mx_ex d 66 35 [l0, l1, l2, some (0, x), l4, l5] [] S h n = mx_ex d 66 36 [l0, l1, l2, some (0, x), l4, l5] [(0, x)] S h n) ∧
  (∀ (d : Nat) (a : Int) (l0 l1 l2 l3 l4 l5 : Option mx_V) (S h : mx_H) (n : Int), mx_ex d 66 36 [l0, l1, l2, l3, l4, l5] [(0, a)] S h n = mx_br (a < 0) d 66 39 41 [l0, l1, l2, l3, l4, l5] [] S h n) ∧
  (∀ (d : Nat) (l0 l1 l2 l3 l4 l5 : Option mx_V) (S h : mx_H) (n : Int), mx_ex d 66 39 [l0, l1, l2, l3, l4, l5] [] S h n = mx_ex d 66 40 [l0, l1, l2, l3, l4, l5] [(0, 0)] S h n) ∧
  (∀ (d : Nat) (x : Int) (l0 l1 l2 l3 l4 l5 : Option mx_V) (S h : mx_H) (n : Int), mx_ex d 66 40 [l0, l1, l2, l3, l4, l5] [(0, x)] S h n = mx_re (0 ≤ x ∧ x ≤ 1) (some (0, x)) S h n) ∧
  (∀ (d : Nat) (x : Int) (l0 l2 l3 l4 l5 : Option mx_V) (S h : mx_H) (n : Int), mx_ex d 66 41 [l0, some (0, x), l2, l3, l4, l5] [] S h n = mx_ex d 66 42 [l0, some (0, x), l2, l3, l4, l5] [(0, x)] S h n) ∧
  (∀ (d : Nat) (l0 l1 l2 l3 l4 l5 : Option mx_V) (v0 : mx_V) (S h : mx_H) (n : Int), mx_ex d 66 42 [l0, l1, l2, l3, l4, l5] [v0] S h n = mx_ex d 66 43 [l0, l1, l2, l3, l4, l5] [(0, 3), v0] S h n) ∧
  (∀ (d : Nat) (b a : Int) (l0 l1 l2 l3 l4 l5 : Option mx_V) (S h : mx_H) (n : Int), mx_ex d 66 43 [l0, l1, l2, l3, l4, l5] [(0, b), (0, a)] S h n = mx_br (a = b) d 66 46 50 [l0, l1, l2, l3, l4, l5] [] S h n) ∧
  (∀ (d : Nat) (l0 l1 l2 l3 l4 l5 : Option mx_V) (S h : mx_H) (n : Int), mx_ex d 66 46 [l0, l1, l2, l3, l4, l5] [] S h n = mx_ex d 66 47 [l0, l1, l2, l3, l4, l5] [(0, 0)] S h n) ∧
  (∀ (d : Nat) (l0 l1 l2 l3 l4 l5 : Option mx_V) (v0 : mx_V) (S h : mx_H) (n : Int), mx_ex d 66 47 [l0, l1, l2, l3, l4, l5] [v0] S h n = mx_ex d 66 56 [l0, l1, l2, l3, l4, l5] [v0] S h n) ∧
  (∀ (d : Nat) (x : Int) (l1 l2 l3 l4 l5 : Option mx_V) (S h : mx_H) (n : Int), mx_ex d 66 50 [some (2, x), l1, l2, l3, l4, l5] [] S h n = mx_ex d 66 51 [some (2, x), l1, l2, l3, l4, l5] [(2, x)] S h n) ∧
  (∀ (d : Nat) (l0 l1 l2 l3 l4 l5 : Option mx_V) (v0 : mx_V) (S h : mx_H) (n : Int), mx_ex d 66 51 [l0, l1, l2, l3, l4, l5] [v0] S h n = mx_ex d 66 52 [l0, l1, l2, l3, l4, l5] [(0, 0), v0] S h n) ∧
  (∀ (d : Nat) (x : Int) (l0 l1 l3 l4 l5 : Option mx_V) (v0 v1 : mx_V) (S h : mx_H) (n : Int), mx_ex d 66 52 [l0, l1, some (0, x), l3, l4, l5] [v0, v1] S h n = mx_ex d 66 53 [l0, l1, some (0, x), l3, l4, l5] [(0, x), v0, v1] S h n) ∧
  (∀ (d : Nat) (x0 x1 a : Int) (l0 l1 l2 l3 l4 l5 : Option mx_V) (S h : mx_H) (n : Int), mx_ex (d + 1) 66 53 [l0, l1, l2, l3, l4, l5] [(0, x0), (0, x1), (2, a)] S h n = mx_cl (S a (-2) = 10) d 67 [(2, a), (0, x1), (0, x0)] 66 56 [l0, l1, l2, l3, l4, l5] [] S h n) ∧
  (∀ (d : Nat) (x : Int) (l0 l1 l2 l3 l4 l5 : Option mx_V) (S h : mx_H) (n : Int), mx_ex d 66 56 [l0, l1, l2, l3, l4, l5] [(0, x)] S h n = mx_ex d 66 58 [l0, l1, l2, mx_nl l3, some (0, x), l5] [] S h n) ∧
  (∀ (d : Nat) (x : Int) (l0 l1 l2 l3 l5 : Option mx_V) (S h : mx_H) (n : Int), mx_ex d 66 58 [l0, l1, l2, l3, some (0, x), l5] [] S h n = mx_ex d 66 60 [l0, l1, l2, l3, some (0, x), l5] [(0, x)] S h n) ∧
  (∀ (d : Nat) (a : Int) (l0 l1 l2 l3 l4 l5 : Option mx_V) (S h : mx_H) (n : Int), mx_ex d 66 60 [l0, l1, l2, l3, l4, l5] [(0, a)] S h n = mx_br (a < 0) d 66 63 65 [l0, l1, l2, l3, l4, l5] [] S h n) ∧
  (∀ (d : Nat) (l0 l1 l2 l3 l4 l5 : Option mx_V) (S h : mx_H) (n : Int), mx_ex d 66 63 [l0, l1, l2, l3, l4, l5] [] S h n = mx_ex d 66 64 [l0, l1, l2, l3, l4, l5] [(0, 0)] S h n) ∧
  (∀ (d : Nat) (x : Int) (l0 l1 l2 l3 l4 l5 : Option mx_V) (S h : mx_H) (n : Int), mx_ex d 66 64 [l0, l1, l2, l3, l4, l5] [(0, x)] S h n = mx_re (0 ≤ x ∧ x ≤ 1) (some (0, x)) S h n) ∧
  (∀ (d : Nat) (l0 l1 l2 l3 l4 l5 : Option mx_V) (S h : mx_H) (n : Int), mx_ex d 66 65 [l0, l1, l2, l3, l4, l5] [] S h n = mx_ex d 66 66 [l0, l1, l2, l3, l4, l5] [(0, 0)] S h n) ∧
  (∀ (d : Nat) (x : Int) (l0 l1 l2 l3 l4 l5 : Option mx_V) (S h : mx_H) (n : Int), mx_ex d 66 66 [l0, l1, l2, l3, l4, l5] [(0, x)] S h n = mx_ex d 66 68 [l0, l1, l2, l3, mx_nl l4, some (0, x)] [] S h n) ∧
  (∀ (d : Nat) (x : Int) (l0 l2 l3 l4 l5 : Option mx_V) (S h : mx_H) (n : Int), mx_ex d 66 68 [l0, some (0, x), l2, l3, l4, l5] [] S h n = mx_ex d 66 69 [l0, some (0, x), l2, l3, l4, l5] [(0, x)] S h n) ∧
  (∀ (d : Nat) (l0 l1 l2 l3 l4 l5 : Option mx_V) (v0 : mx_V) (S h : mx_H) (n : Int), mx_ex d 66 69 [l0, l1, l2, l3, l4, l5] [v0] S h n = mx_ex d 66 70 [l0, l1, l2, l3, l4, l5] [(0, 2), v0] S h n) ∧
  (∀ (d : Nat) (b a : Int) (l0 l1 l2 l3 l4 l5 : Option mx_V) (S h : mx_H) (n : Int), mx_ex d 66 70 [l0, l1, l2, l3, l4, l5] [(0, b), (0, a)] S h n = mx_br (a = b) d 66 73 81 [l0, l1, l2, l3, l4, l5] [] S h n) ∧
  (∀ (d : Nat) (x : Int) (l1 l2 l3 l4 l5 : Option mx_V) (S h : mx_H) (n : Int), mx_ex d 66 73 [some (2, x), l1, l2, l3, l4, l5] [] S h n = mx_ex d 66 74 [some (2, x), l1, l2, l3, l4, l5] [(2, x)] S h n) ∧
  (∀ (d : Nat) (l0 l1 l2 l3 l4 l5 : Option mx_V) (v0 : mx_V) (S h : mx_H) (n : Int), mx_ex d 66 74 [l0, l1, l2, l3, l4, l5] [v0] S h n = mx_ex d 66 75 [l0, l1, l2, l3, l4, l5] [(0, 0), v0] S h n) ∧
  (∀ (d : Nat) (x : Int) (l0 l1 l3 l4 l5 : Option mx_V) (v0 v1 : mx_V) (S h : mx_H) (n : Int), mx_ex d 66 75 [l0, l1, some (0, x), l3, l4, l5] [v0, v1] S h n = mx_ex d 66 76 [l0, l1, some (0, x), l3, l4, l5] [(0, x), v0, v1] S h n) ∧
  (∀ (d : Nat) (x0 x1 a : Int) (l0 l1 l2 l3 l4 l5 : Option mx_V) (S h : mx_H) (n : Int), mx_ex (d + 1) 66 76 [l0, l1, l2, l3, l4, l5] [(0, x0), (0, x1), (2, a)] S h n = mx_cl (S a (-2) = 10) d 67 [(2, a), (0, x1), (0, x0)] 66 79 [l0, l1, l2, l3, l4, l5] [] S h n) ∧
  (∀ (d : Nat) (x : Int) (l0 l1 l2 l3 l4 l5 : Option mx_V) (S h : mx_H) (n : Int), mx_ex d 66 79 [l0, l1, l2, l3, l4, l5] [(0, x)] S h n = mx_ex d 66 81 [l0, l1, l2, l3, mx_nl l4, some (0, x)] [] S h n) ∧
  (∀ (d : Nat) (x : Int) (l0 l2 l3 l4 l5 : Option mx_V) (S h : mx_H) (n : Int), mx_ex d 66 81 [l0, some (0, x), l2, l3, l4, l5] [] S h n = mx_ex d 66 82 [l0, some (0, x), l2, l3, l4, l5] [(0, x)] S h n) ∧
  (∀ (d : Nat) (l0 l1 l2 l3 l4 l5 : Option mx_V) (v0 : mx_V) (S h : mx_H) (n : Int), mx_ex d 66 82 [l0, l1, l2, l3, l4, l5] [v0] S h n = mx_ex d 66 83 [l0, l1, l2, l3, l4, l5] [(0, 3), v0] S h n) ∧
  (∀ (d : Nat) (b a : Int) (l0 l1 l2 l3 l4 l5 : Option mx_V) (S h : mx_H) (n : Int), mx_ex d 66 83 [l0, l1, l2, l3, l4, l5] [(0, b), (0, a)] S h n = mx_br (a = b) d 66 86 95 [l0, l1, l2, l3, l4, l5] [] S h n) ∧
  (∀ (d : Nat) (x : Int) (l1 l2 l3 l4 l5 : Option mx_V) (S h : mx_H) (n : Int), mx_ex d 66 86 [some (2, x), l1, l2, l3, l4, l5] [] S h n = mx_ex d 66 87 [some (2, x), l1, l2, l3, l4, l5] [(2, x)] S h n) ∧
  (∀ (d : Nat) (l0 l1 l2 l3 l4 l5 : Option mx_V) (v0 : mx_V) (S h : mx_H) (n : Int), mx_ex d 66 87 [l0, l1, l2, l3, l4, l5] [v0] S h n = mx_ex d 66 88 [l0, l1, l2, l3, l4, l5] [(0, 1), v0] S h n) ∧
  (∀ (d : Nat) (l0 l1 l2 l3 l4 l5 : Option mx_V) (v0 v1 : mx_V) (S h : mx_H) (n : Int), mx_ex d 66 88 [l0, l1, l2, l3, l4, l5] [v0, v1] S h n = mx_ex d 66 90 [l0, l1, l2, l3, l4, l5] [(0, 99), v0, v1] S h n) ∧
  (∀ (d : Nat) (x0 x1 a : Int) (l0 l1 l2 l3 l4 l5 : Option mx_V) (S h : mx_H) (n : Int), mx_ex (d + 1) 66 90 [l0, l1, l2, l3, l4, l5] [(0, x0), (0, x1), (2, a)] S h n = mx_cl (S a (-2) = 10) d 67 [(2, a), (0, x1), (0, x0)] 66 93 [l0, l1, l2, l3, l4, l5] [] S h n) ∧
  (∀ (d : Nat) (x : Int) (l0 l1 l2 l3 l4 l5 : Option mx_V) (S h : mx_H) (n : Int), mx_ex d 66 93 [l0, l1, l2, l3, l4, l5] [(0, x)] S h n = mx_ex d 66 95 [l0, l1, l2, l3, mx_nl l4, some (0, x)] [] S h n) ∧
  (∀ (d : Nat) (x : Int) (l0 l1 l2 l3 l4 : Option mx_V) (S h : mx_H) (n : Int), mx_ex d 66 95 [l0, l1, l2, l3, l4, some (0, x)] [] S h n = mx_ex d 66 97 [l0, l1, l2, l3, l4, some (0, x)] [(0, x)] S h n) ∧
  (∀ (d : Nat) (a : Int) (l0 l1 l2 l3 l4 l5 : Option mx_V) (S h : mx_H) (n : Int), mx_ex d 66 97 [l0, l1, l2, l3, l4, l5] [(0, a)] S h n = mx_br (a < 0) d 66 109 100 [l0, l1, l2, l3, l4, l5] [] S h n) ∧
  (∀ (d : Nat) (x : Int) (l1 l2 l3 l4 l5 : Option mx_V) (S h : mx_H) (n : Int), mx_ex d 66 100 [some (2, x), l1, l2, l3, l4, l5] [] S h n = mx_ex d 66 101 [some (2, x), l1, l2, l3, l4, l5] [(2, x)] S h n) ∧
  (∀ (d : Nat) (l0 l1 l2 l3 l4 l5 : Option mx_V) (v0 : mx_V) (S h : mx_H) (n : Int), mx_ex d 66 101 [l0, l1, l2, l3, l4, l5] [v0] S h n = mx_ex d 66 103 [l0, l1, l2, l3, l4, l5] [(0, 59), v0] S h n) ∧
  (∀ (d : Nat) (x0 a : Int) (l0 l1 l2 l3 l4 l5 : Option mx_V) (S h : mx_H) (n : Int), mx_ex (d + 1) 66 103 [l0, l1, l2, l3, l4, l5] [(0, x0), (2, a)] S h n = mx_cl (S a (-2) = 10) d 68 [(2, a), (0, x0)] 66 106 [l0, l1, l2, l3, l4, l5] [] S h n) ∧
  (∀ (d : Nat) (a : Int) (l0 l1 l2 l3 l4 l5 : Option mx_V) (S h : mx_H) (n : Int), mx_ex d 66 106 [l0, l1, l2, l3, l4, l5] [(0, a)] S h n = mx_br (a = 0) d 66 109 111 [l0, l1, l2, l3, l4, l5] [] S h n) ∧
  (∀ (d : Nat) (l0 l1 l2 l3 l4 l5 : Option mx_V) (S h : mx_H) (n : Int), mx_ex d 66 109 [l0, l1, l2, l3, l4, l5] [] S h n = mx_ex d 66 110 [l0, l1, l2, l3, l4, l5] [(0, 0)] S h n) ∧
  (∀ (d : Nat) (x : Int) (l0 l1 l2 l3 l4 l5 : Option mx_V) (S h : mx_H) (n : Int), mx_ex d 66 110 [l0, l1, l2, l3, l4, l5] [(0, x)] S h n = mx_re (0 ≤ x ∧ x ≤ 1) (some (0, x)) S h n) ∧
  (∀ (d : Nat) (x : Int) (l1 l2 l3 l4 l5 : Option mx_V) (S h : mx_H) (n : Int), mx_ex d 66 111 [some (2, x), l1, l2, l3, l4, l5] [] S h n = mx_ex d 66 112 [some (2, x), l1, l2, l3, l4, l5] [(2, x)] S h n) ∧
  (∀ (d : Nat) (a : Int) (l0 l1 l2 l3 l4 l5 : Option mx_V) (S h : mx_H) (n : Int), mx_ex d 66 112 [l0, l1, l2, l3, l4, l5] [(2, a)] S h n = mx_gd (10 ≤ S a (-2) ∧ S a (-2) ≤ 10) d 66 115 [l0, l1, l2, l3, l4, l5] [(2, S a 0)] S h n) ∧
  (∀ (d : Nat) (x : Int) (l0 l2 l3 l4 l5 : Option mx_V) (v0 : mx_V) (S h : mx_H) (n : Int), mx_ex d 66 115 [l0, some (0, x), l2, l3, l4, l5] [v0] S h n = mx_ex d 66 116 [l0, some (0, x), l2, l3, l4, l5] [(0, x), v0] S h n) ∧
  (∀ (d : Nat) (x : Int) (l0 l1 l2 l4 l5 : Option mx_V) (v0 v1 : mx_V) (S h : mx_H) (n : Int), mx_ex d 66 116 [l0, l1, l2, some (0, x), l4, l5] [v0, v1] S h n = mx_ex d 66 117 [l0, l1, l2, some (0, x), l4, l5] [(0, x), v0, v1] S h n) ∧
  (∀ (d : Nat) (x : Int) (l0 l1 l2 l3 l5 : Option mx_V) (v0 v1 v2 : mx_V) (S h : mx_H) (n : Int), mx_ex d 66 117 [l0, l1, l2, l3, some (0, x), l5] [v0, v1, v2] S h n = mx_ex d 66 119 [l0, l1, l2, l3, some (0, x), l5] [(0, x), v0, v1, v2] S h n) :=
  ⟨by intros; exact rfl,
   by intros; exact eq_ld rfl rfl,
   by intros; exact eq_gr rfl,
   by intros; exact eq_gi rfl,
   by intros; exact eq_push rfl,
   by intros; exact eq_ic2 rfl,
   by intros; exact eq_push rfl,
   by intros; exact eq_rr rfl,
   by intros; exact eq_ld rfl rfl,
   by intros; exact eq_cv rfl (Nat.le_of_ble_eq_true rfl) rfl rfl rfl (Nat.le_of_ble_eq_true rfl),
   by intros; exact eq_ld rfl rfl,
   by intros; exact eq_gr rfl,
   by intros; exact eq_gi rfl,
   by intros; exact eq_push rfl,
   by intros; exact eq_i2 (o := mx_sub) rfl,
   by intros; exact eq_st rfl (by decide) (Nat.le_of_ble_eq_true rfl) rfl,
   by intros; exact eq_ld rfl rfl,
   by intros; exact eq_push rfl,
   by intros; exact eq_ld rfl rfl,
   by intros; exact eq_cv rfl (Nat.le_of_ble_eq_true rfl) rfl rfl rfl (Nat.le_of_ble_eq_true rfl),
   by intros; exact eq_st rfl (by decide) (Nat.le_of_ble_eq_true rfl) rfl,
   by intros; exact eq_ld rfl rfl,
   by intros; exact eq_if3 rfl,
   by intros; exact eq_push rfl,
   by intros; exact eq_rr rfl,
   by intros; exact eq_ld rfl rfl,
   by intros; exact eq_push rfl,
   by intros; exact eq_ic1 rfl,
   by intros; exact eq_push rfl,
   by intros; exact eq_go rfl,
   by intros; exact eq_ld rfl rfl,
   by intros; exact eq_push rfl,
   by intros; exact eq_ld rfl rfl,
   by intros; exact eq_cv rfl (Nat.le_of_ble_eq_true rfl) rfl rfl rfl (Nat.le_of_ble_eq_true rfl),
   by intros; exact eq_st rfl (by decide) (Nat.le_of_ble_eq_true rfl) rfl,
   by intros; exact eq_ld rfl rfl,
   by intros; exact eq_if3 rfl,
   by intros; exact eq_push rfl,
   by intros; exact eq_rr rfl,
   by intros; exact eq_push rfl,
   by intros; exact eq_st rfl (by decide) (Nat.le_of_ble_eq_true rfl) rfl,
   by intros; exact eq_ld rfl rfl,
   by intros; exact eq_push rfl,
   by intros; exact eq_ic1 rfl,
   by intros; exact eq_ld rfl rfl,
   by intros; exact eq_push rfl,
   by intros; exact eq_ld rfl rfl,
   by intros; exact eq_cv rfl (Nat.le_of_ble_eq_true rfl) rfl rfl rfl (Nat.le_of_ble_eq_true rfl),
   by intros; exact eq_st rfl (by decide) (Nat.le_of_ble_eq_true rfl) rfl,
   by intros; exact eq_ld rfl rfl,
   by intros; exact eq_push rfl,
   by intros; exact eq_ic1 rfl,
   by intros; exact eq_ld rfl rfl,
   by intros; exact eq_push rfl,
   by intros; exact eq_push rfl,
   by intros; exact eq_cv rfl (Nat.le_of_ble_eq_true rfl) rfl rfl rfl (Nat.le_of_ble_eq_true rfl),
   by intros; exact eq_st rfl (by decide) (Nat.le_of_ble_eq_true rfl) rfl,
   by intros; exact eq_ld rfl rfl,
   by intros; exact eq_if2 rfl,
   by intros; exact eq_ld rfl rfl,
   by intros; exact eq_push rfl,
   by intros; exact eq_cv rfl (Nat.le_of_ble_eq_true rfl) rfl rfl rfl (Nat.le_of_ble_eq_true rfl),
   by intros; exact eq_if1 rfl,
   by intros; exact eq_push rfl,
   by intros; exact eq_rr rfl,
   by intros; exact eq_ld rfl rfl,
   by intros; exact eq_gr rfl,
   by intros; exact eq_ld rfl rfl,
   by intros; exact eq_ld rfl rfl,
   by intros; exact eq_ld rfl rfl⟩
theorem rw_X7_lineTold_1 :
  (∀ (d : Nat) (x : Int) (l0 l1 l2 l3 l4 : Option mx_V) (v0 v1 v2 v3 : mx_V) (S h : mx_H) (n : Int), mx_ex d 66 119 [l0, l1, l2, l3, l4, some (0, x)] [v0, v1, v2, v3] S h n = mx_ex d 66 121 [l0, l1, l2, l3, l4, some (0, x)] [(0, x), v0, v1, v2, v3] S h n) ∧
  (∀ (d : Nat) (x0 x1 x2 x3 a : Int) (l0 l1 l2 l3 l4 l5 : Option mx_V) (S h : mx_H) (n : Int), mx_ex (d + 1) 66 121 [l0, l1, l2, l3, l4, l5] [(0, x0), (0, x1), (0, x2), (0, x3), (2, a)] S h n = mx_cl (S a (-2) = 8) d 92 [(2, a), (0, x3), (0, x2), (0, x1), (0, x0)] 66 124 [l0, l1, l2, l3, l4, l5] [] S h n) ∧
  (∀ (d : Nat) (a : Int) (l0 l1 l2 l3 l4 l5 : Option mx_V) (S h : mx_H) (n : Int), mx_ex d 66 124 [l0, l1, l2, l3, l4, l5] [(0, a)] S h n = mx_ex d 66 125 [l0, l1, l2, l3, l4, l5] [] S h n) ∧
  (∀ (d : Nat) (l0 l1 l2 l3 l4 l5 : Option mx_V) (S h : mx_H) (n : Int), mx_ex d 66 125 [l0, l1, l2, l3, l4, l5] [] S h n = mx_ex d 66 126 [l0, l1, l2, l3, l4, l5] [(0, 1)] S h n) ∧
  (∀ (d : Nat) (x : Int) (l0 l1 l2 l3 l4 l5 : Option mx_V) (S h : mx_H) (n : Int), mx_ex d 66 126 [l0, l1, l2, l3, l4, l5] [(0, x)] S h n = mx_re (0 ≤ x ∧ x ≤ 1) (some (0, x)) S h n) :=
  ⟨by intros; exact eq_ld rfl rfl,
   by intros; exact eq_cv rfl (Nat.le_of_ble_eq_true rfl) rfl rfl rfl (Nat.le_of_ble_eq_true rfl),
   by intros; exact eq_pop rfl (by decide),
   by intros; exact eq_push rfl,
   by intros; exact eq_rr rfl⟩
theorem rw_X7_number :
  (∀ (d : Nat) (a0 a1 a2 : Int) (S h : mx_H) (n : Int), mx_M d 67 [(2, a0), (0, a1), (0, a2)] S h n = mx_ex d 67 0 [some (2, a0), some (0, a1), some (0, a2), none] [] S h n) ∧
  (∀ (d : Nat) (x : Int) (l1 l2 l3 : Option mx_V) (S h : mx_H) (n : Int), mx_ex d 67 0 [some (2, x), l1, l2, l3] [] S h n = mx_ex d 67 1 [some (2, x), l1, l2, l3] [(2, x)] S h n) ∧
  (∀ (d : Nat) (a : Int) (l0 l1 l2 l3 : Option mx_V) (S h : mx_H) (n : Int), mx_ex d 67 1 [l0, l1, l2, l3] [(2, a)] S h n = mx_gd (10 ≤ S a (-2) ∧ S a (-2) ≤ 10) d 67 4 [l0, l1, l2, l3] [(0, h a 6)] S h n) ∧
  (∀ (d : Nat) (l0 l1 l2 l3 : Option mx_V) (v0 : mx_V) (S h : mx_H) (n : Int), mx_ex d 67 4 [l0, l1, l2, l3] [v0] S h n = mx_ex d 67 5 [l0, l1, l2, l3] [(0, 2), v0] S h n) ∧
  (∀ (d : Nat) (b a : Int) (l0 l1 l2 l3 : Option mx_V) (S h : mx_H) (n : Int), mx_ex d 67 5 [l0, l1, l2, l3] [(0, b), (0, a)] S h n = mx_br (a = b) d 67 8 24 [l0, l1, l2, l3] [] S h n) ∧
  (∀ (d : Nat) (x : Int) (l1 l2 l3 : Option mx_V) (S h : mx_H) (n : Int), mx_ex d 67 8 [some (2, x), l1, l2, l3] [] S h n = mx_ex d 67 9 [some (2, x), l1, l2, l3] [(2, x)] S h n) ∧
  (∀ (d : Nat) (a : Int) (l0 l1 l2 l3 : Option mx_V) (S h : mx_H) (n : Int), mx_ex d 67 9 [l0, l1, l2, l3] [(2, a)] S h n = mx_gd (10 ≤ S a (-2) ∧ S a (-2) ≤ 10) d 67 12 [l0, l1, l2, l3] [(0, h a 7)] S h n) ∧
  (∀ (d : Nat) (x : Int) (l0 l2 l3 : Option mx_V) (v0 : mx_V) (S h : mx_H) (n : Int), mx_ex d 67 12 [l0, some (0, x), l2, l3] [v0] S h n = mx_ex d 67 13 [l0, some (0, x), l2, l3] [(0, x), v0] S h n) ∧
  (∀ (d : Nat) (b a : Int) (l0 l1 l2 l3 : Option mx_V) (S h : mx_H) (n : Int), mx_ex d 67 13 [l0, l1, l2, l3] [(0, b), (0, a)] S h n = mx_br (a < b) d 67 24 16 [l0, l1, l2, l3] [] S h n) ∧
  (∀ (d : Nat) (x : Int) (l1 l2 l3 : Option mx_V) (S h : mx_H) (n : Int), mx_ex d 67 16 [some (2, x), l1, l2, l3] [] S h n = mx_ex d 67 17 [some (2, x), l1, l2, l3] [(2, x)] S h n) ∧
  (∀ (d : Nat) (a : Int) (l0 l1 l2 l3 : Option mx_V) (S h : mx_H) (n : Int), mx_ex d 67 17 [l0, l1, l2, l3] [(2, a)] S h n = mx_gd (10 ≤ S a (-2) ∧ S a (-2) ≤ 10) d 67 20 [l0, l1, l2, l3] [(0, h a 7)] S h n) ∧
  (∀ (d : Nat) (x : Int) (l0 l1 l3 : Option mx_V) (v0 : mx_V) (S h : mx_H) (n : Int), mx_ex d 67 20 [l0, l1, some (0, x), l3] [v0] S h n = mx_ex d 67 21 [l0, l1, some (0, x), l3] [(0, x), v0] S h n) ∧
  (∀ (d : Nat) (b a : Int) (l0 l1 l2 l3 : Option mx_V) (S h : mx_H) (n : Int), mx_ex d 67 21 [l0, l1, l2, l3] [(0, b), (0, a)] S h n = mx_br (b < a) d 67 24 26 [l0, l1, l2, l3] [] S h n) ∧
  (∀ (d : Nat) (l0 l1 l2 l3 : Option mx_V) (S h : mx_H) (n : Int), mx_ex d 67 24 [l0, l1, l2, l3] [] S h n = mx_ex d 67 25 [l0, l1, l2, l3] [(0, (-1))] S h n) ∧
  (∀ (d : Nat) (x : Int) (l0 l1 l2 l3 : Option mx_V) (S h : mx_H) (n : Int), mx_ex d 67 25 [l0, l1, l2, l3] [(0, x)] S h n = some (some (0, x), S, h, n)) ∧
  (∀ (d : Nat) (x : Int) (l1 l2 l3 : Option mx_V) (S h : mx_H) (n : Int), mx_ex d 67 26 [some (2, x), l1, l2, l3] [] S h n = mx_ex d 67 27 [some (2, x), l1, l2, l3] [(2, x)] S h n) ∧
  (∀ (d : Nat) (a : Int) (l0 l1 l2 l3 : Option mx_V) (S h : mx_H) (n : Int), mx_ex d 67 27 [l0, l1, l2, l3] [(2, a)] S h n = mx_gd (10 ≤ S a (-2) ∧ S a (-2) ≤ 10) d 67 30 [l0, l1, l2, l3] [(0, h a 7)] S h n) ∧
  (∀ (d : Nat) (x : Int) (l0 l1 l2 l3 : Option mx_V) (S h : mx_H) (n : Int), mx_ex d 67 30 [l0, l1, l2, l3] [(0, x)] S h n = mx_ex d 67 31 [l0, l1, mx_nl l2, some (0, x)] [] S h n) ∧
  (∀ (d : Nat) (x : Int) (l1 l2 l3 : Option mx_V) (S h : mx_H) (n : Int), mx_ex d 67 31 [some (2, x), l1, l2, l3] [] S h n = mx_ex d 67 32 [some (2, x), l1, l2, l3] [(2, x)] S h n) ∧
  (∀ (d : Nat) (a : Int) (l0 l1 l2 l3 : Option mx_V) (S h : mx_H) (n : Int), mx_ex (d + 1) 67 32 [l0, l1, l2, l3] [(2, a)] S h n = mx_cl (S a (-2) = 10) d 70 [(2, a)] 67 35 [l0, l1, l2, l3] [] S h n) ∧
  (∀ (d : Nat) (x : Int) (l0 l1 l2 : Option mx_V) (S h : mx_H) (n : Int), mx_ex d 67 35 [l0, l1, l2, some (0, x)] [] S h n = mx_ex d 67 36 [l0, l1, l2, some (0, x)] [(0, x)] S h n) ∧
  (∀ (d : Nat) (x : Int) (l0 l1 l2 l3 : Option mx_V) (S h : mx_H) (n : Int), mx_ex d 67 36 [l0, l1, l2, l3] [(0, x)] S h n = some (some (0, x), S, h, n)) :=
  ⟨by intros; exact rfl,
   by intros; exact eq_ld rfl rfl,
   by intros; exact eq_gi rfl,
   by intros; exact eq_push rfl,
   by intros; exact eq_ic1 rfl,
   by intros; exact eq_ld rfl rfl,
   by intros; exact eq_gi rfl,
   by intros; exact eq_ld rfl rfl,
   by intros; exact eq_ic2 rfl,
   by intros; exact eq_ld rfl rfl,
   by intros; exact eq_gi rfl,
   by intros; exact eq_ld rfl rfl,
   by intros; exact eq_ic5 rfl,
   by intros; exact eq_push rfl,
   by intros; exact eq_ret rfl,
   by intros; exact eq_ld rfl rfl,
   by intros; exact eq_gi rfl,
   by intros; exact eq_st rfl (by decide) (Nat.le_of_ble_eq_true rfl) rfl,
   by intros; exact eq_ld rfl rfl,
   by intros; exact eq_cv rfl (Nat.le_of_ble_eq_true rfl) rfl rfl rfl (Nat.le_of_ble_eq_true rfl),
   by intros; exact eq_ld rfl rfl,
   by intros; exact eq_ret rfl⟩
theorem rw_X7_takes :
  (∀ (d : Nat) (a0 a1 : Int) (S h : mx_H) (n : Int), mx_M d 68 [(2, a0), (0, a1)] S h n = mx_ex d 68 0 [some (2, a0), some (0, a1)] [] S h n) ∧
  (∀ (d : Nat) (x : Int) (l1 : Option mx_V) (S h : mx_H) (n : Int), mx_ex d 68 0 [some (2, x), l1] [] S h n = mx_ex d 68 1 [some (2, x), l1] [(2, x)] S h n) ∧
  (∀ (d : Nat) (a : Int) (l0 l1 : Option mx_V) (S h : mx_H) (n : Int), mx_ex d 68 1 [l0, l1] [(2, a)] S h n = mx_gd (10 ≤ S a (-2) ∧ S a (-2) ≤ 10) d 68 4 [l0, l1] [(0, h a 6)] S h n) ∧
  (∀ (d : Nat) (l0 l1 : Option mx_V) (v0 : mx_V) (S h : mx_H) (n : Int), mx_ex d 68 4 [l0, l1] [v0] S h n = mx_ex d 68 5 [l0, l1] [(0, 3), v0] S h n) ∧
  (∀ (d : Nat) (b a : Int) (l0 l1 : Option mx_V) (S h : mx_H) (n : Int), mx_ex d 68 5 [l0, l1] [(0, b), (0, a)] S h n = mx_br (a = b) d 68 8 16 [l0, l1] [] S h n) ∧
  (∀ (d : Nat) (x : Int) (l1 : Option mx_V) (S h : mx_H) (n : Int), mx_ex d 68 8 [some (2, x), l1] [] S h n = mx_ex d 68 9 [some (2, x), l1] [(2, x)] S h n) ∧
  (∀ (d : Nat) (a : Int) (l0 l1 : Option mx_V) (S h : mx_H) (n : Int), mx_ex d 68 9 [l0, l1] [(2, a)] S h n = mx_gd (10 ≤ S a (-2) ∧ S a (-2) ≤ 10) d 68 12 [l0, l1] [(0, h a 7)] S h n) ∧
  (∀ (d : Nat) (x : Int) (l0 : Option mx_V) (v0 : mx_V) (S h : mx_H) (n : Int), mx_ex d 68 12 [l0, some (0, x)] [v0] S h n = mx_ex d 68 13 [l0, some (0, x)] [(0, x), v0] S h n) ∧
  (∀ (d : Nat) (b a : Int) (l0 l1 : Option mx_V) (S h : mx_H) (n : Int), mx_ex d 68 13 [l0, l1] [(0, b), (0, a)] S h n = mx_br (a = b) d 68 18 16 [l0, l1] [] S h n) ∧
  (∀ (d : Nat) (l0 l1 : Option mx_V) (S h : mx_H) (n : Int), mx_ex d 68 16 [l0, l1] [] S h n = mx_ex d 68 17 [l0, l1] [(0, 0)] S h n) ∧
  (∀ (d : Nat) (x : Int) (l0 l1 : Option mx_V) (S h : mx_H) (n : Int), mx_ex d 68 17 [l0, l1] [(0, x)] S h n = mx_re (0 ≤ x ∧ x ≤ 1) (some (0, x)) S h n) ∧
  (∀ (d : Nat) (x : Int) (l1 : Option mx_V) (S h : mx_H) (n : Int), mx_ex d 68 18 [some (2, x), l1] [] S h n = mx_ex d 68 19 [some (2, x), l1] [(2, x)] S h n) ∧
  (∀ (d : Nat) (a : Int) (l0 l1 : Option mx_V) (S h : mx_H) (n : Int), mx_ex (d + 1) 68 19 [l0, l1] [(2, a)] S h n = mx_cl (S a (-2) = 10) d 70 [(2, a)] 68 22 [l0, l1] [] S h n) ∧
  (∀ (d : Nat) (l0 l1 : Option mx_V) (S h : mx_H) (n : Int), mx_ex d 68 22 [l0, l1] [] S h n = mx_ex d 68 23 [l0, l1] [(0, 1)] S h n) ∧
  (∀ (d : Nat) (x : Int) (l0 l1 : Option mx_V) (S h : mx_H) (n : Int), mx_ex d 68 23 [l0, l1] [(0, x)] S h n = mx_re (0 ≤ x ∧ x ≤ 1) (some (0, x)) S h n) :=
  ⟨by intros; exact rfl,
   by intros; exact eq_ld rfl rfl,
   by intros; exact eq_gi rfl,
   by intros; exact eq_push rfl,
   by intros; exact eq_ic1 rfl,
   by intros; exact eq_ld rfl rfl,
   by intros; exact eq_gi rfl,
   by intros; exact eq_ld rfl rfl,
   by intros; exact eq_ic0 rfl,
   by intros; exact eq_push rfl,
   by intros; exact eq_rr rfl,
   by intros; exact eq_ld rfl rfl,
   by intros; exact eq_cv rfl (Nat.le_of_ble_eq_true rfl) rfl rfl rfl (Nat.le_of_ble_eq_true rfl),
   by intros; exact eq_push rfl,
   by intros; exact eq_rr rfl⟩
theorem rh_X7_isName_28 : ∀ (d : Nat) (x : Int) (l0 l1 : Option mx_V) (S h : mx_H) (n : Int), mx_ex d 69 28 [l0, l1, some (0, x)] [] S h n = mx_ex d 69 29 [l0, l1, some (0, x)] [(0, x)] S h n := by intros; exact eq_ld rfl rfl
theorem rw_X7_isName :
  (∀ (d : Nat) (a0 a1 : Int) (S h : mx_H) (n : Int), mx_M d 69 [(2, a0), (2, a1)] S h n = mx_ex d 69 0 [some (2, a0), some (2, a1), none] [] S h n) ∧
  (∀ (d : Nat) (x : Int) (l1 l2 : Option mx_V) (S h : mx_H) (n : Int), mx_ex d 69 0 [some (2, x), l1, l2] [] S h n = mx_ex d 69 1 [some (2, x), l1, l2] [(2, x)] S h n) ∧
  (∀ (d : Nat) (a : Int) (l0 l1 l2 : Option mx_V) (S h : mx_H) (n : Int), mx_ex d 69 1 [l0, l1, l2] [(2, a)] S h n = mx_gd (10 ≤ S a (-2) ∧ S a (-2) ≤ 10) d 69 4 [l0, l1, l2] [(0, h a 6)] S h n) ∧
  (∀ (d : Nat) (l0 l1 l2 : Option mx_V) (v0 : mx_V) (S h : mx_H) (n : Int), mx_ex d 69 4 [l0, l1, l2] [v0] S h n = mx_ex d 69 5 [l0, l1, l2] [(0, 1), v0] S h n) ∧
  (∀ (d : Nat) (b a : Int) (l0 l1 l2 : Option mx_V) (S h : mx_H) (n : Int), mx_ex d 69 5 [l0, l1, l2] [(0, b), (0, a)] S h n = mx_br (a = b) d 69 8 24 [l0, l1, l2] [] S h n) ∧
  (∀ (d : Nat) (x : Int) (l1 l2 : Option mx_V) (S h : mx_H) (n : Int), mx_ex d 69 8 [some (2, x), l1, l2] [] S h n = mx_ex d 69 9 [some (2, x), l1, l2] [(2, x)] S h n) ∧
  (∀ (d : Nat) (a : Int) (l0 l1 l2 : Option mx_V) (S h : mx_H) (n : Int), mx_ex d 69 9 [l0, l1, l2] [(2, a)] S h n = mx_gd (10 ≤ S a (-2) ∧ S a (-2) ≤ 10) d 69 12 [l0, l1, l2] [(0, h a 5)] S h n) ∧
  (∀ (d : Nat) (x : Int) (l1 l2 : Option mx_V) (v0 : mx_V) (S h : mx_H) (n : Int), mx_ex d 69 12 [some (2, x), l1, l2] [v0] S h n = mx_ex d 69 13 [some (2, x), l1, l2] [(2, x), v0] S h n) ∧
  (∀ (d : Nat) (a : Int) (l0 l1 l2 : Option mx_V) (v1 : mx_V) (S h : mx_H) (n : Int), mx_ex d 69 13 [l0, l1, l2] [(2, a), v1] S h n = mx_gd (10 ≤ S a (-2) ∧ S a (-2) ≤ 10) d 69 16 [l0, l1, l2] [(0, h a 1), v1] S h n) ∧
  (∀ (d : Nat) (b a : Int) (l0 l1 l2 : Option mx_V) (S h : mx_H) (n : Int), mx_ex d 69 16 [l0, l1, l2] [(0, b), (0, a)] S h n = mx_ex d 69 17 [l0, l1, l2] [(0, mx_w (a - b))] S h n) ∧
  (∀ (d : Nat) (x : Int) (l0 l2 : Option mx_V) (v0 : mx_V) (S h : mx_H) (n : Int), mx_ex d 69 17 [l0, some (2, x), l2] [v0] S h n = mx_ex d 69 18 [l0, some (2, x), l2] [(2, x), v0] S h n) ∧
  (∀ (d : Nat) (a : Int) (l0 l1 l2 : Option mx_V) (v1 : mx_V) (S h : mx_H) (n : Int), mx_ex (d + 1) 69 18 [l0, l1, l2] [(2, a), v1] S h n = mx_cl (S a (-2) = 30) d 249 [(2, a)] 69 21 [l0, l1, l2] [v1] S h n) ∧
  (∀ (d : Nat) (b a : Int) (l0 l1 l2 : Option mx_V) (S h : mx_H) (n : Int), mx_ex d 69 21 [l0, l1, l2] [(0, b), (0, a)] S h n = mx_br (a = b) d 69 26 24 [l0, l1, l2] [] S h n) ∧
  (∀ (d : Nat) (l0 l1 l2 : Option mx_V) (S h : mx_H) (n : Int), mx_ex d 69 24 [l0, l1, l2] [] S h n = mx_ex d 69 25 [l0, l1, l2] [(0, 0)] S h n) ∧
  (∀ (d : Nat) (x : Int) (l0 l1 l2 : Option mx_V) (S h : mx_H) (n : Int), mx_ex d 69 25 [l0, l1, l2] [(0, x)] S h n = mx_re (0 ≤ x ∧ x ≤ 1) (some (0, x)) S h n) ∧
  (∀ (d : Nat) (l0 l1 l2 : Option mx_V) (S h : mx_H) (n : Int), mx_ex d 69 26 [l0, l1, l2] [] S h n = mx_ex d 69 27 [l0, l1, l2] [(0, 0)] S h n) ∧
  (∀ (d : Nat) (x : Int) (l0 l1 l2 : Option mx_V) (S h : mx_H) (n : Int), mx_ex d 69 27 [l0, l1, l2] [(0, x)] S h n = mx_ex d 69 28 [l0, mx_nl l1, some (0, x)] [] S h n) ∧
  (∀ (d : Nat) (x : Int) (l0 l2 : Option mx_V) (v0 : mx_V) (S h : mx_H) (n : Int), mx_ex d 69 29 [l0, some (2, x), l2] [v0] S h n = mx_ex d 69 30 [l0, some (2, x), l2] [(2, x), v0] S h n) ∧
  (∀ (d : Nat) (a : Int) (l0 l1 l2 : Option mx_V) (v1 : mx_V) (S h : mx_H) (n : Int), mx_ex (d + 1) 69 30 [l0, l1, l2] [(2, a), v1] S h n = mx_cl (S a (-2) = 30) d 249 [(2, a)] 69 33 [l0, l1, l2] [v1] S h n) ∧
  (∀ (d : Nat) (b a : Int) (l0 l1 l2 : Option mx_V) (S h : mx_H) (n : Int), mx_ex d 69 33 [l0, l1, l2] [(0, b), (0, a)] S h n = mx_br (a < b) d 69 36 63 [l0, l1, l2] [] S h n) ∧
  (∀ (d : Nat) (x : Int) (l1 l2 : Option mx_V) (S h : mx_H) (n : Int), mx_ex d 69 36 [some (2, x), l1, l2] [] S h n = mx_ex d 69 37 [some (2, x), l1, l2] [(2, x)] S h n) ∧
  (∀ (d : Nat) (a : Int) (l0 l1 l2 : Option mx_V) (S h : mx_H) (n : Int), mx_ex d 69 37 [l0, l1, l2] [(2, a)] S h n = mx_gd (10 ≤ S a (-2) ∧ S a (-2) ≤ 10) d 69 40 [l0, l1, l2] [(2, S a 3)] S h n) ∧
  (∀ (d : Nat) (x : Int) (l1 l2 : Option mx_V) (v0 : mx_V) (S h : mx_H) (n : Int), mx_ex d 69 40 [some (2, x), l1, l2] [v0] S h n = mx_ex d 69 41 [some (2, x), l1, l2] [(2, x), v0] S h n) ∧
  (∀ (d : Nat) (a : Int) (l0 l1 l2 : Option mx_V) (v1 : mx_V) (S h : mx_H) (n : Int), mx_ex d 69 41 [l0, l1, l2] [(2, a), v1] S h n = mx_gd (10 ≤ S a (-2) ∧ S a (-2) ≤ 10) d 69 44 [l0, l1, l2] [(0, h a 1), v1] S h n) ∧
  (∀ (d : Nat) (x : Int) (l0 l1 : Option mx_V) (v0 v1 : mx_V) (S h : mx_H) (n : Int), mx_ex d 69 44 [l0, l1, some (0, x)] [v0, v1] S h n = mx_ex d 69 45 [l0, l1, some (0, x)] [(0, x), v0, v1] S h n) ∧
  (∀ (d : Nat) (b a : Int) (l0 l1 l2 : Option mx_V) (v2 : mx_V) (S h : mx_H) (n : Int), mx_ex d 69 45 [l0, l1, l2] [(0, b), (0, a), v2] S h n = mx_ex d 69 46 [l0, l1, l2] [(0, mx_w (a + b)), v2] S h n) ∧
  (∀ (d : Nat) (i a : Int) (l0 l1 l2 : Option mx_V) (S h : mx_H) (n : Int), mx_ex d 69 46 [l0, l1, l2] [(0, i), (2, a)] S h n = mx_gd ((S a (-2) = 20 ∨ S a (-2) = 24) ∧ 0 ≤ i ∧ i < S a (-1)) d 69 47 [l0, l1, l2] [(0, h a i)] S h n) ∧
  (∀ (d : Nat) (x : Int) (l0 l2 : Option mx_V) (v0 : mx_V) (S h : mx_H) (n : Int), mx_ex d 69 47 [l0, some (2, x), l2] [v0] S h n = mx_ex d 69 48 [l0, some (2, x), l2] [(2, x), v0] S h n) ∧
  (∀ (d : Nat) (x : Int) (l0 l1 : Option mx_V) (v0 v1 : mx_V) (S h : mx_H) (n : Int), mx_ex d 69 48 [l0, l1, some (0, x)] [v0, v1] S h n = mx_ex d 69 49 [l0, l1, some (0, x)] [(0, x), v0, v1] S h n) ∧
  (∀ (d : Nat) (x0 a : Int) (l0 l1 l2 : Option mx_V) (v2 : mx_V) (S h : mx_H) (n : Int), mx_ex (d + 1) 69 49 [l0, l1, l2] [(0, x0), (2, a), v2] S h n = mx_cl (S a (-2) = 30) d 250 [(2, a), (0, x0)] 69 52 [l0, l1, l2] [v2] S h n) ∧
  (∀ (d : Nat) (b a : Int) (l0 l1 l2 : Option mx_V) (S h : mx_H) (n : Int), mx_ex d 69 52 [l0, l1, l2] [(0, b), (0, a)] S h n = mx_br (a = b) d 69 57 55 [l0, l1, l2] [] S h n) ∧
  (∀ (d : Nat) (l0 l1 l2 : Option mx_V) (S h : mx_H) (n : Int), mx_ex d 69 55 [l0, l1, l2] [] S h n = mx_ex d 69 56 [l0, l1, l2] [(0, 0)] S h n) ∧
  (∀ (d : Nat) (x : Int) (l0 l1 l2 : Option mx_V) (S h : mx_H) (n : Int), mx_ex d 69 56 [l0, l1, l2] [(0, x)] S h n = mx_re (0 ≤ x ∧ x ≤ 1) (some (0, x)) S h n) ∧
  (∀ (d : Nat) (x : Int) (l0 l1 : Option mx_V) (S h : mx_H) (n : Int), mx_ex d 69 57 [l0, l1, some (0, x)] [] S h n = mx_ex d 69 60 [l0, mx_nl l1, some (0, mx_w (x + 1))] [] S h n) ∧
  (∀ (d : Nat) (l0 l1 l2 : Option mx_V) (S h : mx_H) (n : Int), mx_ex d 69 60 [l0, l1, l2] [] S h n = mx_ex d 69 28 [l0, l1, l2] [] S h n) ∧
  (∀ (d : Nat) (l0 l1 l2 : Option mx_V) (S h : mx_H) (n : Int), mx_ex d 69 63 [l0, l1, l2] [] S h n = mx_ex d 69 64 [l0, l1, l2] [(0, 1)] S h n) ∧
  (∀ (d : Nat) (x : Int) (l0 l1 l2 : Option mx_V) (S h : mx_H) (n : Int), mx_ex d 69 64 [l0, l1, l2] [(0, x)] S h n = mx_re (0 ≤ x ∧ x ≤ 1) (some (0, x)) S h n) :=
  ⟨by intros; exact rfl,
   by intros; exact eq_ld rfl rfl,
   by intros; exact eq_gi rfl,
   by intros; exact eq_push rfl,
   by intros; exact eq_ic1 rfl,
   by intros; exact eq_ld rfl rfl,
   by intros; exact eq_gi rfl,
   by intros; exact eq_ld rfl rfl,
   by intros; exact eq_gi rfl,
   by intros; exact eq_i2 (o := mx_sub) rfl,
   by intros; exact eq_ld rfl rfl,
   by intros; exact eq_cv rfl (Nat.le_of_ble_eq_true rfl) rfl rfl rfl (Nat.le_of_ble_eq_true rfl),
   by intros; exact eq_ic0 rfl,
   by intros; exact eq_push rfl,
   by intros; exact eq_rr rfl,
   by intros; exact eq_push rfl,
   by intros; exact eq_st rfl (by decide) (Nat.le_of_ble_eq_true rfl) rfl,
   by intros; exact eq_ld rfl rfl,
   by intros; exact eq_cv rfl (Nat.le_of_ble_eq_true rfl) rfl rfl rfl (Nat.le_of_ble_eq_true rfl),
   by intros; exact eq_ic3 rfl,
   by intros; exact eq_ld rfl rfl,
   by intros; exact eq_gr rfl,
   by intros; exact eq_ld rfl rfl,
   by intros; exact eq_gi rfl,
   by intros; exact eq_ld rfl rfl,
   by intros; exact eq_i2 (o := mx_add) rfl,
   by intros; exact eq_iald rfl,
   by intros; exact eq_ld rfl rfl,
   by intros; exact eq_ld rfl rfl,
   by intros; exact eq_cv rfl (Nat.le_of_ble_eq_true rfl) rfl rfl rfl (Nat.le_of_ble_eq_true rfl),
   by intros; exact eq_ic0 rfl,
   by intros; exact eq_push rfl,
   by intros; exact eq_rr rfl,
   by intros; exact eq_inc rfl rfl rfl,
   by intros; exact eq_go rfl,
   by intros; exact eq_push rfl,
   by intros; exact eq_rr rfl⟩
theorem rh_X7_next_0 : ∀ (d : Nat) (x : Int) (S h : mx_H) (n : Int), mx_ex d 70 0 [some (2, x)] [] S h n = mx_ex d 70 1 [some (2, x)] [(2, x)] S h n := by intros; exact eq_ld rfl rfl
theorem rh_X7_next_90 : ∀ (d : Nat) (x : Int) (S h : mx_H) (n : Int), mx_ex d 70 90 [some (2, x)] [] S h n = mx_ex d 70 91 [some (2, x)] [(2, x)] S h n := by intros; exact eq_ld rfl rfl
theorem rh_X7_next_149 : ∀ (d : Nat) (x : Int) (S h : mx_H) (n : Int), mx_ex d 70 149 [some (2, x)] [] S h n = mx_ex d 70 150 [some (2, x)] [(2, x)] S h n := by intros; exact eq_ld rfl rfl
theorem rw_X7_next :
  (∀ (d : Nat) (a0 : Int) (S h : mx_H) (n : Int), mx_M d 70 [(2, a0)] S h n = mx_ex d 70 0 [some (2, a0)] [] S h n) ∧
  (∀ (d : Nat) (a : Int) (l0 : Option mx_V) (S h : mx_H) (n : Int), mx_ex d 70 1 [l0] [(2, a)] S h n = mx_gd (10 ≤ S a (-2) ∧ S a (-2) ≤ 10) d 70 4 [l0] [(0, h a 5)] S h n) ∧
  (∀ (d : Nat) (x : Int) (v0 : mx_V) (S h : mx_H) (n : Int), mx_ex d 70 4 [some (2, x)] [v0] S h n = mx_ex d 70 5 [some (2, x)] [(2, x), v0] S h n) ∧
  (∀ (d : Nat) (a : Int) (l0 : Option mx_V) (v1 : mx_V) (S h : mx_H) (n : Int), mx_ex d 70 5 [l0] [(2, a), v1] S h n = mx_gd (10 ≤ S a (-2) ∧ S a (-2) ≤ 10) d 70 8 [l0] [(0, h a 4), v1] S h n) ∧
  (∀ (d : Nat) (b a : Int) (l0 : Option mx_V) (S h : mx_H) (n : Int), mx_ex d 70 8 [l0] [(0, b), (0, a)] S h n = mx_br (a < b) d 70 11 38 [l0] [] S h n) ∧
  (∀ (d : Nat) (x : Int) (S h : mx_H) (n : Int), mx_ex d 70 11 [some (2, x)] [] S h n = mx_ex d 70 12 [some (2, x)] [(2, x)] S h n) ∧
  (∀ (d : Nat) (a : Int) (l0 : Option mx_V) (S h : mx_H) (n : Int), mx_ex d 70 12 [l0] [(2, a)] S h n = mx_gd (10 ≤ S a (-2) ∧ S a (-2) ≤ 10) d 70 15 [l0] [(2, S a 3)] S h n) ∧
  (∀ (d : Nat) (x : Int) (v0 : mx_V) (S h : mx_H) (n : Int), mx_ex d 70 15 [some (2, x)] [v0] S h n = mx_ex d 70 16 [some (2, x)] [(2, x), v0] S h n) ∧
  (∀ (d : Nat) (a : Int) (l0 : Option mx_V) (v1 : mx_V) (S h : mx_H) (n : Int), mx_ex d 70 16 [l0] [(2, a), v1] S h n = mx_gd (10 ≤ S a (-2) ∧ S a (-2) ≤ 10) d 70 19 [l0] [(0, h a 5), v1] S h n) ∧
  (∀ (d : Nat) (i a : Int) (l0 : Option mx_V) (S h : mx_H) (n : Int), mx_ex d 70 19 [l0] [(0, i), (2, a)] S h n = mx_gd ((S a (-2) = 20 ∨ S a (-2) = 24) ∧ 0 ≤ i ∧ i < S a (-1)) d 70 20 [l0] [(0, h a i)] S h n) ∧
  (∀ (d : Nat) (l0 : Option mx_V) (v0 : mx_V) (S h : mx_H) (n : Int), mx_ex d 70 20 [l0] [v0] S h n = mx_ex d 70 22 [l0] [(0, 32), v0] S h n) ∧
  (∀ (d : Nat) (b a : Int) (l0 : Option mx_V) (S h : mx_H) (n : Int), mx_ex d 70 22 [l0] [(0, b), (0, a)] S h n = mx_br (a = b) d 70 25 38 [l0] [] S h n) ∧
  (∀ (d : Nat) (x : Int) (S h : mx_H) (n : Int), mx_ex d 70 25 [some (2, x)] [] S h n = mx_ex d 70 26 [some (2, x)] [(2, x)] S h n) ∧
  (∀ (d : Nat) (a : Int) (l0 : Option mx_V) (S h : mx_H) (n : Int), mx_ex d 70 26 [l0] [(2, a)] S h n = mx_ex d 70 27 [l0] [(2, a), (2, a)] S h n) ∧
  (∀ (d : Nat) (a : Int) (l0 : Option mx_V) (v1 : mx_V) (S h : mx_H) (n : Int), mx_ex d 70 27 [l0] [(2, a), v1] S h n = mx_gd (10 ≤ S a (-2) ∧ S a (-2) ≤ 10) d 70 30 [l0] [(0, h a 5), v1] S h n) ∧
  (∀ (d : Nat) (l0 : Option mx_V) (v0 v1 : mx_V) (S h : mx_H) (n : Int), mx_ex d 70 30 [l0] [v0, v1] S h n = mx_ex d 70 31 [l0] [(0, 1), v0, v1] S h n) ∧
  (∀ (d : Nat) (b a : Int) (l0 : Option mx_V) (v2 : mx_V) (S h : mx_H) (n : Int), mx_ex d 70 31 [l0] [(0, b), (0, a), v2] S h n = mx_ex d 70 32 [l0] [(0, mx_w (a + b)), v2] S h n) ∧
  (∀ (d : Nat) (v a : Int) (l0 : Option mx_V) (S h : mx_H) (n : Int), mx_ex d 70 32 [l0] [(0, v), (2, a)] S h n = mx_gd (10 ≤ S a (-2) ∧ S a (-2) ≤ 10) d 70 35 [l0] [] S (mx_u h a 5 v) n) ∧
  (∀ (d : Nat) (l0 : Option mx_V) (S h : mx_H) (n : Int), mx_ex d 70 35 [l0] [] S h n = mx_ex d 70 0 [l0] [] S h n) ∧
  (∀ (d : Nat) (x : Int) (S h : mx_H) (n : Int), mx_ex d 70 38 [some (2, x)] [] S h n = mx_ex d 70 39 [some (2, x)] [(2, x)] S h n) ∧
  (∀ (d : Nat) (x : Int) (v0 : mx_V) (S h : mx_H) (n : Int), mx_ex d 70 39 [some (2, x)] [v0] S h n = mx_ex d 70 40 [some (2, x)] [(2, x), v0] S h n) ∧
  (∀ (d : Nat) (a : Int) (l0 : Option mx_V) (v1 : mx_V) (S h : mx_H) (n : Int), mx_ex d 70 40 [l0] [(2, a), v1] S h n = mx_gd (10 ≤ S a (-2) ∧ S a (-2) ≤ 10) d 70 43 [l0] [(0, h a 5), v1] S h n) ∧
  (∀ (d : Nat) (v a : Int) (l0 : Option mx_V) (S h : mx_H) (n : Int), mx_ex d 70 43 [l0] [(0, v), (2, a)] S h n = mx_gd (10 ≤ S a (-2) ∧ S a (-2) ≤ 10) d 70 46 [l0] [] S (mx_u h a 1 v) n) ∧
  (∀ (d : Nat) (x : Int) (S h : mx_H) (n : Int), mx_ex d 70 46 [some (2, x)] [] S h n = mx_ex d 70 47 [some (2, x)] [(2, x)] S h n) ∧
  (∀ (d : Nat) (l0 : Option mx_V) (v0 : mx_V) (S h : mx_H) (n : Int), mx_ex d 70 47 [l0] [v0] S h n = mx_ex d 70 48 [l0] [(0, (-1)), v0] S h n) ∧
  (∀ (d : Nat) (v a : Int) (l0 : Option mx_V) (S h : mx_H) (n : Int), mx_ex d 70 48 [l0] [(0, v), (2, a)] S h n = mx_gd (10 ≤ S a (-2) ∧ S a (-2) ≤ 10) d 70 51 [l0] [] S (mx_u h a 7 v) n) ∧
  (∀ (d : Nat) (x : Int) (S h : mx_H) (n : Int), mx_ex d 70 51 [some (2, x)] [] S h n = mx_ex d 70 52 [some (2, x)] [(2, x)] S h n) ∧
  (∀ (d : Nat) (a : Int) (l0 : Option mx_V) (S h : mx_H) (n : Int), mx_ex d 70 52 [l0] [(2, a)] S h n = mx_gd (10 ≤ S a (-2) ∧ S a (-2) ≤ 10) d 70 55 [l0] [(0, h a 5)] S h n) ∧
  (∀ (d : Nat) (x : Int) (v0 : mx_V) (S h : mx_H) (n : Int), mx_ex d 70 55 [some (2, x)] [v0] S h n = mx_ex d 70 56 [some (2, x)] [(2, x), v0] S h n) ∧
  (∀ (d : Nat) (a : Int) (l0 : Option mx_V) (v1 : mx_V) (S h : mx_H) (n : Int), mx_ex d 70 56 [l0] [(2, a), v1] S h n = mx_gd (10 ≤ S a (-2) ∧ S a (-2) ≤ 10) d 70 59 [l0] [(0, h a 4), v1] S h n) ∧
  (∀ (d : Nat) (b a : Int) (l0 : Option mx_V) (S h : mx_H) (n : Int), mx_ex d 70 59 [l0] [(0, b), (0, a)] S h n = mx_br (a < b) d 70 70 62 [l0] [] S h n) ∧
  (∀ (d : Nat) (x : Int) (S h : mx_H) (n : Int), mx_ex d 70 62 [some (2, x)] [] S h n = mx_ex d 70 63 [some (2, x)] [(2, x)] S h n) ∧
  (∀ (d : Nat) (l0 : Option mx_V) (v0 : mx_V) (S h : mx_H) (n : Int), mx_ex d 70 63 [l0] [v0] S h n = mx_ex d 70 64 [l0] [(0, 0), v0] S h n) ∧
  (∀ (d : Nat) (v a : Int) (l0 : Option mx_V) (S h : mx_H) (n : Int), mx_ex d 70 64 [l0] [(0, v), (2, a)] S h n = mx_gd (10 ≤ S a (-2) ∧ S a (-2) ≤ 10) d 70 67 [l0] [] S (mx_u h a 6 v) n) ∧
  (∀ (d : Nat) (l0 : Option mx_V) (S h : mx_H) (n : Int), mx_ex d 70 67 [l0] [] S h n = mx_ex d 70 240 [l0] [] S h n) ∧
  (∀ (d : Nat) (x : Int) (S h : mx_H) (n : Int), mx_ex d 70 70 [some (2, x)] [] S h n = mx_ex d 70 71 [some (2, x)] [(2, x)] S h n) ∧
  (∀ (d : Nat) (a : Int) (l0 : Option mx_V) (S h : mx_H) (n : Int), mx_ex d 70 71 [l0] [(2, a)] S h n = mx_gd (10 ≤ S a (-2) ∧ S a (-2) ≤ 10) d 70 74 [l0] [(2, S a 3)] S h n) ∧
  (∀ (d : Nat) (x : Int) (v0 : mx_V) (S h : mx_H) (n : Int), mx_ex d 70 74 [some (2, x)] [v0] S h n = mx_ex d 70 75 [some (2, x)] [(2, x), v0] S h n) ∧
  (∀ (d : Nat) (a : Int) (l0 : Option mx_V) (v1 : mx_V) (S h : mx_H) (n : Int), mx_ex d 70 75 [l0] [(2, a), v1] S h n = mx_gd (10 ≤ S a (-2) ∧ S a (-2) ≤ 10) d 70 78 [l0] [(0, h a 5), v1] S h n) ∧
  (∀ (d : Nat) (i a : Int) (l0 : Option mx_V) (S h : mx_H) (n : Int), mx_ex d 70 78 [l0] [(0, i), (2, a)] S h n = mx_gd ((S a (-2) = 20 ∨ S a (-2) = 24) ∧ 0 ≤ i ∧ i < S a (-1)) d 70 79 [l0] [(0, h a i)] S h n) ∧
  (∀ (d : Nat) (x0 : Int) (l0 : Option mx_V) (S h : mx_H) (n : Int), mx_ex (d + 1) 70 79 [l0] [(0, x0)] S h n = mx_rt (mx_M d 72 [(0, x0)] S h n) (d + 1) 70 82 [l0] []) ∧
  (∀ (d : Nat) (a : Int) (l0 : Option mx_V) (S h : mx_H) (n : Int), mx_ex d 70 82 [l0] [(0, a)] S h n = mx_br (a = 0) d 70 129 85 [l0] [] S h n) ∧
  (∀ (d : Nat) (x : Int) (S h : mx_H) (n : Int), mx_ex d 70 85 [some (2, x)] [] S h n = mx_ex d 70 86 [some (2, x)] [(2, x)] S h n) ∧
  (∀ (d : Nat) (l0 : Option mx_V) (v0 : mx_V) (S h : mx_H) (n : Int), mx_ex d 70 86 [l0] [v0] S h n = mx_ex d 70 87 [l0] [(0, 1), v0] S h n) ∧
  (∀ (d : Nat) (v a : Int) (l0 : Option mx_V) (S h : mx_H) (n : Int), mx_ex d 70 87 [l0] [(0, v), (2, a)] S h n = mx_gd (10 ≤ S a (-2) ∧ S a (-2) ≤ 10) d 70 90 [l0] [] S (mx_u h a 6 v) n) ∧
  (∀ (d : Nat) (a : Int) (l0 : Option mx_V) (S h : mx_H) (n : Int), mx_ex d 70 91 [l0] [(2, a)] S h n = mx_gd (10 ≤ S a (-2) ∧ S a (-2) ≤ 10) d 70 94 [l0] [(0, h a 5)] S h n) ∧
  (∀ (d : Nat) (x : Int) (v0 : mx_V) (S h : mx_H) (n : Int), mx_ex d 70 94 [some (2, x)] [v0] S h n = mx_ex d 70 95 [some (2, x)] [(2, x), v0] S h n) ∧
  (∀ (d : Nat) (a : Int) (l0 : Option mx_V) (v1 : mx_V) (S h : mx_H) (n : Int), mx_ex d 70 95 [l0] [(2, a), v1] S h n = mx_gd (10 ≤ S a (-2) ∧ S a (-2) ≤ 10) d 70 98 [l0] [(0, h a 4), v1] S h n) ∧
  (∀ (d : Nat) (b a : Int) (l0 : Option mx_V) (S h : mx_H) (n : Int), mx_ex d 70 98 [l0] [(0, b), (0, a)] S h n = mx_br (a < b) d 70 101 240 [l0] [] S h n) ∧
  (∀ (d : Nat) (x : Int) (S h : mx_H) (n : Int), mx_ex d 70 101 [some (2, x)] [] S h n = mx_ex d 70 102 [some (2, x)] [(2, x)] S h n) ∧
  (∀ (d : Nat) (a : Int) (l0 : Option mx_V) (S h : mx_H) (n : Int), mx_ex d 70 102 [l0] [(2, a)] S h n = mx_gd (10 ≤ S a (-2) ∧ S a (-2) ≤ 10) d 70 105 [l0] [(2, S a 3)] S h n) ∧
  (∀ (d : Nat) (x : Int) (v0 : mx_V) (S h : mx_H) (n : Int), mx_ex d 70 105 [some (2, x)] [v0] S h n = mx_ex d 70 106 [some (2, x)] [(2, x), v0] S h n) ∧
  (∀ (d : Nat) (a : Int) (l0 : Option mx_V) (v1 : mx_V) (S h : mx_H) (n : Int), mx_ex d 70 106 [l0] [(2, a), v1] S h n = mx_gd (10 ≤ S a (-2) ∧ S a (-2) ≤ 10) d 70 109 [l0] [(0, h a 5), v1] S h n) ∧
  (∀ (d : Nat) (i a : Int) (l0 : Option mx_V) (S h : mx_H) (n : Int), mx_ex d 70 109 [l0] [(0, i), (2, a)] S h n = mx_gd ((S a (-2) = 20 ∨ S a (-2) = 24) ∧ 0 ≤ i ∧ i < S a (-1)) d 70 110 [l0] [(0, h a i)] S h n) ∧
  (∀ (d : Nat) (x0 : Int) (l0 : Option mx_V) (S h : mx_H) (n : Int), mx_ex (d + 1) 70 110 [l0] [(0, x0)] S h n = mx_rt (mx_M d 72 [(0, x0)] S h n) (d + 1) 70 113 [l0] []) ∧
  (∀ (d : Nat) (a : Int) (l0 : Option mx_V) (S h : mx_H) (n : Int), mx_ex d 70 113 [l0] [(0, a)] S h n = mx_br (a = 0) d 70 240 116 [l0] [] S h n) ∧
  (∀ (d : Nat) (x : Int) (S h : mx_H) (n : Int), mx_ex d 70 116 [some (2, x)] [] S h n = mx_ex d 70 117 [some (2, x)] [(2, x)] S h n) ∧
  (∀ (d : Nat) (a : Int) (l0 : Option mx_V) (S h : mx_H) (n : Int), mx_ex d 70 117 [l0] [(2, a)] S h n = mx_ex d 70 118 [l0] [(2, a), (2, a)] S h n) ∧
  (∀ (d : Nat) (a : Int) (l0 : Option mx_V) (v1 : mx_V) (S h : mx_H) (n : Int), mx_ex d 70 118 [l0] [(2, a), v1] S h n = mx_gd (10 ≤ S a (-2) ∧ S a (-2) ≤ 10) d 70 121 [l0] [(0, h a 5), v1] S h n) ∧
  (∀ (d : Nat) (l0 : Option mx_V) (v0 v1 : mx_V) (S h : mx_H) (n : Int), mx_ex d 70 121 [l0] [v0, v1] S h n = mx_ex d 70 122 [l0] [(0, 1), v0, v1] S h n) ∧
  (∀ (d : Nat) (b a : Int) (l0 : Option mx_V) (v2 : mx_V) (S h : mx_H) (n : Int), mx_ex d 70 122 [l0] [(0, b), (0, a), v2] S h n = mx_ex d 70 123 [l0] [(0, mx_w (a + b)), v2] S h n) ∧
  (∀ (d : Nat) (v a : Int) (l0 : Option mx_V) (S h : mx_H) (n : Int), mx_ex d 70 123 [l0] [(0, v), (2, a)] S h n = mx_gd (10 ≤ S a (-2) ∧ S a (-2) ≤ 10) d 70 126 [l0] [] S (mx_u h a 5 v) n) ∧
  (∀ (d : Nat) (l0 : Option mx_V) (S h : mx_H) (n : Int), mx_ex d 70 126 [l0] [] S h n = mx_ex d 70 90 [l0] [] S h n) ∧
  (∀ (d : Nat) (x : Int) (S h : mx_H) (n : Int), mx_ex d 70 129 [some (2, x)] [] S h n = mx_ex d 70 130 [some (2, x)] [(2, x)] S h n) ∧
  (∀ (d : Nat) (a : Int) (l0 : Option mx_V) (S h : mx_H) (n : Int), mx_ex d 70 130 [l0] [(2, a)] S h n = mx_gd (10 ≤ S a (-2) ∧ S a (-2) ≤ 10) d 70 133 [l0] [(2, S a 3)] S h n) ∧
  (∀ (d : Nat) (x : Int) (v0 : mx_V) (S h : mx_H) (n : Int), mx_ex d 70 133 [some (2, x)] [v0] S h n = mx_ex d 70 134 [some (2, x)] [(2, x), v0] S h n) ∧
  (∀ (d : Nat) (a : Int) (l0 : Option mx_V) (v1 : mx_V) (S h : mx_H) (n : Int), mx_ex d 70 134 [l0] [(2, a), v1] S h n = mx_gd (10 ≤ S a (-2) ∧ S a (-2) ≤ 10) d 70 137 [l0] [(0, h a 5), v1] S h n) ∧
  (∀ (d : Nat) (i a : Int) (l0 : Option mx_V) (S h : mx_H) (n : Int), mx_ex d 70 137 [l0] [(0, i), (2, a)] S h n = mx_gd ((S a (-2) = 20 ∨ S a (-2) = 24) ∧ 0 ≤ i ∧ i < S a (-1)) d 70 138 [l0] [(0, h a i)] S h n) ∧
  (∀ (d : Nat) (x0 : Int) (l0 : Option mx_V) (S h : mx_H) (n : Int), mx_ex (d + 1) 70 138 [l0] [(0, x0)] S h n = mx_rt (mx_M d 73 [(0, x0)] S h n) (d + 1) 70 141 [l0] []) ∧
  (∀ (d : Nat) (a : Int) (l0 : Option mx_V) (S h : mx_H) (n : Int), mx_ex d 70 141 [l0] [(0, a)] S h n = mx_br (a = 0) d 70 212 144 [l0] [] S h n) :=
  ⟨by intros; exact rfl,
   by intros; exact eq_gi rfl,
   by intros; exact eq_ld rfl rfl,
   by intros; exact eq_gi rfl,
   by intros; exact eq_ic3 rfl,
   by intros; exact eq_ld rfl rfl,
   by intros; exact eq_gr rfl,
   by intros; exact eq_ld rfl rfl,
   by intros; exact eq_gi rfl,
   by intros; exact eq_iald rfl,
   by intros; exact eq_push rfl,
   by intros; exact eq_ic1 rfl,
   by intros; exact eq_ld rfl rfl,
   by intros; exact eq_dup rfl (by decide),
   by intros; exact eq_gi rfl,
   by intros; exact eq_push rfl,
   by intros; exact eq_i2 (o := mx_add) rfl,
   by intros; exact eq_pi rfl,
   by intros; exact eq_go rfl,
   by intros; exact eq_ld rfl rfl,
   by intros; exact eq_ld rfl rfl,
   by intros; exact eq_gi rfl,
   by intros; exact eq_pi rfl,
   by intros; exact eq_ld rfl rfl,
   by intros; exact eq_push rfl,
   by intros; exact eq_pi rfl,
   by intros; exact eq_ld rfl rfl,
   by intros; exact eq_gi rfl,
   by intros; exact eq_ld rfl rfl,
   by intros; exact eq_gi rfl,
   by intros; exact eq_ic2 rfl,
   by intros; exact eq_ld rfl rfl,
   by intros; exact eq_push rfl,
   by intros; exact eq_pi rfl,
   by intros; exact eq_go rfl,
   by intros; exact eq_ld rfl rfl,
   by intros; exact eq_gr rfl,
   by intros; exact eq_ld rfl rfl,
   by intros; exact eq_gi rfl,
   by intros; exact eq_iald rfl,
   by intros; exact eq_cs rfl (Nat.le_of_ble_eq_true rfl) rfl rfl rfl (Nat.le_of_ble_eq_true rfl),
   by intros; exact eq_if0 rfl,
   by intros; exact eq_ld rfl rfl,
   by intros; exact eq_push rfl,
   by intros; exact eq_pi rfl,
   by intros; exact eq_gi rfl,
   by intros; exact eq_ld rfl rfl,
   by intros; exact eq_gi rfl,
   by intros; exact eq_ic3 rfl,
   by intros; exact eq_ld rfl rfl,
   by intros; exact eq_gr rfl,
   by intros; exact eq_ld rfl rfl,
   by intros; exact eq_gi rfl,
   by intros; exact eq_iald rfl,
   by intros; exact eq_cs rfl (Nat.le_of_ble_eq_true rfl) rfl rfl rfl (Nat.le_of_ble_eq_true rfl),
   by intros; exact eq_if0 rfl,
   by intros; exact eq_ld rfl rfl,
   by intros; exact eq_dup rfl (by decide),
   by intros; exact eq_gi rfl,
   by intros; exact eq_push rfl,
   by intros; exact eq_i2 (o := mx_add) rfl,
   by intros; exact eq_pi rfl,
   by intros; exact eq_go rfl,
   by intros; exact eq_ld rfl rfl,
   by intros; exact eq_gr rfl,
   by intros; exact eq_ld rfl rfl,
   by intros; exact eq_gi rfl,
   by intros; exact eq_iald rfl,
   by intros; exact eq_cs rfl (Nat.le_of_ble_eq_true rfl) rfl rfl rfl (Nat.le_of_ble_eq_true rfl),
   by intros; exact eq_if0 rfl⟩
theorem rw_X7_next_1 :
  (∀ (d : Nat) (x : Int) (S h : mx_H) (n : Int), mx_ex d 70 144 [some (2, x)] [] S h n = mx_ex d 70 145 [some (2, x)] [(2, x)] S h n) ∧
  (∀ (d : Nat) (l0 : Option mx_V) (v0 : mx_V) (S h : mx_H) (n : Int), mx_ex d 70 145 [l0] [v0] S h n = mx_ex d 70 146 [l0] [(0, 2), v0] S h n) ∧
  (∀ (d : Nat) (v a : Int) (l0 : Option mx_V) (S h : mx_H) (n : Int), mx_ex d 70 146 [l0] [(0, v), (2, a)] S h n = mx_gd (10 ≤ S a (-2) ∧ S a (-2) ≤ 10) d 70 149 [l0] [] S (mx_u h a 6 v) n) ∧
  (∀ (d : Nat) (a : Int) (l0 : Option mx_V) (S h : mx_H) (n : Int), mx_ex d 70 150 [l0] [(2, a)] S h n = mx_gd (10 ≤ S a (-2) ∧ S a (-2) ≤ 10) d 70 153 [l0] [(0, h a 5)] S h n) ∧
  (∀ (d : Nat) (x : Int) (v0 : mx_V) (S h : mx_H) (n : Int), mx_ex d 70 153 [some (2, x)] [v0] S h n = mx_ex d 70 154 [some (2, x)] [(2, x), v0] S h n) ∧
  (∀ (d : Nat) (a : Int) (l0 : Option mx_V) (v1 : mx_V) (S h : mx_H) (n : Int), mx_ex d 70 154 [l0] [(2, a), v1] S h n = mx_gd (10 ≤ S a (-2) ∧ S a (-2) ≤ 10) d 70 157 [l0] [(0, h a 4), v1] S h n) ∧
  (∀ (d : Nat) (b a : Int) (l0 : Option mx_V) (S h : mx_H) (n : Int), mx_ex d 70 157 [l0] [(0, b), (0, a)] S h n = mx_br (a < b) d 70 160 188 [l0] [] S h n) ∧
  (∀ (d : Nat) (x : Int) (S h : mx_H) (n : Int), mx_ex d 70 160 [some (2, x)] [] S h n = mx_ex d 70 161 [some (2, x)] [(2, x)] S h n) ∧
  (∀ (d : Nat) (a : Int) (l0 : Option mx_V) (S h : mx_H) (n : Int), mx_ex d 70 161 [l0] [(2, a)] S h n = mx_gd (10 ≤ S a (-2) ∧ S a (-2) ≤ 10) d 70 164 [l0] [(2, S a 3)] S h n) ∧
  (∀ (d : Nat) (x : Int) (v0 : mx_V) (S h : mx_H) (n : Int), mx_ex d 70 164 [some (2, x)] [v0] S h n = mx_ex d 70 165 [some (2, x)] [(2, x), v0] S h n) ∧
  (∀ (d : Nat) (a : Int) (l0 : Option mx_V) (v1 : mx_V) (S h : mx_H) (n : Int), mx_ex d 70 165 [l0] [(2, a), v1] S h n = mx_gd (10 ≤ S a (-2) ∧ S a (-2) ≤ 10) d 70 168 [l0] [(0, h a 5), v1] S h n) ∧
  (∀ (d : Nat) (i a : Int) (l0 : Option mx_V) (S h : mx_H) (n : Int), mx_ex d 70 168 [l0] [(0, i), (2, a)] S h n = mx_gd ((S a (-2) = 20 ∨ S a (-2) = 24) ∧ 0 ≤ i ∧ i < S a (-1)) d 70 169 [l0] [(0, h a i)] S h n) ∧
  (∀ (d : Nat) (x0 : Int) (l0 : Option mx_V) (S h : mx_H) (n : Int), mx_ex (d + 1) 70 169 [l0] [(0, x0)] S h n = mx_rt (mx_M d 73 [(0, x0)] S h n) (d + 1) 70 172 [l0] []) ∧
  (∀ (d : Nat) (a : Int) (l0 : Option mx_V) (S h : mx_H) (n : Int), mx_ex d 70 172 [l0] [(0, a)] S h n = mx_br (a = 0) d 70 188 175 [l0] [] S h n) ∧
  (∀ (d : Nat) (x : Int) (S h : mx_H) (n : Int), mx_ex d 70 175 [some (2, x)] [] S h n = mx_ex d 70 176 [some (2, x)] [(2, x)] S h n) ∧
  (∀ (d : Nat) (a : Int) (l0 : Option mx_V) (S h : mx_H) (n : Int), mx_ex d 70 176 [l0] [(2, a)] S h n = mx_ex d 70 177 [l0] [(2, a), (2, a)] S h n) ∧
  (∀ (d : Nat) (a : Int) (l0 : Option mx_V) (v1 : mx_V) (S h : mx_H) (n : Int), mx_ex d 70 177 [l0] [(2, a), v1] S h n = mx_gd (10 ≤ S a (-2) ∧ S a (-2) ≤ 10) d 70 180 [l0] [(0, h a 5), v1] S h n) ∧
  (∀ (d : Nat) (l0 : Option mx_V) (v0 v1 : mx_V) (S h : mx_H) (n : Int), mx_ex d 70 180 [l0] [v0, v1] S h n = mx_ex d 70 181 [l0] [(0, 1), v0, v1] S h n) ∧
  (∀ (d : Nat) (b a : Int) (l0 : Option mx_V) (v2 : mx_V) (S h : mx_H) (n : Int), mx_ex d 70 181 [l0] [(0, b), (0, a), v2] S h n = mx_ex d 70 182 [l0] [(0, mx_w (a + b)), v2] S h n) ∧
  (∀ (d : Nat) (v a : Int) (l0 : Option mx_V) (S h : mx_H) (n : Int), mx_ex d 70 182 [l0] [(0, v), (2, a)] S h n = mx_gd (10 ≤ S a (-2) ∧ S a (-2) ≤ 10) d 70 185 [l0] [] S (mx_u h a 5 v) n) ∧
  (∀ (d : Nat) (l0 : Option mx_V) (S h : mx_H) (n : Int), mx_ex d 70 185 [l0] [] S h n = mx_ex d 70 149 [l0] [] S h n) ∧
  (∀ (d : Nat) (x : Int) (S h : mx_H) (n : Int), mx_ex d 70 188 [some (2, x)] [] S h n = mx_ex d 70 189 [some (2, x)] [(2, x)] S h n) ∧
  (∀ (d : Nat) (a : Int) (l0 : Option mx_V) (S h : mx_H) (n : Int), mx_ex d 70 189 [l0] [(2, a)] S h n = mx_gd (10 ≤ S a (-2) ∧ S a (-2) ≤ 10) d 70 192 [l0] [(0, h a 5)] S h n) ∧
  (∀ (d : Nat) (x : Int) (v0 : mx_V) (S h : mx_H) (n : Int), mx_ex d 70 192 [some (2, x)] [v0] S h n = mx_ex d 70 193 [some (2, x)] [(2, x), v0] S h n) ∧
  (∀ (d : Nat) (a : Int) (l0 : Option mx_V) (v1 : mx_V) (S h : mx_H) (n : Int), mx_ex d 70 193 [l0] [(2, a), v1] S h n = mx_gd (10 ≤ S a (-2) ∧ S a (-2) ≤ 10) d 70 196 [l0] [(0, h a 1), v1] S h n) ∧
  (∀ (d : Nat) (b a : Int) (l0 : Option mx_V) (S h : mx_H) (n : Int), mx_ex d 70 196 [l0] [(0, b), (0, a)] S h n = mx_ex d 70 197 [l0] [(0, mx_w (a - b))] S h n) ∧
  (∀ (d : Nat) (l0 : Option mx_V) (v0 : mx_V) (S h : mx_H) (n : Int), mx_ex d 70 197 [l0] [v0] S h n = mx_ex d 70 198 [l0] [(0, 2), v0] S h n) ∧
  (∀ (d : Nat) (b a : Int) (l0 : Option mx_V) (S h : mx_H) (n : Int), mx_ex d 70 198 [l0] [(0, b), (0, a)] S h n = mx_br (b < a) d 70 240 201 [l0] [] S h n) ∧
  (∀ (d : Nat) (x : Int) (S h : mx_H) (n : Int), mx_ex d 70 201 [some (2, x)] [] S h n = mx_ex d 70 202 [some (2, x)] [(2, x)] S h n) ∧
  (∀ (d : Nat) (x : Int) (v0 : mx_V) (S h : mx_H) (n : Int), mx_ex d 70 202 [some (2, x)] [v0] S h n = mx_ex d 70 203 [some (2, x)] [(2, x), v0] S h n) ∧
  (∀ (d : Nat) (a : Int) (l0 : Option mx_V) (v1 : mx_V) (S h : mx_H) (n : Int), mx_ex (d + 1) 70 203 [l0] [(2, a), v1] S h n = mx_cl (S a (-2) = 10) d 71 [(2, a)] 70 206 [l0] [v1] S h n) ∧
  (∀ (d : Nat) (v a : Int) (l0 : Option mx_V) (S h : mx_H) (n : Int), mx_ex d 70 206 [l0] [(0, v), (2, a)] S h n = mx_gd (10 ≤ S a (-2) ∧ S a (-2) ≤ 10) d 70 209 [l0] [] S (mx_u h a 7 v) n) ∧
  (∀ (d : Nat) (l0 : Option mx_V) (S h : mx_H) (n : Int), mx_ex d 70 209 [l0] [] S h n = mx_ex d 70 240 [l0] [] S h n) ∧
  (∀ (d : Nat) (x : Int) (S h : mx_H) (n : Int), mx_ex d 70 212 [some (2, x)] [] S h n = mx_ex d 70 213 [some (2, x)] [(2, x)] S h n) ∧
  (∀ (d : Nat) (l0 : Option mx_V) (v0 : mx_V) (S h : mx_H) (n : Int), mx_ex d 70 213 [l0] [v0] S h n = mx_ex d 70 214 [l0] [(0, 3), v0] S h n) ∧
  (∀ (d : Nat) (v a : Int) (l0 : Option mx_V) (S h : mx_H) (n : Int), mx_ex d 70 214 [l0] [(0, v), (2, a)] S h n = mx_gd (10 ≤ S a (-2) ∧ S a (-2) ≤ 10) d 70 217 [l0] [] S (mx_u h a 6 v) n) ∧
  (∀ (d : Nat) (x : Int) (S h : mx_H) (n : Int), mx_ex d 70 217 [some (2, x)] [] S h n = mx_ex d 70 218 [some (2, x)] [(2, x)] S h n) ∧
  (∀ (d : Nat) (x : Int) (v0 : mx_V) (S h : mx_H) (n : Int), mx_ex d 70 218 [some (2, x)] [v0] S h n = mx_ex d 70 219 [some (2, x)] [(2, x), v0] S h n) ∧
  (∀ (d : Nat) (a : Int) (l0 : Option mx_V) (v1 : mx_V) (S h : mx_H) (n : Int), mx_ex d 70 219 [l0] [(2, a), v1] S h n = mx_gd (10 ≤ S a (-2) ∧ S a (-2) ≤ 10) d 70 222 [l0] [(2, S a 3), v1] S h n) ∧
  (∀ (d : Nat) (x : Int) (v0 v1 : mx_V) (S h : mx_H) (n : Int), mx_ex d 70 222 [some (2, x)] [v0, v1] S h n = mx_ex d 70 223 [some (2, x)] [(2, x), v0, v1] S h n) ∧
  (∀ (d : Nat) (a : Int) (l0 : Option mx_V) (v1 v2 : mx_V) (S h : mx_H) (n : Int), mx_ex d 70 223 [l0] [(2, a), v1, v2] S h n = mx_gd (10 ≤ S a (-2) ∧ S a (-2) ≤ 10) d 70 226 [l0] [(0, h a 5), v1, v2] S h n) ∧
  (∀ (d : Nat) (i a : Int) (l0 : Option mx_V) (v2 : mx_V) (S h : mx_H) (n : Int), mx_ex d 70 226 [l0] [(0, i), (2, a), v2] S h n = mx_gd ((S a (-2) = 20 ∨ S a (-2) = 24) ∧ 0 ≤ i ∧ i < S a (-1)) d 70 227 [l0] [(0, h a i), v2] S h n) ∧
  (∀ (d : Nat) (v a : Int) (l0 : Option mx_V) (S h : mx_H) (n : Int), mx_ex d 70 227 [l0] [(0, v), (2, a)] S h n = mx_gd (10 ≤ S a (-2) ∧ S a (-2) ≤ 10) d 70 230 [l0] [] S (mx_u h a 7 v) n) ∧
  (∀ (d : Nat) (x : Int) (S h : mx_H) (n : Int), mx_ex d 70 230 [some (2, x)] [] S h n = mx_ex d 70 231 [some (2, x)] [(2, x)] S h n) ∧
  (∀ (d : Nat) (a : Int) (l0 : Option mx_V) (S h : mx_H) (n : Int), mx_ex d 70 231 [l0] [(2, a)] S h n = mx_ex d 70 232 [l0] [(2, a), (2, a)] S h n) ∧
  (∀ (d : Nat) (a : Int) (l0 : Option mx_V) (v1 : mx_V) (S h : mx_H) (n : Int), mx_ex d 70 232 [l0] [(2, a), v1] S h n = mx_gd (10 ≤ S a (-2) ∧ S a (-2) ≤ 10) d 70 235 [l0] [(0, h a 5), v1] S h n) ∧
  (∀ (d : Nat) (l0 : Option mx_V) (v0 v1 : mx_V) (S h : mx_H) (n : Int), mx_ex d 70 235 [l0] [v0, v1] S h n = mx_ex d 70 236 [l0] [(0, 1), v0, v1] S h n) ∧
  (∀ (d : Nat) (b a : Int) (l0 : Option mx_V) (v2 : mx_V) (S h : mx_H) (n : Int), mx_ex d 70 236 [l0] [(0, b), (0, a), v2] S h n = mx_ex d 70 237 [l0] [(0, mx_w (a + b)), v2] S h n) ∧
  (∀ (d : Nat) (v a : Int) (l0 : Option mx_V) (S h : mx_H) (n : Int), mx_ex d 70 237 [l0] [(0, v), (2, a)] S h n = mx_gd (10 ≤ S a (-2) ∧ S a (-2) ≤ 10) d 70 240 [l0] [] S (mx_u h a 5 v) n) ∧
  (∀ (d : Nat) (l0 : Option mx_V) (S h : mx_H) (n : Int), mx_ex d 70 240 [l0] [] S h n = some (none, S, h, n)) :=
  ⟨by intros; exact eq_ld rfl rfl,
   by intros; exact eq_push rfl,
   by intros; exact eq_pi rfl,
   by intros; exact eq_gi rfl,
   by intros; exact eq_ld rfl rfl,
   by intros; exact eq_gi rfl,
   by intros; exact eq_ic3 rfl,
   by intros; exact eq_ld rfl rfl,
   by intros; exact eq_gr rfl,
   by intros; exact eq_ld rfl rfl,
   by intros; exact eq_gi rfl,
   by intros; exact eq_iald rfl,
   by intros; exact eq_cs rfl (Nat.le_of_ble_eq_true rfl) rfl rfl rfl (Nat.le_of_ble_eq_true rfl),
   by intros; exact eq_if0 rfl,
   by intros; exact eq_ld rfl rfl,
   by intros; exact eq_dup rfl (by decide),
   by intros; exact eq_gi rfl,
   by intros; exact eq_push rfl,
   by intros; exact eq_i2 (o := mx_add) rfl,
   by intros; exact eq_pi rfl,
   by intros; exact eq_go rfl,
   by intros; exact eq_ld rfl rfl,
   by intros; exact eq_gi rfl,
   by intros; exact eq_ld rfl rfl,
   by intros; exact eq_gi rfl,
   by intros; exact eq_i2 (o := mx_sub) rfl,
   by intros; exact eq_push rfl,
   by intros; exact eq_ic4 rfl,
   by intros; exact eq_ld rfl rfl,
   by intros; exact eq_ld rfl rfl,
   by intros; exact eq_cv rfl (Nat.le_of_ble_eq_true rfl) rfl rfl rfl (Nat.le_of_ble_eq_true rfl),
   by intros; exact eq_pi rfl,
   by intros; exact eq_go rfl,
   by intros; exact eq_ld rfl rfl,
   by intros; exact eq_push rfl,
   by intros; exact eq_pi rfl,
   by intros; exact eq_ld rfl rfl,
   by intros; exact eq_ld rfl rfl,
   by intros; exact eq_gr rfl,
   by intros; exact eq_ld rfl rfl,
   by intros; exact eq_gi rfl,
   by intros; exact eq_iald rfl,
   by intros; exact eq_pi rfl,
   by intros; exact eq_ld rfl rfl,
   by intros; exact eq_dup rfl (by decide),
   by intros; exact eq_gi rfl,
   by intros; exact eq_push rfl,
   by intros; exact eq_i2 (o := mx_add) rfl,
   by intros; exact eq_pi rfl,
   by intros; exact eq_retv rfl⟩
theorem rh_X7_digitsWorth_7 : ∀ (d : Nat) (x : Int) (l0 l1 : Option mx_V) (S h : mx_H) (n : Int), mx_ex d 71 7 [l0, l1, some (0, x)] [] S h n = mx_ex d 71 8 [l0, l1, some (0, x)] [(0, x)] S h n := by intros; exact eq_ld rfl rfl
theorem rw_X7_digitsWorth :
  (∀ (d : Nat) (a0 : Int) (S h : mx_H) (n : Int), mx_M d 71 [(2, a0)] S h n = mx_ex d 71 0 [some (2, a0), none, none] [] S h n) ∧
  (∀ (d : Nat) (l0 l1 l2 : Option mx_V) (S h : mx_H) (n : Int), mx_ex d 71 0 [l0, l1, l2] [] S h n = mx_ex d 71 1 [l0, l1, l2] [(0, 0)] S h n) ∧
  (∀ (d : Nat) (x : Int) (l0 l1 l2 : Option mx_V) (S h : mx_H) (n : Int), mx_ex d 71 1 [l0, l1, l2] [(0, x)] S h n = mx_ex d 71 2 [mx_nl l0, some (0, x), l2] [] S h n) ∧
  (∀ (d : Nat) (x : Int) (l1 l2 : Option mx_V) (S h : mx_H) (n : Int), mx_ex d 71 2 [some (2, x), l1, l2] [] S h n = mx_ex d 71 3 [some (2, x), l1, l2] [(2, x)] S h n) ∧
  (∀ (d : Nat) (a : Int) (l0 l1 l2 : Option mx_V) (S h : mx_H) (n : Int), mx_ex d 71 3 [l0, l1, l2] [(2, a)] S h n = mx_gd (10 ≤ S a (-2) ∧ S a (-2) ≤ 10) d 71 6 [l0, l1, l2] [(0, h a 1)] S h n) ∧
  (∀ (d : Nat) (x : Int) (l0 l1 l2 : Option mx_V) (S h : mx_H) (n : Int), mx_ex d 71 6 [l0, l1, l2] [(0, x)] S h n = mx_ex d 71 7 [l0, mx_nl l1, some (0, x)] [] S h n) ∧
  (∀ (d : Nat) (x : Int) (l1 l2 : Option mx_V) (v0 : mx_V) (S h : mx_H) (n : Int), mx_ex d 71 8 [some (2, x), l1, l2] [v0] S h n = mx_ex d 71 9 [some (2, x), l1, l2] [(2, x), v0] S h n) ∧
  (∀ (d : Nat) (a : Int) (l0 l1 l2 : Option mx_V) (v1 : mx_V) (S h : mx_H) (n : Int), mx_ex d 71 9 [l0, l1, l2] [(2, a), v1] S h n = mx_gd (10 ≤ S a (-2) ∧ S a (-2) ≤ 10) d 71 12 [l0, l1, l2] [(0, h a 5), v1] S h n) ∧
  (∀ (d : Nat) (b a : Int) (l0 l1 l2 : Option mx_V) (S h : mx_H) (n : Int), mx_ex d 71 12 [l0, l1, l2] [(0, b), (0, a)] S h n = mx_br (a < b) d 71 15 36 [l0, l1, l2] [] S h n) ∧
  (∀ (d : Nat) (x : Int) (l0 l2 : Option mx_V) (S h : mx_H) (n : Int), mx_ex d 71 15 [l0, some (0, x), l2] [] S h n = mx_ex d 71 16 [l0, some (0, x), l2] [(0, x)] S h n) ∧
  (∀ (d : Nat) (l0 l1 l2 : Option mx_V) (v0 : mx_V) (S h : mx_H) (n : Int), mx_ex d 71 16 [l0, l1, l2] [v0] S h n = mx_ex d 71 18 [l0, l1, l2] [(0, 10), v0] S h n) ∧
  (∀ (d : Nat) (b a : Int) (l0 l1 l2 : Option mx_V) (S h : mx_H) (n : Int), mx_ex d 71 18 [l0, l1, l2] [(0, b), (0, a)] S h n = mx_ex d 71 19 [l0, l1, l2] [(0, mx_w (a * b))] S h n) ∧
  (∀ (d : Nat) (x : Int) (l1 l2 : Option mx_V) (v0 : mx_V) (S h : mx_H) (n : Int), mx_ex d 71 19 [some (2, x), l1, l2] [v0] S h n = mx_ex d 71 20 [some (2, x), l1, l2] [(2, x), v0] S h n) ∧
  (∀ (d : Nat) (a : Int) (l0 l1 l2 : Option mx_V) (v1 : mx_V) (S h : mx_H) (n : Int), mx_ex d 71 20 [l0, l1, l2] [(2, a), v1] S h n = mx_gd (10 ≤ S a (-2) ∧ S a (-2) ≤ 10) d 71 23 [l0, l1, l2] [(2, S a 3), v1] S h n) ∧
  (∀ (d : Nat) (x : Int) (l0 l1 : Option mx_V) (v0 v1 : mx_V) (S h : mx_H) (n : Int), mx_ex d 71 23 [l0, l1, some (0, x)] [v0, v1] S h n = mx_ex d 71 24 [l0, l1, some (0, x)] [(0, x), v0, v1] S h n) ∧
  (∀ (d : Nat) (i a : Int) (l0 l1 l2 : Option mx_V) (v2 : mx_V) (S h : mx_H) (n : Int), mx_ex d 71 24 [l0, l1, l2] [(0, i), (2, a), v2] S h n = mx_gd ((S a (-2) = 20 ∨ S a (-2) = 24) ∧ 0 ≤ i ∧ i < S a (-1)) d 71 25 [l0, l1, l2] [(0, h a i), v2] S h n) ∧
  (∀ (d : Nat) (b a : Int) (l0 l1 l2 : Option mx_V) (S h : mx_H) (n : Int), mx_ex d 71 25 [l0, l1, l2] [(0, b), (0, a)] S h n = mx_ex d 71 26 [l0, l1, l2] [(0, mx_w (a + b))] S h n) ∧
  (∀ (d : Nat) (l0 l1 l2 : Option mx_V) (v0 : mx_V) (S h : mx_H) (n : Int), mx_ex d 71 26 [l0, l1, l2] [v0] S h n = mx_ex d 71 28 [l0, l1, l2] [(0, 48), v0] S h n) ∧
  (∀ (d : Nat) (b a : Int) (l0 l1 l2 : Option mx_V) (S h : mx_H) (n : Int), mx_ex d 71 28 [l0, l1, l2] [(0, b), (0, a)] S h n = mx_ex d 71 29 [l0, l1, l2] [(0, mx_w (a - b))] S h n) ∧
  (∀ (d : Nat) (x : Int) (l0 l1 l2 : Option mx_V) (S h : mx_H) (n : Int), mx_ex d 71 29 [l0, l1, l2] [(0, x)] S h n = mx_ex d 71 30 [mx_nl l0, some (0, x), l2] [] S h n) ∧
  (∀ (d : Nat) (x : Int) (l0 l1 : Option mx_V) (S h : mx_H) (n : Int), mx_ex d 71 30 [l0, l1, some (0, x)] [] S h n = mx_ex d 71 33 [l0, mx_nl l1, some (0, mx_w (x + 1))] [] S h n) ∧
  (∀ (d : Nat) (l0 l1 l2 : Option mx_V) (S h : mx_H) (n : Int), mx_ex d 71 33 [l0, l1, l2] [] S h n = mx_ex d 71 7 [l0, l1, l2] [] S h n) ∧
  (∀ (d : Nat) (x : Int) (l0 l2 : Option mx_V) (S h : mx_H) (n : Int), mx_ex d 71 36 [l0, some (0, x), l2] [] S h n = mx_ex d 71 37 [l0, some (0, x), l2] [(0, x)] S h n) ∧
  (∀ (d : Nat) (x : Int) (l0 l1 l2 : Option mx_V) (S h : mx_H) (n : Int), mx_ex d 71 37 [l0, l1, l2] [(0, x)] S h n = some (some (0, x), S, h, n)) :=
  ⟨by intros; exact rfl,
   by intros; exact eq_push rfl,
   by intros; exact eq_st rfl (by decide) (Nat.le_of_ble_eq_true rfl) rfl,
   by intros; exact eq_ld rfl rfl,
   by intros; exact eq_gi rfl,
   by intros; exact eq_st rfl (by decide) (Nat.le_of_ble_eq_true rfl) rfl,
   by intros; exact eq_ld rfl rfl,
   by intros; exact eq_gi rfl,
   by intros; exact eq_ic3 rfl,
   by intros; exact eq_ld rfl rfl,
   by intros; exact eq_push rfl,
   by intros; exact eq_i2 (o := mx_mul) rfl,
   by intros; exact eq_ld rfl rfl,
   by intros; exact eq_gr rfl,
   by intros; exact eq_ld rfl rfl,
   by intros; exact eq_iald rfl,
   by intros; exact eq_i2 (o := mx_add) rfl,
   by intros; exact eq_push rfl,
   by intros; exact eq_i2 (o := mx_sub) rfl,
   by intros; exact eq_st rfl (by decide) (Nat.le_of_ble_eq_true rfl) rfl,
   by intros; exact eq_inc rfl rfl rfl,
   by intros; exact eq_go rfl,
   by intros; exact eq_ld rfl rfl,
   by intros; exact eq_ret rfl⟩
theorem rw_X7_isLetter :
  (∀ (d : Nat) (a0 : Int) (S h : mx_H) (n : Int), mx_M d 72 [(0, a0)] S h n = mx_ex d 72 0 [some (0, a0)] [] S h n) ∧
  (∀ (d : Nat) (x : Int) (S h : mx_H) (n : Int), mx_ex d 72 0 [some (0, x)] [] S h n = mx_ex d 72 1 [some (0, x)] [(0, x)] S h n) ∧
  (∀ (d : Nat) (l0 : Option mx_V) (v0 : mx_V) (S h : mx_H) (n : Int), mx_ex d 72 1 [l0] [v0] S h n = mx_ex d 72 3 [l0] [(0, 97), v0] S h n) ∧
  (∀ (d : Nat) (b a : Int) (l0 : Option mx_V) (S h : mx_H) (n : Int), mx_ex d 72 3 [l0] [(0, b), (0, a)] S h n = mx_br (a < b) d 72 16 6 [l0] [] S h n) ∧
  (∀ (d : Nat) (x : Int) (S h : mx_H) (n : Int), mx_ex d 72 6 [some (0, x)] [] S h n = mx_ex d 72 7 [some (0, x)] [(0, x)] S h n) ∧
  (∀ (d : Nat) (l0 : Option mx_V) (v0 : mx_V) (S h : mx_H) (n : Int), mx_ex d 72 7 [l0] [v0] S h n = mx_ex d 72 9 [l0] [(0, 122), v0] S h n) ∧
  (∀ (d : Nat) (b a : Int) (l0 : Option mx_V) (S h : mx_H) (n : Int), mx_ex d 72 9 [l0] [(0, b), (0, a)] S h n = mx_br (b < a) d 72 16 12 [l0] [] S h n) ∧
  (∀ (d : Nat) (l0 : Option mx_V) (S h : mx_H) (n : Int), mx_ex d 72 12 [l0] [] S h n = mx_ex d 72 13 [l0] [(0, 1)] S h n) ∧
  (∀ (d : Nat) (l0 : Option mx_V) (v0 : mx_V) (S h : mx_H) (n : Int), mx_ex d 72 13 [l0] [v0] S h n = mx_ex d 72 17 [l0] [v0] S h n) ∧
  (∀ (d : Nat) (l0 : Option mx_V) (S h : mx_H) (n : Int), mx_ex d 72 16 [l0] [] S h n = mx_ex d 72 17 [l0] [(0, 0)] S h n) ∧
  (∀ (d : Nat) (x : Int) (l0 : Option mx_V) (S h : mx_H) (n : Int), mx_ex d 72 17 [l0] [(0, x)] S h n = mx_re (0 ≤ x ∧ x ≤ 1) (some (0, x)) S h n) :=
  ⟨by intros; exact rfl,
   by intros; exact eq_ld rfl rfl,
   by intros; exact eq_push rfl,
   by intros; exact eq_ic2 rfl,
   by intros; exact eq_ld rfl rfl,
   by intros; exact eq_push rfl,
   by intros; exact eq_ic4 rfl,
   by intros; exact eq_push rfl,
   by intros; exact eq_go rfl,
   by intros; exact eq_push rfl,
   by intros; exact eq_rr rfl⟩
theorem rw_X7_isDigit :
  (∀ (d : Nat) (a0 : Int) (S h : mx_H) (n : Int), mx_M d 73 [(0, a0)] S h n = mx_ex d 73 0 [some (0, a0)] [] S h n) ∧
  (∀ (d : Nat) (x : Int) (S h : mx_H) (n : Int), mx_ex d 73 0 [some (0, x)] [] S h n = mx_ex d 73 1 [some (0, x)] [(0, x)] S h n) ∧
  (∀ (d : Nat) (l0 : Option mx_V) (v0 : mx_V) (S h : mx_H) (n : Int), mx_ex d 73 1 [l0] [v0] S h n = mx_ex d 73 3 [l0] [(0, 48), v0] S h n) ∧
  (∀ (d : Nat) (b a : Int) (l0 : Option mx_V) (S h : mx_H) (n : Int), mx_ex d 73 3 [l0] [(0, b), (0, a)] S h n = mx_br (a < b) d 73 16 6 [l0] [] S h n) ∧
  (∀ (d : Nat) (x : Int) (S h : mx_H) (n : Int), mx_ex d 73 6 [some (0, x)] [] S h n = mx_ex d 73 7 [some (0, x)] [(0, x)] S h n) ∧
  (∀ (d : Nat) (l0 : Option mx_V) (v0 : mx_V) (S h : mx_H) (n : Int), mx_ex d 73 7 [l0] [v0] S h n = mx_ex d 73 9 [l0] [(0, 57), v0] S h n) ∧
  (∀ (d : Nat) (b a : Int) (l0 : Option mx_V) (S h : mx_H) (n : Int), mx_ex d 73 9 [l0] [(0, b), (0, a)] S h n = mx_br (b < a) d 73 16 12 [l0] [] S h n) ∧
  (∀ (d : Nat) (l0 : Option mx_V) (S h : mx_H) (n : Int), mx_ex d 73 12 [l0] [] S h n = mx_ex d 73 13 [l0] [(0, 1)] S h n) ∧
  (∀ (d : Nat) (l0 : Option mx_V) (v0 : mx_V) (S h : mx_H) (n : Int), mx_ex d 73 13 [l0] [v0] S h n = mx_ex d 73 17 [l0] [v0] S h n) ∧
  (∀ (d : Nat) (l0 : Option mx_V) (S h : mx_H) (n : Int), mx_ex d 73 16 [l0] [] S h n = mx_ex d 73 17 [l0] [(0, 0)] S h n) ∧
  (∀ (d : Nat) (x : Int) (l0 : Option mx_V) (S h : mx_H) (n : Int), mx_ex d 73 17 [l0] [(0, x)] S h n = mx_re (0 ≤ x ∧ x ≤ 1) (some (0, x)) S h n) :=
  ⟨by intros; exact rfl,
   by intros; exact eq_ld rfl rfl,
   by intros; exact eq_push rfl,
   by intros; exact eq_ic2 rfl,
   by intros; exact eq_ld rfl rfl,
   by intros; exact eq_push rfl,
   by intros; exact eq_ic4 rfl,
   by intros; exact eq_push rfl,
   by intros; exact eq_go rfl,
   by intros; exact eq_push rfl,
   by intros; exact eq_rr rfl⟩
theorem rw_X10_init :
  (∀ (d : Nat) (a0 : Int) (S h : mx_H) (n : Int), mx_M d 84 [(2, a0)] S h n = mx_ex d 84 0 [some (2, a0)] [] S h n) ∧
  (∀ (d : Nat) (x : Int) (S h : mx_H) (n : Int), mx_ex d 84 0 [some (2, x)] [] S h n = mx_ex d 84 1 [some (2, x)] [(2, x)] S h n) ∧
  (∀ (d : Nat) (a : Int) (l0 : Option mx_V) (S h : mx_H) (n : Int), mx_ex d 84 1 [l0] [(2, a)] S h n = mx_gd (0 ≤ a) d 84 4 [l0] [] S h n) ∧
  (∀ (d : Nat) (x : Int) (S h : mx_H) (n : Int), mx_ex d 84 4 [some (2, x)] [] S h n = mx_ex d 84 5 [some (2, x)] [(2, x)] S h n) ∧
  (∀ (d : Nat) (l0 : Option mx_V) (v0 : mx_V) (S h : mx_H) (n : Int), mx_ex d 84 5 [l0] [v0] S h n = mx_ex d 84 6 [l0] [(0, 3), v0] S h n) ∧
  (∀ (d : Nat) (x : Int) (l0 : Option mx_V) (v1 : mx_V) (S h : mx_H) (n : Int), mx_ex d 84 6 [l0] [(0, x), v1] S h n = mx_gd (0 ≤ x ∧ x ≤ 300) d 84 8 [l0] [(2, n), v1] (mx_t S n 20 x) (mx_z h n) (n + 1)) ∧
  (∀ (d : Nat) (v a : Int) (l0 : Option mx_V) (S h : mx_H) (n : Int), mx_ex d 84 8 [l0] [(2, v), (2, a)] S h n = mx_gd (8 ≤ S a (-2) ∧ S a (-2) ≤ 8) d 84 11 [l0] [] (mx_u S a 0 v) h n) ∧
  (∀ (d : Nat) (x : Int) (S h : mx_H) (n : Int), mx_ex d 84 11 [some (2, x)] [] S h n = mx_ex d 84 12 [some (2, x)] [(2, x)] S h n) ∧
  (∀ (d : Nat) (l0 : Option mx_V) (v0 : mx_V) (S h : mx_H) (n : Int), mx_ex d 84 12 [l0] [v0] S h n = mx_ex d 84 13 [l0] [(0, 3), v0] S h n) ∧
  (∀ (d : Nat) (x : Int) (l0 : Option mx_V) (v1 : mx_V) (S h : mx_H) (n : Int), mx_ex d 84 13 [l0] [(0, x), v1] S h n = mx_gd (0 ≤ x ∧ x ≤ 300) d 84 15 [l0] [(2, n), v1] (mx_t S n 20 x) (mx_z h n) (n + 1)) ∧
  (∀ (d : Nat) (v a : Int) (l0 : Option mx_V) (S h : mx_H) (n : Int), mx_ex d 84 15 [l0] [(2, v), (2, a)] S h n = mx_gd (8 ≤ S a (-2) ∧ S a (-2) ≤ 8) d 84 18 [l0] [] (mx_u S a 1 v) h n) ∧
  (∀ (d : Nat) (x : Int) (S h : mx_H) (n : Int), mx_ex d 84 18 [some (2, x)] [] S h n = mx_ex d 84 19 [some (2, x)] [(2, x)] S h n) ∧
  (∀ (d : Nat) (l0 : Option mx_V) (v0 : mx_V) (S h : mx_H) (n : Int), mx_ex d 84 19 [l0] [v0] S h n = mx_ex d 84 21 [l0] [(0, 24), v0] S h n) ∧
  (∀ (d : Nat) (x : Int) (l0 : Option mx_V) (v1 : mx_V) (S h : mx_H) (n : Int), mx_ex d 84 21 [l0] [(0, x), v1] S h n = mx_gd (0 ≤ x ∧ x ≤ 300) d 84 23 [l0] [(2, n), v1] (mx_t S n 20 x) (mx_z h n) (n + 1)) ∧
  (∀ (d : Nat) (v a : Int) (l0 : Option mx_V) (S h : mx_H) (n : Int), mx_ex d 84 23 [l0] [(2, v), (2, a)] S h n = mx_gd (8 ≤ S a (-2) ∧ S a (-2) ≤ 8) d 84 26 [l0] [] (mx_u S a 2 v) h n) ∧
  (∀ (d : Nat) (x : Int) (S h : mx_H) (n : Int), mx_ex d 84 26 [some (2, x)] [] S h n = mx_ex d 84 27 [some (2, x)] [(2, x)] S h n) ∧
  (∀ (d : Nat) (l0 : Option mx_V) (v0 : mx_V) (S h : mx_H) (n : Int), mx_ex d 84 27 [l0] [v0] S h n = mx_ex d 84 28 [l0] [(0, 0), v0] S h n) ∧
  (∀ (d : Nat) (v a : Int) (l0 : Option mx_V) (S h : mx_H) (n : Int), mx_ex d 84 28 [l0] [(0, v), (2, a)] S h n = mx_gd (8 ≤ S a (-2) ∧ S a (-2) ≤ 8) d 84 31 [l0] [] S (mx_u h a 3 v) n) ∧
  (∀ (d : Nat) (x : Int) (S h : mx_H) (n : Int), mx_ex d 84 31 [some (2, x)] [] S h n = mx_ex d 84 32 [some (2, x)] [(2, x)] S h n) ∧
  (∀ (d : Nat) (l0 : Option mx_V) (v0 : mx_V) (S h : mx_H) (n : Int), mx_ex d 84 32 [l0] [v0] S h n = mx_ex d 84 33 [l0] [(0, 0), v0] S h n) ∧
  (∀ (d : Nat) (v a : Int) (l0 : Option mx_V) (S h : mx_H) (n : Int), mx_ex d 84 33 [l0] [(0, v), (2, a)] S h n = mx_gd (8 ≤ S a (-2) ∧ S a (-2) ≤ 8) d 84 36 [l0] [] S (mx_u h a 4 v) n) ∧
  (∀ (d : Nat) (x : Int) (S h : mx_H) (n : Int), mx_ex d 84 36 [some (2, x)] [] S h n = mx_ex d 84 37 [some (2, x)] [(2, x)] S h n) ∧
  (∀ (d : Nat) (l0 : Option mx_V) (v0 : mx_V) (S h : mx_H) (n : Int), mx_ex d 84 37 [l0] [v0] S h n = mx_ex d 84 38 [l0] [(0, 0), v0] S h n) ∧
  (∀ (d : Nat) (v a : Int) (l0 : Option mx_V) (S h : mx_H) (n : Int), mx_ex d 84 38 [l0] [(0, v), (2, a)] S h n = mx_gd (8 ≤ S a (-2) ∧ S a (-2) ≤ 8) d 84 41 [l0] [] S (mx_u h a 5 v) n) ∧
  (∀ (d : Nat) (x : Int) (S h : mx_H) (n : Int), mx_ex d 84 41 [some (2, x)] [] S h n = mx_ex d 84 42 [some (2, x)] [(2, x)] S h n) ∧
  (∀ (d : Nat) (l0 : Option mx_V) (v0 : mx_V) (S h : mx_H) (n : Int), mx_ex d 84 42 [l0] [v0] S h n = mx_ex d 84 44 [l0] [(0, 6), v0] S h n) ∧
  (∀ (d : Nat) (x : Int) (l0 : Option mx_V) (v1 : mx_V) (S h : mx_H) (n : Int), mx_ex d 84 44 [l0] [(0, x), v1] S h n = mx_gd (0 ≤ x ∧ x ≤ 300) d 84 47 [l0] [(2, n), v1] (mx_t S n 22 x) (mx_z h n) (n + 1)) ∧
  (∀ (d : Nat) (v a : Int) (l0 : Option mx_V) (S h : mx_H) (n : Int), mx_ex d 84 47 [l0] [(2, v), (2, a)] S h n = mx_gd (8 ≤ S a (-2) ∧ S a (-2) ≤ 8) d 84 50 [l0] [] (mx_u S a 6 v) h n) ∧
  (∀ (d : Nat) (x : Int) (S h : mx_H) (n : Int), mx_ex d 84 50 [some (2, x)] [] S h n = mx_ex d 84 51 [some (2, x)] [(2, x)] S h n) ∧
  (∀ (d : Nat) (a : Int) (l0 : Option mx_V) (S h : mx_H) (n : Int), mx_ex d 84 51 [l0] [(2, a)] S h n = mx_gd (8 ≤ S a (-2) ∧ S a (-2) ≤ 8) d 84 54 [l0] [(2, S a 0)] S h n) ∧
  (∀ (d : Nat) (l0 : Option mx_V) (v0 : mx_V) (S h : mx_H) (n : Int), mx_ex d 84 54 [l0] [v0] S h n = mx_ex d 84 55 [l0] [(0, 2), v0] S h n) ∧
  (∀ (d : Nat) (x0 x1 : Int) (l0 : Option mx_V) (S h : mx_H) (n : Int), mx_ex (d + 1) 84 55 [l0] [(0, x0), (2, x1)] S h n = mx_rt (mx_M d 255 [(2, x1), (0, x0)] S h n) (d + 1) 84 58 [l0] []) ∧
  (∀ (d : Nat) (x : Int) (S h : mx_H) (n : Int), mx_ex d 84 58 [some (2, x)] [] S h n = mx_ex d 84 59 [some (2, x)] [(2, x)] S h n) ∧
  (∀ (d : Nat) (a : Int) (l0 : Option mx_V) (S h : mx_H) (n : Int), mx_ex d 84 59 [l0] [(2, a)] S h n = mx_gd (8 ≤ S a (-2) ∧ S a (-2) ≤ 8) d 84 62 [l0] [(2, S a 1)] S h n) ∧
  (∀ (d : Nat) (l0 : Option mx_V) (v0 : mx_V) (S h : mx_H) (n : Int), mx_ex d 84 62 [l0] [v0] S h n = mx_ex d 84 64 [l0] [(0, 16), v0] S h n) ∧
  (∀ (d : Nat) (x0 x1 : Int) (l0 : Option mx_V) (S h : mx_H) (n : Int), mx_ex (d + 1) 84 64 [l0] [(0, x0), (2, x1)] S h n = mx_rt (mx_M d 255 [(2, x1), (0, x0)] S h n) (d + 1) 84 67 [l0] []) ∧
  (∀ (d : Nat) (l0 : Option mx_V) (S h : mx_H) (n : Int), mx_ex d 84 67 [l0] [] S h n = some (none, S, h, n)) :=
  ⟨by intros; exact rfl,
   by intros; exact eq_ld rfl rfl,
   by intros; exact eq_oini rfl (Nat.le_of_ble_eq_true rfl),
   by intros; exact eq_ld rfl rfl,
   by intros; exact eq_push rfl,
   by intros; exact eq_newa rfl,
   by intros; exact eq_pr rfl,
   by intros; exact eq_ld rfl rfl,
   by intros; exact eq_push rfl,
   by intros; exact eq_newa rfl,
   by intros; exact eq_pr rfl,
   by intros; exact eq_ld rfl rfl,
   by intros; exact eq_push rfl,
   by intros; exact eq_newa rfl,
   by intros; exact eq_pr rfl,
   by intros; exact eq_ld rfl rfl,
   by intros; exact eq_push rfl,
   by intros; exact eq_pi rfl,
   by intros; exact eq_ld rfl rfl,
   by intros; exact eq_push rfl,
   by intros; exact eq_pi rfl,
   by intros; exact eq_ld rfl rfl,
   by intros; exact eq_push rfl,
   by intros; exact eq_pi rfl,
   by intros; exact eq_ld rfl rfl,
   by intros; exact eq_push rfl,
   by intros; exact eq_newa rfl,
   by intros; exact eq_pr rfl,
   by intros; exact eq_ld rfl rfl,
   by intros; exact eq_gr rfl,
   by intros; exact eq_push rfl,
   by intros; exact eq_cs rfl (Nat.le_of_ble_eq_true rfl) rfl rfl rfl (Nat.le_of_ble_eq_true rfl),
   by intros; exact eq_ld rfl rfl,
   by intros; exact eq_gr rfl,
   by intros; exact eq_push rfl,
   by intros; exact eq_cs rfl (Nat.le_of_ble_eq_true rfl) rfl rfl rfl (Nat.le_of_ble_eq_true rfl),
   by intros; exact eq_retv rfl⟩
theorem rw_X10_clear :
  (∀ (d : Nat) (a0 : Int) (S h : mx_H) (n : Int), mx_M d 85 [(2, a0)] S h n = mx_ex d 85 0 [some (2, a0)] [] S h n) ∧
  (∀ (d : Nat) (x : Int) (S h : mx_H) (n : Int), mx_ex d 85 0 [some (2, x)] [] S h n = mx_ex d 85 1 [some (2, x)] [(2, x)] S h n) ∧
  (∀ (d : Nat) (a : Int) (l0 : Option mx_V) (S h : mx_H) (n : Int), mx_ex d 85 1 [l0] [(2, a)] S h n = mx_gd (8 ≤ S a (-2) ∧ S a (-2) ≤ 8) d 85 4 [l0] [(2, S a 0)] S h n) ∧
  (∀ (d : Nat) (l0 : Option mx_V) (v0 : mx_V) (S h : mx_H) (n : Int), mx_ex d 85 4 [l0] [v0] S h n = mx_ex d 85 5 [l0] [(0, 2), v0] S h n) ∧
  (∀ (d : Nat) (x0 x1 : Int) (l0 : Option mx_V) (S h : mx_H) (n : Int), mx_ex (d + 1) 85 5 [l0] [(0, x0), (2, x1)] S h n = mx_rt (mx_M d 255 [(2, x1), (0, x0)] S h n) (d + 1) 85 8 [l0] []) ∧
  (∀ (d : Nat) (x : Int) (S h : mx_H) (n : Int), mx_ex d 85 8 [some (2, x)] [] S h n = mx_ex d 85 9 [some (2, x)] [(2, x)] S h n) ∧
  (∀ (d : Nat) (a : Int) (l0 : Option mx_V) (S h : mx_H) (n : Int), mx_ex d 85 9 [l0] [(2, a)] S h n = mx_gd (8 ≤ S a (-2) ∧ S a (-2) ≤ 8) d 85 12 [l0] [(2, S a 1)] S h n) ∧
  (∀ (d : Nat) (l0 : Option mx_V) (v0 : mx_V) (S h : mx_H) (n : Int), mx_ex d 85 12 [l0] [v0] S h n = mx_ex d 85 14 [l0] [(0, 16), v0] S h n) ∧
  (∀ (d : Nat) (x0 x1 : Int) (l0 : Option mx_V) (S h : mx_H) (n : Int), mx_ex (d + 1) 85 14 [l0] [(0, x0), (2, x1)] S h n = mx_rt (mx_M d 255 [(2, x1), (0, x0)] S h n) (d + 1) 85 17 [l0] []) ∧
  (∀ (d : Nat) (x : Int) (S h : mx_H) (n : Int), mx_ex d 85 17 [some (2, x)] [] S h n = mx_ex d 85 18 [some (2, x)] [(2, x)] S h n) ∧
  (∀ (d : Nat) (l0 : Option mx_V) (v0 : mx_V) (S h : mx_H) (n : Int), mx_ex d 85 18 [l0] [v0] S h n = mx_ex d 85 19 [l0] [(0, 0), v0] S h n) ∧
  (∀ (d : Nat) (v a : Int) (l0 : Option mx_V) (S h : mx_H) (n : Int), mx_ex d 85 19 [l0] [(0, v), (2, a)] S h n = mx_gd (8 ≤ S a (-2) ∧ S a (-2) ≤ 8) d 85 22 [l0] [] S (mx_u h a 3 v) n) ∧
  (∀ (d : Nat) (x : Int) (S h : mx_H) (n : Int), mx_ex d 85 22 [some (2, x)] [] S h n = mx_ex d 85 23 [some (2, x)] [(2, x)] S h n) ∧
  (∀ (d : Nat) (l0 : Option mx_V) (v0 : mx_V) (S h : mx_H) (n : Int), mx_ex d 85 23 [l0] [v0] S h n = mx_ex d 85 24 [l0] [(0, 0), v0] S h n) ∧
  (∀ (d : Nat) (v a : Int) (l0 : Option mx_V) (S h : mx_H) (n : Int), mx_ex d 85 24 [l0] [(0, v), (2, a)] S h n = mx_gd (8 ≤ S a (-2) ∧ S a (-2) ≤ 8) d 85 27 [l0] [] S (mx_u h a 4 v) n) ∧
  (∀ (d : Nat) (x : Int) (S h : mx_H) (n : Int), mx_ex d 85 27 [some (2, x)] [] S h n = mx_ex d 85 28 [some (2, x)] [(2, x)] S h n) ∧
  (∀ (d : Nat) (a : Int) (l0 : Option mx_V) (S h : mx_H) (n : Int), mx_ex d 85 28 [l0] [(2, a)] S h n = mx_ex d 85 29 [l0] [(2, a), (2, a)] S h n) ∧
  (∀ (d : Nat) (a : Int) (l0 : Option mx_V) (v1 : mx_V) (S h : mx_H) (n : Int), mx_ex d 85 29 [l0] [(2, a), v1] S h n = mx_gd (8 ≤ S a (-2) ∧ S a (-2) ≤ 8) d 85 32 [l0] [(0, h a 5), v1] S h n) ∧
  (∀ (d : Nat) (l0 : Option mx_V) (v0 v1 : mx_V) (S h : mx_H) (n : Int), mx_ex d 85 32 [l0] [v0, v1] S h n = mx_ex d 85 33 [l0] [(0, 1), v0, v1] S h n) ∧
  (∀ (d : Nat) (b a : Int) (l0 : Option mx_V) (v2 : mx_V) (S h : mx_H) (n : Int), mx_ex d 85 33 [l0] [(0, b), (0, a), v2] S h n = mx_ex d 85 34 [l0] [(0, mx_w (a + b)), v2] S h n) ∧
  (∀ (d : Nat) (v a : Int) (l0 : Option mx_V) (S h : mx_H) (n : Int), mx_ex d 85 34 [l0] [(0, v), (2, a)] S h n = mx_gd (8 ≤ S a (-2) ∧ S a (-2) ≤ 8) d 85 37 [l0] [] S (mx_u h a 5 v) n) ∧
  (∀ (d : Nat) (l0 : Option mx_V) (S h : mx_H) (n : Int), mx_ex d 85 37 [l0] [] S h n = some (none, S, h, n)) :=
  ⟨by intros; exact rfl,
   by intros; exact eq_ld rfl rfl,
   by intros; exact eq_gr rfl,
   by intros; exact eq_push rfl,
   by intros; exact eq_cs rfl (Nat.le_of_ble_eq_true rfl) rfl rfl rfl (Nat.le_of_ble_eq_true rfl),
   by intros; exact eq_ld rfl rfl,
   by intros; exact eq_gr rfl,
   by intros; exact eq_push rfl,
   by intros; exact eq_cs rfl (Nat.le_of_ble_eq_true rfl) rfl rfl rfl (Nat.le_of_ble_eq_true rfl),
   by intros; exact eq_ld rfl rfl,
   by intros; exact eq_push rfl,
   by intros; exact eq_pi rfl,
   by intros; exact eq_ld rfl rfl,
   by intros; exact eq_push rfl,
   by intros; exact eq_pi rfl,
   by intros; exact eq_ld rfl rfl,
   by intros; exact eq_dup rfl (by decide),
   by intros; exact eq_gi rfl,
   by intros; exact eq_push rfl,
   by intros; exact eq_i2 (o := mx_add) rfl,
   by intros; exact eq_pi rfl,
   by intros; exact eq_retv rfl⟩
theorem rh_X10_become_34 : ∀ (d : Nat) (x : Int) (l0 l1 l3 : Option mx_V) (S h : mx_H) (n : Int), mx_ex d 86 34 [l0, l1, some (0, x), l3] [] S h n = mx_ex d 86 35 [l0, l1, some (0, x), l3] [(0, x)] S h n := by intros; exact eq_ld rfl rfl
theorem rw_X10_become :
  (∀ (d : Nat) (a0 a1 : Int) (S h : mx_H) (n : Int), mx_M d 86 [(2, a0), (2, a1)] S h n = mx_ex d 86 0 [some (2, a0), some (2, a1), none, none] [] S h n) ∧
  (∀ (d : Nat) (x : Int) (l1 l2 l3 : Option mx_V) (S h : mx_H) (n : Int), mx_ex d 86 0 [some (2, x), l1, l2, l3] [] S h n = mx_ex d 86 1 [some (2, x), l1, l2, l3] [(2, x)] S h n) ∧
  (∀ (d : Nat) (a : Int) (l0 l1 l2 l3 : Option mx_V) (S h : mx_H) (n : Int), mx_ex (d + 1) 86 1 [l0, l1, l2, l3] [(2, a)] S h n = mx_cl (S a (-2) = 8) d 85 [(2, a)] 86 4 [l0, l1, l2, l3] [] S h n) ∧
  (∀ (d : Nat) (x : Int) (l0 l2 l3 : Option mx_V) (S h : mx_H) (n : Int), mx_ex d 86 4 [l0, some (2, x), l2, l3] [] S h n = mx_ex d 86 5 [l0, some (2, x), l2, l3] [(2, x)] S h n) ∧
  (∀ (d : Nat) (a : Int) (l0 l1 l2 l3 : Option mx_V) (S h : mx_H) (n : Int), mx_ex d 86 5 [l0, l1, l2, l3] [(2, a)] S h n = mx_gd (8 ≤ S a (-2) ∧ S a (-2) ≤ 8) d 86 8 [l0, l1, l2, l3] [(2, S a 0)] S h n) ∧
  (∀ (d : Nat) (l0 l1 l2 l3 : Option mx_V) (v0 : mx_V) (S h : mx_H) (n : Int), mx_ex d 86 8 [l0, l1, l2, l3] [v0] S h n = mx_ex d 86 9 [l0, l1, l2, l3] [(0, 0), v0] S h n) ∧
  (∀ (d : Nat) (x : Int) (l1 l2 l3 : Option mx_V) (v0 v1 : mx_V) (S h : mx_H) (n : Int), mx_ex d 86 9 [some (2, x), l1, l2, l3] [v0, v1] S h n = mx_ex d 86 10 [some (2, x), l1, l2, l3] [(2, x), v0, v1] S h n) ∧
  (∀ (d : Nat) (a : Int) (l0 l1 l2 l3 : Option mx_V) (v1 v2 : mx_V) (S h : mx_H) (n : Int), mx_ex d 86 10 [l0, l1, l2, l3] [(2, a), v1, v2] S h n = mx_gd (8 ≤ S a (-2) ∧ S a (-2) ≤ 8) d 86 13 [l0, l1, l2, l3] [(2, S a 0), v1, v2] S h n) ∧
  (∀ (d : Nat) (l0 l1 l2 l3 : Option mx_V) (v0 v1 v2 : mx_V) (S h : mx_H) (n : Int), mx_ex d 86 13 [l0, l1, l2, l3] [v0, v1, v2] S h n = mx_ex d 86 14 [l0, l1, l2, l3] [(0, 0), v0, v1, v2] S h n) ∧
  (∀ (d : Nat) (l0 l1 l2 l3 : Option mx_V) (v0 v1 v2 v3 : mx_V) (S h : mx_H) (n : Int), mx_ex d 86 14 [l0, l1, l2, l3] [v0, v1, v2, v3] S h n = mx_ex d 86 15 [l0, l1, l2, l3] [(0, 3), v0, v1, v2, v3] S h n) ∧
  (∀ (d : Nat) (x j b i a : Int) (l0 l1 l2 l3 : Option mx_V) (S h : mx_H) (n : Int), mx_ex d 86 15 [l0, l1, l2, l3] [(0, x), (0, j), (2, b), (0, i), (2, a)] S h n = mx_gd (S a (-2) = 20 ∧ S b (-2) = 20 ∧ 0 ≤ x ∧ 0 ≤ i ∧ 0 ≤ j ∧ i + x ≤ S a (-1) ∧ j + x ≤ S b (-1)) d 86 18 [l0, l1, l2, l3] [] S (mx_y h a i b j x) n) ∧
  (∀ (d : Nat) (x : Int) (l0 l2 l3 : Option mx_V) (S h : mx_H) (n : Int), mx_ex d 86 18 [l0, some (2, x), l2, l3] [] S h n = mx_ex d 86 19 [l0, some (2, x), l2, l3] [(2, x)] S h n) ∧
  (∀ (d : Nat) (a : Int) (l0 l1 l2 l3 : Option mx_V) (S h : mx_H) (n : Int), mx_ex d 86 19 [l0, l1, l2, l3] [(2, a)] S h n = mx_gd (8 ≤ S a (-2) ∧ S a (-2) ≤ 8) d 86 22 [l0, l1, l2, l3] [(2, S a 1)] S h n) ∧
  (∀ (d : Nat) (l0 l1 l2 l3 : Option mx_V) (v0 : mx_V) (S h : mx_H) (n : Int), mx_ex d 86 22 [l0, l1, l2, l3] [v0] S h n = mx_ex d 86 23 [l0, l1, l2, l3] [(0, 0), v0] S h n) ∧
  (∀ (d : Nat) (x : Int) (l1 l2 l3 : Option mx_V) (v0 v1 : mx_V) (S h : mx_H) (n : Int), mx_ex d 86 23 [some (2, x), l1, l2, l3] [v0, v1] S h n = mx_ex d 86 24 [some (2, x), l1, l2, l3] [(2, x), v0, v1] S h n) ∧
  (∀ (d : Nat) (a : Int) (l0 l1 l2 l3 : Option mx_V) (v1 v2 : mx_V) (S h : mx_H) (n : Int), mx_ex d 86 24 [l0, l1, l2, l3] [(2, a), v1, v2] S h n = mx_gd (8 ≤ S a (-2) ∧ S a (-2) ≤ 8) d 86 27 [l0, l1, l2, l3] [(2, S a 1), v1, v2] S h n) ∧
  (∀ (d : Nat) (l0 l1 l2 l3 : Option mx_V) (v0 v1 v2 : mx_V) (S h : mx_H) (n : Int), mx_ex d 86 27 [l0, l1, l2, l3] [v0, v1, v2] S h n = mx_ex d 86 28 [l0, l1, l2, l3] [(0, 0), v0, v1, v2] S h n) ∧
  (∀ (d : Nat) (l0 l1 l2 l3 : Option mx_V) (v0 v1 v2 v3 : mx_V) (S h : mx_H) (n : Int), mx_ex d 86 28 [l0, l1, l2, l3] [v0, v1, v2, v3] S h n = mx_ex d 86 29 [l0, l1, l2, l3] [(0, 3), v0, v1, v2, v3] S h n) ∧
  (∀ (d : Nat) (x j b i a : Int) (l0 l1 l2 l3 : Option mx_V) (S h : mx_H) (n : Int), mx_ex d 86 29 [l0, l1, l2, l3] [(0, x), (0, j), (2, b), (0, i), (2, a)] S h n = mx_gd (S a (-2) = 20 ∧ S b (-2) = 20 ∧ 0 ≤ x ∧ 0 ≤ i ∧ 0 ≤ j ∧ i + x ≤ S a (-1) ∧ j + x ≤ S b (-1)) d 86 32 [l0, l1, l2, l3] [] S (mx_y h a i b j x) n) ∧
  (∀ (d : Nat) (l0 l1 l2 l3 : Option mx_V) (S h : mx_H) (n : Int), mx_ex d 86 32 [l0, l1, l2, l3] [] S h n = mx_ex d 86 33 [l0, l1, l2, l3] [(0, 0)] S h n) ∧
  (∀ (d : Nat) (x : Int) (l0 l1 l2 l3 : Option mx_V) (S h : mx_H) (n : Int), mx_ex d 86 33 [l0, l1, l2, l3] [(0, x)] S h n = mx_ex d 86 34 [l0, mx_nl l1, some (0, x), l3] [] S h n) ∧
  (∀ (d : Nat) (x : Int) (l0 l2 l3 : Option mx_V) (v0 : mx_V) (S h : mx_H) (n : Int), mx_ex d 86 35 [l0, some (2, x), l2, l3] [v0] S h n = mx_ex d 86 36 [l0, some (2, x), l2, l3] [(2, x), v0] S h n) ∧
  (∀ (d : Nat) (a : Int) (l0 l1 l2 l3 : Option mx_V) (v1 : mx_V) (S h : mx_H) (n : Int), mx_ex d 86 36 [l0, l1, l2, l3] [(2, a), v1] S h n = mx_gd (8 ≤ S a (-2) ∧ S a (-2) ≤ 8) d 86 39 [l0, l1, l2, l3] [(0, h a 3), v1] S h n) ∧
  (∀ (d : Nat) (b a : Int) (l0 l1 l2 l3 : Option mx_V) (S h : mx_H) (n : Int), mx_ex d 86 39 [l0, l1, l2, l3] [(0, b), (0, a)] S h n = mx_br (a < b) d 86 42 85 [l0, l1, l2, l3] [] S h n) ∧
  (∀ (d : Nat) (x : Int) (l0 l2 l3 : Option mx_V) (S h : mx_H) (n : Int), mx_ex d 86 42 [l0, some (2, x), l2, l3] [] S h n = mx_ex d 86 43 [l0, some (2, x), l2, l3] [(2, x)] S h n) ∧
  (∀ (d : Nat) (x : Int) (l0 l1 l3 : Option mx_V) (v0 : mx_V) (S h : mx_H) (n : Int), mx_ex d 86 43 [l0, l1, some (0, x), l3] [v0] S h n = mx_ex d 86 44 [l0, l1, some (0, x), l3] [(0, x), v0] S h n) ∧
  (∀ (d : Nat) (x0 a : Int) (l0 l1 l2 l3 : Option mx_V) (S h : mx_H) (n : Int), mx_ex (d + 1) 86 44 [l0, l1, l2, l3] [(0, x0), (2, a)] S h n = mx_cl (S a (-2) = 8) d 90 [(2, a), (0, x0)] 86 47 [l0, l1, l2, l3] [] S h n) ∧
  (∀ (d : Nat) (x : Int) (l0 l1 l2 l3 : Option mx_V) (S h : mx_H) (n : Int), mx_ex d 86 47 [l0, l1, l2, l3] [(2, x)] S h n = mx_ex d 86 48 [l0, l1, mx_nl l2, some (2, x)] [] S h n) ∧
  (∀ (d : Nat) (x : Int) (l0 l1 l2 : Option mx_V) (S h : mx_H) (n : Int), mx_ex d 86 48 [l0, l1, l2, some (2, x)] [] S h n = mx_ex d 86 49 [l0, l1, l2, some (2, x)] [(2, x)] S h n) ∧
  (∀ (d : Nat) (a : Int) (l0 l1 l2 l3 : Option mx_V) (S h : mx_H) (n : Int), mx_ex d 86 49 [l0, l1, l2, l3] [(2, a)] S h n = mx_br (a = -1) d 86 79 52 [l0, l1, l2, l3] [] S h n) ∧
  (∀ (d : Nat) (x : Int) (l1 l2 l3 : Option mx_V) (S h : mx_H) (n : Int), mx_ex d 86 52 [some (2, x), l1, l2, l3] [] S h n = mx_ex d 86 53 [some (2, x), l1, l2, l3] [(2, x)] S h n) ∧
  (∀ (d : Nat) (x : Int) (l0 l1 l2 : Option mx_V) (v0 : mx_V) (S h : mx_H) (n : Int), mx_ex d 86 53 [l0, l1, l2, some (2, x)] [v0] S h n = mx_ex d 86 54 [l0, l1, l2, some (2, x)] [(2, x), v0] S h n) ∧
  (∀ (d : Nat) (a : Int) (l0 l1 l2 l3 : Option mx_V) (v1 : mx_V) (S h : mx_H) (n : Int), mx_ex (d + 1) 86 54 [l0, l1, l2, l3] [(2, a), v1] S h n = mx_cu (mx_vt (S a (-2)) [(1, 39), (2, 55), (3, 1), (4, 34), (5, 80), (6, 8)]) d [(2, a)] 86 57 [l0, l1, l2, l3] [v1] S h n) ∧
  (∀ (d : Nat) (x : Int) (l0 l1 l2 : Option mx_V) (v0 v1 : mx_V) (S h : mx_H) (n : Int), mx_ex d 86 57 [l0, l1, l2, some (2, x)] [v0, v1] S h n = mx_ex d 86 58 [l0, l1, l2, some (2, x)] [(2, x), v0, v1] S h n) ∧
  (∀ (d : Nat) (a : Int) (l0 l1 l2 l3 : Option mx_V) (v1 v2 : mx_V) (S h : mx_H) (n : Int), mx_ex d 86 58 [l0, l1, l2, l3] [(2, a), v1, v2] S h n = mx_gd (1 ≤ S a (-2) ∧ S a (-2) ≤ 6) d 86 61 [l0, l1, l2, l3] [(0, h a 3), v1, v2] S h n) ∧
  (∀ (d : Nat) (x : Int) (l0 l1 l2 : Option mx_V) (v0 v1 v2 : mx_V) (S h : mx_H) (n : Int), mx_ex d 86 61 [l0, l1, l2, some (2, x)] [v0, v1, v2] S h n = mx_ex d 86 62 [l0, l1, l2, some (2, x)] [(2, x), v0, v1, v2] S h n) ∧
  (∀ (d : Nat) (a : Int) (l0 l1 l2 l3 : Option mx_V) (v1 v2 v3 : mx_V) (S h : mx_H) (n : Int), mx_ex d 86 62 [l0, l1, l2, l3] [(2, a), v1, v2, v3] S h n = mx_gd (1 ≤ S a (-2) ∧ S a (-2) ≤ 6) d 86 65 [l0, l1, l2, l3] [(0, h a 1), v1, v2, v3] S h n) ∧
  (∀ (d : Nat) (x : Int) (l0 l1 l2 : Option mx_V) (v0 v1 v2 v3 : mx_V) (S h : mx_H) (n : Int), mx_ex d 86 65 [l0, l1, l2, some (2, x)] [v0, v1, v2, v3] S h n = mx_ex d 86 66 [l0, l1, l2, some (2, x)] [(2, x), v0, v1, v2, v3] S h n) ∧
  (∀ (d : Nat) (a : Int) (l0 l1 l2 l3 : Option mx_V) (v1 v2 v3 v4 : mx_V) (S h : mx_H) (n : Int), mx_ex d 86 66 [l0, l1, l2, l3] [(2, a), v1, v2, v3, v4] S h n = mx_gd (1 ≤ S a (-2) ∧ S a (-2) ≤ 6) d 86 69 [l0, l1, l2, l3] [(2, S a 2), v1, v2, v3, v4] S h n) ∧
  (∀ (d : Nat) (a : Int) (l0 l1 l2 l3 : Option mx_V) (v1 v2 v3 v4 : mx_V) (S h : mx_H) (n : Int), mx_ex d 86 69 [l0, l1, l2, l3] [(2, a), v1, v2, v3, v4] S h n = mx_gd (S a (-2) = 20 ∧ S a (-1) ≤ 300) d 86 72 [l0, l1, l2, l3] [(2, n), v1, v2, v3, v4] (mx_t S n 20 (S a (-1))) (mx_y (mx_z h n) a 0 n 0 (S a (-1))) (n + 1)) ∧
  (∀ (d : Nat) (a : Int) (l0 l1 l2 l3 : Option mx_V) (v1 v2 v3 v4 : mx_V) (S h : mx_H) (n : Int), mx_ex d 86 72 [l0, l1, l2, l3] [(2, a), v1, v2, v3, v4] S h n = mx_gd (S a (-2) = 20) d 86 75 [l0, l1, l2, l3] [(2, a), v1, v2, v3, v4] S h n) ∧
  (∀ (d : Nat) (x0 x1 x2 x3 a : Int) (l0 l1 l2 l3 : Option mx_V) (S h : mx_H) (n : Int), mx_ex (d + 1) 86 75 [l0, l1, l2, l3] [(2, x0), (0, x1), (0, x2), (0, x3), (2, a)] S h n = mx_cl (S a (-2) = 8) d 91 [(2, a), (0, x3), (0, x2), (0, x1), (2, x0)] 86 78 [l0, l1, l2, l3] [] S h n) ∧
  (∀ (d : Nat) (a : Int) (l0 l1 l2 l3 : Option mx_V) (S h : mx_H) (n : Int), mx_ex d 86 78 [l0, l1, l2, l3] [(0, a)] S h n = mx_ex d 86 79 [l0, l1, l2, l3] [] S h n) ∧
  (∀ (d : Nat) (x : Int) (l0 l1 l3 : Option mx_V) (S h : mx_H) (n : Int), mx_ex d 86 79 [l0, l1, some (0, x), l3] [] S h n = mx_ex d 86 82 [l0, mx_nl l1, some (0, mx_w (x + 1)), l3] [] S h n) ∧
  (∀ (d : Nat) (l0 l1 l2 l3 : Option mx_V) (S h : mx_H) (n : Int), mx_ex d 86 82 [l0, l1, l2, l3] [] S h n = mx_ex d 86 34 [l0, l1, l2, l3] [] S h n) ∧
  (∀ (d : Nat) (x : Int) (l0 l2 l3 : Option mx_V) (S h : mx_H) (n : Int), mx_ex d 86 85 [l0, some (2, x), l2, l3] [] S h n = mx_ex d 86 86 [l0, some (2, x), l2, l3] [(2, x)] S h n) ∧
  (∀ (d : Nat) (a : Int) (l0 l1 l2 l3 : Option mx_V) (S h : mx_H) (n : Int), mx_ex d 86 86 [l0, l1, l2, l3] [(2, a)] S h n = mx_gd (8 ≤ S a (-2) ∧ S a (-2) ≤ 8) d 86 89 [l0, l1, l2, l3] [(2, S a 2)] S h n) ∧
  (∀ (d : Nat) (l0 l1 l2 l3 : Option mx_V) (v0 : mx_V) (S h : mx_H) (n : Int), mx_ex d 86 89 [l0, l1, l2, l3] [v0] S h n = mx_ex d 86 90 [l0, l1, l2, l3] [(0, 0), v0] S h n) ∧
  (∀ (d : Nat) (x : Int) (l1 l2 l3 : Option mx_V) (v0 v1 : mx_V) (S h : mx_H) (n : Int), mx_ex d 86 90 [some (2, x), l1, l2, l3] [v0, v1] S h n = mx_ex d 86 91 [some (2, x), l1, l2, l3] [(2, x), v0, v1] S h n) ∧
  (∀ (d : Nat) (a : Int) (l0 l1 l2 l3 : Option mx_V) (v1 v2 : mx_V) (S h : mx_H) (n : Int), mx_ex d 86 91 [l0, l1, l2, l3] [(2, a), v1, v2] S h n = mx_gd (8 ≤ S a (-2) ∧ S a (-2) ≤ 8) d 86 94 [l0, l1, l2, l3] [(2, S a 2), v1, v2] S h n) ∧
  (∀ (d : Nat) (l0 l1 l2 l3 : Option mx_V) (v0 v1 v2 : mx_V) (S h : mx_H) (n : Int), mx_ex d 86 94 [l0, l1, l2, l3] [v0, v1, v2] S h n = mx_ex d 86 95 [l0, l1, l2, l3] [(0, 0), v0, v1, v2] S h n) ∧
  (∀ (d : Nat) (x : Int) (l1 l2 l3 : Option mx_V) (v0 v1 v2 v3 : mx_V) (S h : mx_H) (n : Int), mx_ex d 86 95 [some (2, x), l1, l2, l3] [v0, v1, v2, v3] S h n = mx_ex d 86 96 [some (2, x), l1, l2, l3] [(2, x), v0, v1, v2, v3] S h n) ∧
  (∀ (d : Nat) (a : Int) (l0 l1 l2 l3 : Option mx_V) (v1 v2 v3 v4 : mx_V) (S h : mx_H) (n : Int), mx_ex d 86 96 [l0, l1, l2, l3] [(2, a), v1, v2, v3, v4] S h n = mx_gd (8 ≤ S a (-2) ∧ S a (-2) ≤ 8) d 86 99 [l0, l1, l2, l3] [(2, S a 2), v1, v2, v3, v4] S h n) ∧
  (∀ (d : Nat) (a : Int) (l0 l1 l2 l3 : Option mx_V) (v1 v2 v3 v4 : mx_V) (S h : mx_H) (n : Int), mx_ex d 86 99 [l0, l1, l2, l3] [(2, a), v1, v2, v3, v4] S h n = mx_gd (20 ≤ S a (-2) ∧ S a (-2) ≤ 25) d 86 100 [l0, l1, l2, l3] [(0, S a (-1)), v1, v2, v3, v4] S h n) ∧
  (∀ (d : Nat) (x j b i a : Int) (l0 l1 l2 l3 : Option mx_V) (S h : mx_H) (n : Int), mx_ex d 86 100 [l0, l1, l2, l3] [(0, x), (0, j), (2, b), (0, i), (2, a)] S h n = mx_gd (S a (-2) = 20 ∧ S b (-2) = 20 ∧ 0 ≤ x ∧ 0 ≤ i ∧ 0 ≤ j ∧ i + x ≤ S a (-1) ∧ j + x ≤ S b (-1)) d 86 103 [l0, l1, l2, l3] [] S (mx_y h a i b j x) n) ∧
  (∀ (d : Nat) (x : Int) (l1 l2 l3 : Option mx_V) (S h : mx_H) (n : Int), mx_ex d 86 103 [some (2, x), l1, l2, l3] [] S h n = mx_ex d 86 104 [some (2, x), l1, l2, l3] [(2, x)] S h n) ∧
  (∀ (d : Nat) (x : Int) (l0 l2 l3 : Option mx_V) (v0 : mx_V) (S h : mx_H) (n : Int), mx_ex d 86 104 [l0, some (2, x), l2, l3] [v0] S h n = mx_ex d 86 105 [l0, some (2, x), l2, l3] [(2, x), v0] S h n) ∧
  (∀ (d : Nat) (a : Int) (l0 l1 l2 l3 : Option mx_V) (v1 : mx_V) (S h : mx_H) (n : Int), mx_ex d 86 105 [l0, l1, l2, l3] [(2, a), v1] S h n = mx_gd (8 ≤ S a (-2) ∧ S a (-2) ≤ 8) d 86 108 [l0, l1, l2, l3] [(0, h a 4), v1] S h n) ∧
  (∀ (d : Nat) (v a : Int) (l0 l1 l2 l3 : Option mx_V) (S h : mx_H) (n : Int), mx_ex d 86 108 [l0, l1, l2, l3] [(0, v), (2, a)] S h n = mx_gd (8 ≤ S a (-2) ∧ S a (-2) ≤ 8) d 86 111 [l0, l1, l2, l3] [] S (mx_u h a 4 v) n) ∧
  (∀ (d : Nat) (l0 l1 l2 l3 : Option mx_V) (S h : mx_H) (n : Int), mx_ex d 86 111 [l0, l1, l2, l3] [] S h n = some (none, S, h, n)) :=
  ⟨by intros; exact rfl,
   by intros; exact eq_ld rfl rfl,
   by intros; exact eq_cv rfl (Nat.le_of_ble_eq_true rfl) rfl rfl rfl (Nat.le_of_ble_eq_true rfl),
   by intros; exact eq_ld rfl rfl,
   by intros; exact eq_gr rfl,
   by intros; exact eq_push rfl,
   by intros; exact eq_ld rfl rfl,
   by intros; exact eq_gr rfl,
   by intros; exact eq_push rfl,
   by intros; exact eq_push rfl,
   by intros; exact eq_copy rfl (Nat.le_of_ble_eq_true rfl),
   by intros; exact eq_ld rfl rfl,
   by intros; exact eq_gr rfl,
   by intros; exact eq_push rfl,
   by intros; exact eq_ld rfl rfl,
   by intros; exact eq_gr rfl,
   by intros; exact eq_push rfl,
   by intros; exact eq_push rfl,
   by intros; exact eq_copy rfl (Nat.le_of_ble_eq_true rfl),
   by intros; exact eq_push rfl,
   by intros; exact eq_st rfl (by decide) (Nat.le_of_ble_eq_true rfl) rfl,
   by intros; exact eq_ld rfl rfl,
   by intros; exact eq_gi rfl,
   by intros; exact eq_ic3 rfl,
   by intros; exact eq_ld rfl rfl,
   by intros; exact eq_ld rfl rfl,
   by intros; exact eq_cv rfl (Nat.le_of_ble_eq_true rfl) rfl rfl rfl (Nat.le_of_ble_eq_true rfl),
   by intros; exact eq_st rfl (by decide) (Nat.le_of_ble_eq_true rfl) rfl,
   by intros; exact eq_ld rfl rfl,
   by intros; exact eq_nul rfl,
   by intros; exact eq_ld rfl rfl,
   by intros; exact eq_ld rfl rfl,
   by intros; exact eq_cu rfl (Nat.le_of_ble_eq_true rfl) rfl rfl rfl (Nat.le_of_ble_eq_true rfl),
   by intros; exact eq_ld rfl rfl,
   by intros; exact eq_gi rfl,
   by intros; exact eq_ld rfl rfl,
   by intros; exact eq_gi rfl,
   by intros; exact eq_ld rfl rfl,
   by intros; exact eq_gr rfl,
   by intros; exact eq_clon rfl (Nat.le_of_ble_eq_true rfl),
   by intros; exact eq_cast rfl,
   by intros; exact eq_cv rfl (Nat.le_of_ble_eq_true rfl) rfl rfl rfl (Nat.le_of_ble_eq_true rfl),
   by intros; exact eq_pop rfl (by decide),
   by intros; exact eq_inc rfl rfl rfl,
   by intros; exact eq_go rfl,
   by intros; exact eq_ld rfl rfl,
   by intros; exact eq_gr rfl,
   by intros; exact eq_push rfl,
   by intros; exact eq_ld rfl rfl,
   by intros; exact eq_gr rfl,
   by intros; exact eq_push rfl,
   by intros; exact eq_ld rfl rfl,
   by intros; exact eq_gr rfl,
   by intros; exact eq_alen rfl,
   by intros; exact eq_copy rfl (Nat.le_of_ble_eq_true rfl),
   by intros; exact eq_ld rfl rfl,
   by intros; exact eq_ld rfl rfl,
   by intros; exact eq_gi rfl,
   by intros; exact eq_pi rfl,
   by intros; exact eq_retv rfl⟩
theorem rw_X10_setEvening :
  (∀ (d : Nat) (a0 a1 a2 a3 : Int) (S h : mx_H) (n : Int), mx_M d 87 [(2, a0), (0, a1), (0, a2), (0, a3)] S h n = mx_ex d 87 0 [some (2, a0), some (0, a1), some (0, a2), some (0, a3)] [] S h n) ∧
  (∀ (d : Nat) (x : Int) (l1 l2 l3 : Option mx_V) (S h : mx_H) (n : Int), mx_ex d 87 0 [some (2, x), l1, l2, l3] [] S h n = mx_ex d 87 1 [some (2, x), l1, l2, l3] [(2, x)] S h n) ∧
  (∀ (d : Nat) (a : Int) (l0 l1 l2 l3 : Option mx_V) (S h : mx_H) (n : Int), mx_ex d 87 1 [l0, l1, l2, l3] [(2, a)] S h n = mx_gd (8 ≤ S a (-2) ∧ S a (-2) ≤ 8) d 87 4 [l0, l1, l2, l3] [(2, S a 0)] S h n) ∧
  (∀ (d : Nat) (x : Int) (l0 l2 l3 : Option mx_V) (v0 : mx_V) (S h : mx_H) (n : Int), mx_ex d 87 4 [l0, some (0, x), l2, l3] [v0] S h n = mx_ex d 87 5 [l0, some (0, x), l2, l3] [(0, x), v0] S h n) ∧
  (∀ (d : Nat) (x : Int) (l0 l1 l3 : Option mx_V) (v0 v1 : mx_V) (S h : mx_H) (n : Int), mx_ex d 87 5 [l0, l1, some (0, x), l3] [v0, v1] S h n = mx_ex d 87 6 [l0, l1, some (0, x), l3] [(0, x), v0, v1] S h n) ∧
  (∀ (d : Nat) (v i a : Int) (l0 l1 l2 l3 : Option mx_V) (S h : mx_H) (n : Int), mx_ex d 87 6 [l0, l1, l2, l3] [(0, v), (0, i), (2, a)] S h n = mx_gd (S a (-2) = 20 ∧ 0 ≤ i ∧ i < S a (-1)) d 87 7 [l0, l1, l2, l3] [] S (mx_u h a i v) n) ∧
  (∀ (d : Nat) (x : Int) (l1 l2 l3 : Option mx_V) (S h : mx_H) (n : Int), mx_ex d 87 7 [some (2, x), l1, l2, l3] [] S h n = mx_ex d 87 8 [some (2, x), l1, l2, l3] [(2, x)] S h n) ∧
  (∀ (d : Nat) (a : Int) (l0 l1 l2 l3 : Option mx_V) (S h : mx_H) (n : Int), mx_ex d 87 8 [l0, l1, l2, l3] [(2, a)] S h n = mx_gd (8 ≤ S a (-2) ∧ S a (-2) ≤ 8) d 87 11 [l0, l1, l2, l3] [(2, S a 1)] S h n) ∧
  (∀ (d : Nat) (x : Int) (l0 l2 l3 : Option mx_V) (v0 : mx_V) (S h : mx_H) (n : Int), mx_ex d 87 11 [l0, some (0, x), l2, l3] [v0] S h n = mx_ex d 87 12 [l0, some (0, x), l2, l3] [(0, x), v0] S h n) ∧
  (∀ (d : Nat) (x : Int) (l0 l1 l2 : Option mx_V) (v0 v1 : mx_V) (S h : mx_H) (n : Int), mx_ex d 87 12 [l0, l1, l2, some (0, x)] [v0, v1] S h n = mx_ex d 87 13 [l0, l1, l2, some (0, x)] [(0, x), v0, v1] S h n) ∧
  (∀ (d : Nat) (v i a : Int) (l0 l1 l2 l3 : Option mx_V) (S h : mx_H) (n : Int), mx_ex d 87 13 [l0, l1, l2, l3] [(0, v), (0, i), (2, a)] S h n = mx_gd (S a (-2) = 20 ∧ 0 ≤ i ∧ i < S a (-1)) d 87 14 [l0, l1, l2, l3] [] S (mx_u h a i v) n) ∧
  (∀ (d : Nat) (x : Int) (l1 l2 l3 : Option mx_V) (S h : mx_H) (n : Int), mx_ex d 87 14 [some (2, x), l1, l2, l3] [] S h n = mx_ex d 87 15 [some (2, x), l1, l2, l3] [(2, x)] S h n) ∧
  (∀ (d : Nat) (a : Int) (l0 l1 l2 l3 : Option mx_V) (S h : mx_H) (n : Int), mx_ex d 87 15 [l0, l1, l2, l3] [(2, a)] S h n = mx_ex d 87 16 [l0, l1, l2, l3] [(2, a), (2, a)] S h n) ∧
  (∀ (d : Nat) (a : Int) (l0 l1 l2 l3 : Option mx_V) (v1 : mx_V) (S h : mx_H) (n : Int), mx_ex d 87 16 [l0, l1, l2, l3] [(2, a), v1] S h n = mx_gd (8 ≤ S a (-2) ∧ S a (-2) ≤ 8) d 87 19 [l0, l1, l2, l3] [(0, h a 5), v1] S h n) ∧
  (∀ (d : Nat) (l0 l1 l2 l3 : Option mx_V) (v0 v1 : mx_V) (S h : mx_H) (n : Int), mx_ex d 87 19 [l0, l1, l2, l3] [v0, v1] S h n = mx_ex d 87 20 [l0, l1, l2, l3] [(0, 1), v0, v1] S h n) ∧
  (∀ (d : Nat) (b a : Int) (l0 l1 l2 l3 : Option mx_V) (v2 : mx_V) (S h : mx_H) (n : Int), mx_ex d 87 20 [l0, l1, l2, l3] [(0, b), (0, a), v2] S h n = mx_ex d 87 21 [l0, l1, l2, l3] [(0, mx_w (a + b)), v2] S h n) ∧
  (∀ (d : Nat) (v a : Int) (l0 l1 l2 l3 : Option mx_V) (S h : mx_H) (n : Int), mx_ex d 87 21 [l0, l1, l2, l3] [(0, v), (2, a)] S h n = mx_gd (8 ≤ S a (-2) ∧ S a (-2) ≤ 8) d 87 24 [l0, l1, l2, l3] [] S (mx_u h a 5 v) n) ∧
  (∀ (d : Nat) (l0 l1 l2 l3 : Option mx_V) (S h : mx_H) (n : Int), mx_ex d 87 24 [l0, l1, l2, l3] [] S h n = some (none, S, h, n)) :=
  ⟨by intros; exact rfl,
   by intros; exact eq_ld rfl rfl,
   by intros; exact eq_gr rfl,
   by intros; exact eq_ld rfl rfl,
   by intros; exact eq_ld rfl rfl,
   by intros; exact eq_iast rfl,
   by intros; exact eq_ld rfl rfl,
   by intros; exact eq_gr rfl,
   by intros; exact eq_ld rfl rfl,
   by intros; exact eq_ld rfl rfl,
   by intros; exact eq_iast rfl,
   by intros; exact eq_ld rfl rfl,
   by intros; exact eq_dup rfl (by decide),
   by intros; exact eq_gi rfl,
   by intros; exact eq_push rfl,
   by intros; exact eq_i2 (o := mx_add) rfl,
   by intros; exact eq_pi rfl,
   by intros; exact eq_retv rfl⟩
theorem rh_X10_notesOf_4 : ∀ (d : Nat) (x : Int) (l0 l1 l2 l4 : Option mx_V) (S h : mx_H) (n : Int), mx_ex d 88 4 [l0, l1, l2, some (0, x), l4] [] S h n = mx_ex d 88 5 [l0, l1, l2, some (0, x), l4] [(0, x)] S h n := by intros; exact eq_ld rfl rfl
theorem rw_X10_notesOf :
  (∀ (d : Nat) (a0 a1 : Int) (S h : mx_H) (n : Int), mx_M d 88 [(2, a0), (0, a1)] S h n = mx_ex d 88 0 [some (2, a0), some (0, a1), none, none, none] [] S h n) ∧
  (∀ (d : Nat) (l0 l1 l2 l3 l4 : Option mx_V) (S h : mx_H) (n : Int), mx_ex d 88 0 [l0, l1, l2, l3, l4] [] S h n = mx_ex d 88 1 [l0, l1, l2, l3, l4] [(0, 0)] S h n) ∧
  (∀ (d : Nat) (x : Int) (l0 l1 l2 l3 l4 : Option mx_V) (S h : mx_H) (n : Int), mx_ex d 88 1 [l0, l1, l2, l3, l4] [(0, x)] S h n = mx_ex d 88 2 [l0, mx_nl l1, some (0, x), l3, l4] [] S h n) ∧
  (∀ (d : Nat) (l0 l1 l2 l3 l4 : Option mx_V) (S h : mx_H) (n : Int), mx_ex d 88 2 [l0, l1, l2, l3, l4] [] S h n = mx_ex d 88 3 [l0, l1, l2, l3, l4] [(0, 0)] S h n) ∧
  (∀ (d : Nat) (x : Int) (l0 l1 l2 l3 l4 : Option mx_V) (S h : mx_H) (n : Int), mx_ex d 88 3 [l0, l1, l2, l3, l4] [(0, x)] S h n = mx_ex d 88 4 [l0, l1, mx_nl l2, some (0, x), l4] [] S h n) ∧
  (∀ (d : Nat) (x : Int) (l1 l2 l3 l4 : Option mx_V) (v0 : mx_V) (S h : mx_H) (n : Int), mx_ex d 88 5 [some (2, x), l1, l2, l3, l4] [v0] S h n = mx_ex d 88 6 [some (2, x), l1, l2, l3, l4] [(2, x), v0] S h n) ∧
  (∀ (d : Nat) (a : Int) (l0 l1 l2 l3 l4 : Option mx_V) (v1 : mx_V) (S h : mx_H) (n : Int), mx_ex d 88 6 [l0, l1, l2, l3, l4] [(2, a), v1] S h n = mx_gd (8 ≤ S a (-2) ∧ S a (-2) ≤ 8) d 88 9 [l0, l1, l2, l3, l4] [(0, h a 3), v1] S h n) ∧
  (∀ (d : Nat) (b a : Int) (l0 l1 l2 l3 l4 : Option mx_V) (S h : mx_H) (n : Int), mx_ex d 88 9 [l0, l1, l2, l3, l4] [(0, b), (0, a)] S h n = mx_br (a < b) d 88 12 45 [l0, l1, l2, l3, l4] [] S h n) ∧
  (∀ (d : Nat) (x : Int) (l1 l2 l3 l4 : Option mx_V) (S h : mx_H) (n : Int), mx_ex d 88 12 [some (2, x), l1, l2, l3, l4] [] S h n = mx_ex d 88 13 [some (2, x), l1, l2, l3, l4] [(2, x)] S h n) ∧
  (∀ (d : Nat) (x : Int) (l0 l1 l2 l4 : Option mx_V) (v0 : mx_V) (S h : mx_H) (n : Int), mx_ex d 88 13 [l0, l1, l2, some (0, x), l4] [v0] S h n = mx_ex d 88 14 [l0, l1, l2, some (0, x), l4] [(0, x), v0] S h n) ∧
  (∀ (d : Nat) (x0 a : Int) (l0 l1 l2 l3 l4 : Option mx_V) (S h : mx_H) (n : Int), mx_ex (d + 1) 88 14 [l0, l1, l2, l3, l4] [(0, x0), (2, a)] S h n = mx_cl (S a (-2) = 8) d 90 [(2, a), (0, x0)] 88 17 [l0, l1, l2, l3, l4] [] S h n) ∧
  (∀ (d : Nat) (x : Int) (l0 l1 l2 l3 l4 : Option mx_V) (S h : mx_H) (n : Int), mx_ex d 88 17 [l0, l1, l2, l3, l4] [(2, x)] S h n = mx_ex d 88 19 [l0, l1, l2, mx_nl l3, some (2, x)] [] S h n) ∧
  (∀ (d : Nat) (x : Int) (l0 l1 l2 l3 : Option mx_V) (S h : mx_H) (n : Int), mx_ex d 88 19 [l0, l1, l2, l3, some (2, x)] [] S h n = mx_ex d 88 21 [l0, l1, l2, l3, some (2, x)] [(2, x)] S h n) ∧
  (∀ (d : Nat) (a : Int) (l0 l1 l2 l3 l4 : Option mx_V) (S h : mx_H) (n : Int), mx_ex d 88 21 [l0, l1, l2, l3, l4] [(2, a)] S h n = mx_br (a = -1) d 88 39 24 [l0, l1, l2, l3, l4] [] S h n) ∧
  (∀ (d : Nat) (x : Int) (l0 l1 l2 l3 : Option mx_V) (S h : mx_H) (n : Int), mx_ex d 88 24 [l0, l1, l2, l3, some (2, x)] [] S h n = mx_ex d 88 26 [l0, l1, l2, l3, some (2, x)] [(2, x)] S h n) ∧
  (∀ (d : Nat) (a : Int) (l0 l1 l2 l3 l4 : Option mx_V) (S h : mx_H) (n : Int), mx_ex d 88 26 [l0, l1, l2, l3, l4] [(2, a)] S h n = mx_gd (1 ≤ S a (-2) ∧ S a (-2) ≤ 6) d 88 29 [l0, l1, l2, l3, l4] [(0, h a 3)] S h n) ∧
  (∀ (d : Nat) (x : Int) (l0 l2 l3 l4 : Option mx_V) (v0 : mx_V) (S h : mx_H) (n : Int), mx_ex d 88 29 [l0, some (0, x), l2, l3, l4] [v0] S h n = mx_ex d 88 30 [l0, some (0, x), l2, l3, l4] [(0, x), v0] S h n) ∧
  (∀ (d : Nat) (b a : Int) (l0 l1 l2 l3 l4 : Option mx_V) (S h : mx_H) (n : Int), mx_ex d 88 30 [l0, l1, l2, l3, l4] [(0, b), (0, a)] S h n = mx_br (a = b) d 88 33 39 [l0, l1, l2, l3, l4] [] S h n) ∧
  (∀ (d : Nat) (x : Int) (l0 l1 l3 l4 : Option mx_V) (S h : mx_H) (n : Int), mx_ex d 88 33 [l0, l1, some (0, x), l3, l4] [] S h n = mx_ex d 88 34 [l0, l1, some (0, x), l3, l4] [(0, x)] S h n) ∧
  (∀ (d : Nat) (l0 l1 l2 l3 l4 : Option mx_V) (v0 : mx_V) (S h : mx_H) (n : Int), mx_ex d 88 34 [l0, l1, l2, l3, l4] [v0] S h n = mx_ex d 88 35 [l0, l1, l2, l3, l4] [(0, 1), v0] S h n) ∧
  (∀ (d : Nat) (x : Int) (l0 l1 l2 l4 : Option mx_V) (v0 v1 : mx_V) (S h : mx_H) (n : Int), mx_ex d 88 35 [l0, l1, l2, some (0, x), l4] [v0, v1] S h n = mx_ex d 88 36 [l0, l1, l2, some (0, x), l4] [(0, x), v0, v1] S h n) ∧
  (∀ (d : Nat) (b a : Int) (l0 l1 l2 l3 l4 : Option mx_V) (v2 : mx_V) (S h : mx_H) (n : Int), mx_ex d 88 36 [l0, l1, l2, l3, l4] [(0, b), (0, a), v2] S h n = mx_ex d 88 37 [l0, l1, l2, l3, l4] [(0, mx_shl a b), v2] S h n) ∧
  (∀ (d : Nat) (b a : Int) (l0 l1 l2 l3 l4 : Option mx_V) (S h : mx_H) (n : Int), mx_ex d 88 37 [l0, l1, l2, l3, l4] [(0, b), (0, a)] S h n = mx_ex d 88 38 [l0, l1, l2, l3, l4] [(0, mx_or a b)] S h n) ∧
  (∀ (d : Nat) (x : Int) (l0 l1 l2 l3 l4 : Option mx_V) (S h : mx_H) (n : Int), mx_ex d 88 38 [l0, l1, l2, l3, l4] [(0, x)] S h n = mx_ex d 88 39 [l0, mx_nl l1, some (0, x), l3, l4] [] S h n) ∧
  (∀ (d : Nat) (x : Int) (l0 l1 l2 l4 : Option mx_V) (S h : mx_H) (n : Int), mx_ex d 88 39 [l0, l1, l2, some (0, x), l4] [] S h n = mx_ex d 88 42 [l0, l1, mx_nl l2, some (0, mx_w (x + 1)), l4] [] S h n) ∧
  (∀ (d : Nat) (l0 l1 l2 l3 l4 : Option mx_V) (S h : mx_H) (n : Int), mx_ex d 88 42 [l0, l1, l2, l3, l4] [] S h n = mx_ex d 88 4 [l0, l1, l2, l3, l4] [] S h n) ∧
  (∀ (d : Nat) (x : Int) (l0 l1 l3 l4 : Option mx_V) (S h : mx_H) (n : Int), mx_ex d 88 45 [l0, l1, some (0, x), l3, l4] [] S h n = mx_ex d 88 46 [l0, l1, some (0, x), l3, l4] [(0, x)] S h n) ∧
  (∀ (d : Nat) (x : Int) (l0 l1 l2 l3 l4 : Option mx_V) (S h : mx_H) (n : Int), mx_ex d 88 46 [l0, l1, l2, l3, l4] [(0, x)] S h n = some (some (0, x), S, h, n)) :=
  ⟨by intros; exact rfl,
   by intros; exact eq_push rfl,
   by intros; exact eq_st rfl (by decide) (Nat.le_of_ble_eq_true rfl) rfl,
   by intros; exact eq_push rfl,
   by intros; exact eq_st rfl (by decide) (Nat.le_of_ble_eq_true rfl) rfl,
   by intros; exact eq_ld rfl rfl,
   by intros; exact eq_gi rfl,
   by intros; exact eq_ic3 rfl,
   by intros; exact eq_ld rfl rfl,
   by intros; exact eq_ld rfl rfl,
   by intros; exact eq_cv rfl (Nat.le_of_ble_eq_true rfl) rfl rfl rfl (Nat.le_of_ble_eq_true rfl),
   by intros; exact eq_st rfl (by decide) (Nat.le_of_ble_eq_true rfl) rfl,
   by intros; exact eq_ld rfl rfl,
   by intros; exact eq_nul rfl,
   by intros; exact eq_ld rfl rfl,
   by intros; exact eq_gi rfl,
   by intros; exact eq_ld rfl rfl,
   by intros; exact eq_ic1 rfl,
   by intros; exact eq_ld rfl rfl,
   by intros; exact eq_push rfl,
   by intros; exact eq_ld rfl rfl,
   by intros; exact eq_i2 (o := mx_shl) rfl,
   by intros; exact eq_i2 (o := mx_or) rfl,
   by intros; exact eq_st rfl (by decide) (Nat.le_of_ble_eq_true rfl) rfl,
   by intros; exact eq_inc rfl rfl rfl,
   by intros; exact eq_go rfl,
   by intros; exact eq_ld rfl rfl,
   by intros; exact eq_ret rfl⟩
theorem rw_X10_basesOf :
  (∀ (d : Nat) (a0 a1 : Int) (S h : mx_H) (n : Int), mx_M d 89 [(2, a0), (0, a1)] S h n = mx_ex d 89 0 [some (2, a0), some (0, a1)] [] S h n) ∧
  (∀ (d : Nat) (l0 l1 : Option mx_V) (S h : mx_H) (n : Int), mx_ex d 89 0 [l0, l1] [] S h n = mx_ex d 89 1 [l0, l1] [(0, 1)] S h n) ∧
  (∀ (d : Nat) (x : Int) (l1 : Option mx_V) (v0 : mx_V) (S h : mx_H) (n : Int), mx_ex d 89 1 [some (2, x), l1] [v0] S h n = mx_ex d 89 2 [some (2, x), l1] [(2, x), v0] S h n) ∧
  (∀ (d : Nat) (a : Int) (l0 l1 : Option mx_V) (v1 : mx_V) (S h : mx_H) (n : Int), mx_ex d 89 2 [l0, l1] [(2, a), v1] S h n = mx_gd (8 ≤ S a (-2) ∧ S a (-2) ≤ 8) d 89 5 [l0, l1] [(2, S a 1), v1] S h n) ∧
  (∀ (d : Nat) (x : Int) (l0 : Option mx_V) (v0 v1 : mx_V) (S h : mx_H) (n : Int), mx_ex d 89 5 [l0, some (0, x)] [v0, v1] S h n = mx_ex d 89 6 [l0, some (0, x)] [(0, x), v0, v1] S h n) ∧
  (∀ (d : Nat) (i a : Int) (l0 l1 : Option mx_V) (v2 : mx_V) (S h : mx_H) (n : Int), mx_ex d 89 6 [l0, l1] [(0, i), (2, a), v2] S h n = mx_gd ((S a (-2) = 20 ∨ S a (-2) = 24) ∧ 0 ≤ i ∧ i < S a (-1)) d 89 7 [l0, l1] [(0, h a i), v2] S h n) ∧
  (∀ (d : Nat) (l0 l1 : Option mx_V) (v0 v1 : mx_V) (S h : mx_H) (n : Int), mx_ex d 89 7 [l0, l1] [v0, v1] S h n = mx_ex d 89 8 [l0, l1] [(0, 1), v0, v1] S h n) ∧
  (∀ (d : Nat) (b a : Int) (l0 l1 : Option mx_V) (v2 : mx_V) (S h : mx_H) (n : Int), mx_ex d 89 8 [l0, l1] [(0, b), (0, a), v2] S h n = mx_ex d 89 9 [l0, l1] [(0, mx_w (a + b)), v2] S h n) ∧
  (∀ (d : Nat) (b a : Int) (l0 l1 : Option mx_V) (S h : mx_H) (n : Int), mx_ex d 89 9 [l0, l1] [(0, b), (0, a)] S h n = mx_ex d 89 10 [l0, l1] [(0, mx_shl a b)] S h n) ∧
  (∀ (d : Nat) (l0 l1 : Option mx_V) (v0 : mx_V) (S h : mx_H) (n : Int), mx_ex d 89 10 [l0, l1] [v0] S h n = mx_ex d 89 11 [l0, l1] [(0, 1), v0] S h n) ∧
  (∀ (d : Nat) (x : Int) (l1 : Option mx_V) (v0 v1 : mx_V) (S h : mx_H) (n : Int), mx_ex d 89 11 [some (2, x), l1] [v0, v1] S h n = mx_ex d 89 12 [some (2, x), l1] [(2, x), v0, v1] S h n) ∧
  (∀ (d : Nat) (a : Int) (l0 l1 : Option mx_V) (v1 v2 : mx_V) (S h : mx_H) (n : Int), mx_ex d 89 12 [l0, l1] [(2, a), v1, v2] S h n = mx_gd (8 ≤ S a (-2) ∧ S a (-2) ≤ 8) d 89 15 [l0, l1] [(2, S a 0), v1, v2] S h n) ∧
  (∀ (d : Nat) (x : Int) (l0 : Option mx_V) (v0 v1 v2 : mx_V) (S h : mx_H) (n : Int), mx_ex d 89 15 [l0, some (0, x)] [v0, v1, v2] S h n = mx_ex d 89 16 [l0, some (0, x)] [(0, x), v0, v1, v2] S h n) ∧
  (∀ (d : Nat) (i a : Int) (l0 l1 : Option mx_V) (v2 v3 : mx_V) (S h : mx_H) (n : Int), mx_ex d 89 16 [l0, l1] [(0, i), (2, a), v2, v3] S h n = mx_gd ((S a (-2) = 20 ∨ S a (-2) = 24) ∧ 0 ≤ i ∧ i < S a (-1)) d 89 17 [l0, l1] [(0, h a i), v2, v3] S h n) ∧
  (∀ (d : Nat) (b a : Int) (l0 l1 : Option mx_V) (v2 : mx_V) (S h : mx_H) (n : Int), mx_ex d 89 17 [l0, l1] [(0, b), (0, a), v2] S h n = mx_ex d 89 18 [l0, l1] [(0, mx_shl a b), v2] S h n) ∧
  (∀ (d : Nat) (b a : Int) (l0 l1 : Option mx_V) (S h : mx_H) (n : Int), mx_ex d 89 18 [l0, l1] [(0, b), (0, a)] S h n = mx_ex d 89 19 [l0, l1] [(0, mx_w (a - b))] S h n) ∧
  (∀ (d : Nat) (x : Int) (l0 l1 : Option mx_V) (S h : mx_H) (n : Int), mx_ex d 89 19 [l0, l1] [(0, x)] S h n = some (some (0, x), S, h, n)) :=
  ⟨by intros; exact rfl,
   by intros; exact eq_push rfl,
   by intros; exact eq_ld rfl rfl,
   by intros; exact eq_gr rfl,
   by intros; exact eq_ld rfl rfl,
   by intros; exact eq_iald rfl,
   by intros; exact eq_push rfl,
   by intros; exact eq_i2 (o := mx_add) rfl,
   by intros; exact eq_i2 (o := mx_shl) rfl,
   by intros; exact eq_push rfl,
   by intros; exact eq_ld rfl rfl,
   by intros; exact eq_gr rfl,
   by intros; exact eq_ld rfl rfl,
   by intros; exact eq_iald rfl,
   by intros; exact eq_i2 (o := mx_shl) rfl,
   by intros; exact eq_i2 (o := mx_sub) rfl,
   by intros; exact eq_ret rfl⟩
theorem rw_X10_noteAt :
  (∀ (d : Nat) (a0 a1 : Int) (S h : mx_H) (n : Int), mx_M d 90 [(2, a0), (0, a1)] S h n = mx_ex d 90 0 [some (2, a0), some (0, a1)] [] S h n) ∧
  (∀ (d : Nat) (x : Int) (l0 : Option mx_V) (S h : mx_H) (n : Int), mx_ex d 90 0 [l0, some (0, x)] [] S h n = mx_ex d 90 1 [l0, some (0, x)] [(0, x)] S h n) ∧
  (∀ (d : Nat) (a : Int) (l0 l1 : Option mx_V) (S h : mx_H) (n : Int), mx_ex d 90 1 [l0, l1] [(0, a)] S h n = mx_br (a < 0) d 90 21 4 [l0, l1] [] S h n) ∧
  (∀ (d : Nat) (x : Int) (l0 : Option mx_V) (S h : mx_H) (n : Int), mx_ex d 90 4 [l0, some (0, x)] [] S h n = mx_ex d 90 5 [l0, some (0, x)] [(0, x)] S h n) ∧
  (∀ (d : Nat) (x : Int) (l1 : Option mx_V) (v0 : mx_V) (S h : mx_H) (n : Int), mx_ex d 90 5 [some (2, x), l1] [v0] S h n = mx_ex d 90 6 [some (2, x), l1] [(2, x), v0] S h n) ∧
  (∀ (d : Nat) (a : Int) (l0 l1 : Option mx_V) (v1 : mx_V) (S h : mx_H) (n : Int), mx_ex d 90 6 [l0, l1] [(2, a), v1] S h n = mx_gd (8 ≤ S a (-2) ∧ S a (-2) ≤ 8) d 90 9 [l0, l1] [(0, h a 3), v1] S h n) ∧
  (∀ (d : Nat) (b a : Int) (l0 l1 : Option mx_V) (S h : mx_H) (n : Int), mx_ex d 90 9 [l0, l1] [(0, b), (0, a)] S h n = mx_br (a < b) d 90 12 21 [l0, l1] [] S h n) ∧
  (∀ (d : Nat) (x : Int) (l1 : Option mx_V) (S h : mx_H) (n : Int), mx_ex d 90 12 [some (2, x), l1] [] S h n = mx_ex d 90 13 [some (2, x), l1] [(2, x)] S h n) ∧
  (∀ (d : Nat) (a : Int) (l0 l1 : Option mx_V) (S h : mx_H) (n : Int), mx_ex d 90 13 [l0, l1] [(2, a)] S h n = mx_gd (8 ≤ S a (-2) ∧ S a (-2) ≤ 8) d 90 16 [l0, l1] [(2, S a 6)] S h n) ∧
  (∀ (d : Nat) (x : Int) (l0 : Option mx_V) (v0 : mx_V) (S h : mx_H) (n : Int), mx_ex d 90 16 [l0, some (0, x)] [v0] S h n = mx_ex d 90 17 [l0, some (0, x)] [(0, x), v0] S h n) ∧
  (∀ (d : Nat) (i a : Int) (l0 l1 : Option mx_V) (S h : mx_H) (n : Int), mx_ex d 90 17 [l0, l1] [(0, i), (2, a)] S h n = mx_gd (S a (-2) = 22 ∧ 0 ≤ i ∧ i < S a (-1)) d 90 18 [l0, l1] [(2, S a i)] S h n) ∧
  (∀ (d : Nat) (l0 l1 : Option mx_V) (v0 : mx_V) (S h : mx_H) (n : Int), mx_ex d 90 18 [l0, l1] [v0] S h n = mx_ex d 90 22 [l0, l1] [v0] S h n) ∧
  (∀ (d : Nat) (l0 l1 : Option mx_V) (S h : mx_H) (n : Int), mx_ex d 90 21 [l0, l1] [] S h n = mx_ex d 90 22 [l0, l1] [(2, (-1))] S h n) ∧
  (∀ (d : Nat) (x : Int) (l0 l1 : Option mx_V) (S h : mx_H) (n : Int), mx_ex d 90 22 [l0, l1] [(2, x)] S h n = some (some (2, x), S, h, n)) :=
  ⟨by intros; exact rfl,
   by intros; exact eq_ld rfl rfl,
   by intros; exact eq_if2 rfl,
   by intros; exact eq_ld rfl rfl,
   by intros; exact eq_ld rfl rfl,
   by intros; exact eq_gi rfl,
   by intros; exact eq_ic3 rfl,
   by intros; exact eq_ld rfl rfl,
   by intros; exact eq_gr rfl,
   by intros; exact eq_ld rfl rfl,
   by intros; exact eq_aald rfl,
   by intros; exact eq_go rfl,
   by intros; exact eq_push rfl,
   by intros; exact eq_ret rfl⟩
theorem rw_X10_addNote :
  (∀ (d : Nat) (a0 a1 a2 a3 a4 : Int) (S h : mx_H) (n : Int), mx_M d 91 [(2, a0), (0, a1), (0, a2), (0, a3), (2, a4)] S h n = mx_ex d 91 0 [some (2, a0), some (0, a1), some (0, a2), some (0, a3), some (2, a4), none] [] S h n) ∧
  (∀ (d : Nat) (x : Int) (l1 l2 l3 l4 l5 : Option mx_V) (S h : mx_H) (n : Int), mx_ex d 91 0 [some (2, x), l1, l2, l3, l4, l5] [] S h n = mx_ex d 91 1 [some (2, x), l1, l2, l3, l4, l5] [(2, x)] S h n) ∧
  (∀ (d : Nat) (a : Int) (l0 l1 l2 l3 l4 l5 : Option mx_V) (S h : mx_H) (n : Int), mx_ex d 91 1 [l0, l1, l2, l3, l4, l5] [(2, a)] S h n = mx_gd (8 ≤ S a (-2) ∧ S a (-2) ≤ 8) d 91 4 [l0, l1, l2, l3, l4, l5] [(0, h a 3)] S h n) ∧
  (∀ (d : Nat) (x : Int) (l0 l1 l2 l3 l4 l5 : Option mx_V) (S h : mx_H) (n : Int), mx_ex d 91 4 [l0, l1, l2, l3, l4, l5] [(0, x)] S h n = mx_ex d 91 6 [l0, l1, l2, l3, mx_nl l4, some (0, x)] [] S h n) ∧
  (∀ (d : Nat) (x : Int) (l0 l1 l2 l3 l4 : Option mx_V) (S h : mx_H) (n : Int), mx_ex d 91 6 [l0, l1, l2, l3, l4, some (0, x)] [] S h n = mx_ex d 91 8 [l0, l1, l2, l3, l4, some (0, x)] [(0, x)] S h n) ∧
  (∀ (d : Nat) (l0 l1 l2 l3 l4 l5 : Option mx_V) (v0 : mx_V) (S h : mx_H) (n : Int), mx_ex d 91 8 [l0, l1, l2, l3, l4, l5] [v0] S h n = mx_ex d 91 10 [l0, l1, l2, l3, l4, l5] [(0, 6), v0] S h n) ∧
  (∀ (d : Nat) (b a : Int) (l0 l1 l2 l3 l4 l5 : Option mx_V) (S h : mx_H) (n : Int), mx_ex d 91 10 [l0, l1, l2, l3, l4, l5] [(0, b), (0, a)] S h n = mx_br (a < b) d 91 16 13 [l0, l1, l2, l3, l4, l5] [] S h n) ∧
  (∀ (d : Nat) (l0 l1 l2 l3 l4 l5 : Option mx_V) (S h : mx_H) (n : Int), mx_ex d 91 13 [l0, l1, l2, l3, l4, l5] [] S h n = mx_ex d 91 15 [l0, l1, l2, l3, l4, l5] [(0, (-2))] S h n) ∧
  (∀ (d : Nat) (x : Int) (l0 l1 l2 l3 l4 l5 : Option mx_V) (S h : mx_H) (n : Int), mx_ex d 91 15 [l0, l1, l2, l3, l4, l5] [(0, x)] S h n = some (some (0, x), S, h, n)) ∧
  (∀ (d : Nat) (x : Int) (l0 l2 l3 l4 l5 : Option mx_V) (S h : mx_H) (n : Int), mx_ex d 91 16 [l0, some (0, x), l2, l3, l4, l5] [] S h n = mx_ex d 91 17 [l0, some (0, x), l2, l3, l4, l5] [(0, x)] S h n) ∧
  (∀ (d : Nat) (a : Int) (l0 l1 l2 l3 l4 l5 : Option mx_V) (S h : mx_H) (n : Int), mx_ex d 91 17 [l0, l1, l2, l3, l4, l5] [(0, a)] S h n = mx_sw a [(1, 52), (2, 75), (3, 98), (4, 121), (5, 144)] d 91 167 [l0, l1, l2, l3, l4, l5] [] S h n) ∧
  (∀ (d : Nat) (x : Int) (l1 l2 l3 l4 l5 : Option mx_V) (S h : mx_H) (n : Int), mx_ex d 91 52 [some (2, x), l1, l2, l3, l4, l5] [] S h n = mx_ex d 91 53 [some (2, x), l1, l2, l3, l4, l5] [(2, x)] S h n) ∧
  (∀ (d : Nat) (a : Int) (l0 l1 l2 l3 l4 l5 : Option mx_V) (S h : mx_H) (n : Int), mx_ex d 91 53 [l0, l1, l2, l3, l4, l5] [(2, a)] S h n = mx_gd (8 ≤ S a (-2) ∧ S a (-2) ≤ 8) d 91 56 [l0, l1, l2, l3, l4, l5] [(2, S a 6)] S h n) ∧
  (∀ (d : Nat) (x : Int) (l0 l1 l2 l3 l4 : Option mx_V) (v0 : mx_V) (S h : mx_H) (n : Int), mx_ex d 91 56 [l0, l1, l2, l3, l4, some (0, x)] [v0] S h n = mx_ex d 91 58 [l0, l1, l2, l3, l4, some (0, x)] [(0, x), v0] S h n) ∧
  (∀ (d : Nat) (l0 l1 l2 l3 l4 l5 : Option mx_V) (v0 v1 : mx_V) (S h : mx_H) (n : Int), mx_ex d 91 58 [l0, l1, l2, l3, l4, l5] [v0, v1] S h n = mx_ex d 91 61 [l0, l1, l2, l3, l4, l5] [(2, n), v0, v1] (mx_t S n 2 0) (mx_z h n) (n + 1)) ∧
  (∀ (d : Nat) (a : Int) (l0 l1 l2 l3 l4 l5 : Option mx_V) (v1 v2 : mx_V) (S h : mx_H) (n : Int), mx_ex d 91 61 [l0, l1, l2, l3, l4, l5] [(2, a), v1, v2] S h n = mx_ex d 91 62 [l0, l1, l2, l3, l4, l5] [(2, a), (2, a), v1, v2] S h n) ∧
  (∀ (d : Nat) (x : Int) (l0 l1 l2 l3 l4 : Option mx_V) (v0 v1 v2 v3 : mx_V) (S h : mx_H) (n : Int), mx_ex d 91 62 [l0, l1, l2, l3, l4, some (0, x)] [v0, v1, v2, v3] S h n = mx_ex d 91 64 [l0, l1, l2, l3, l4, some (0, x)] [(0, x), v0, v1, v2, v3] S h n) ∧
  (∀ (d : Nat) (x : Int) (l0 l1 l3 l4 l5 : Option mx_V) (v0 v1 v2 v3 v4 : mx_V) (S h : mx_H) (n : Int), mx_ex d 91 64 [l0, l1, some (0, x), l3, l4, l5] [v0, v1, v2, v3, v4] S h n = mx_ex d 91 65 [l0, l1, some (0, x), l3, l4, l5] [(0, x), v0, v1, v2, v3, v4] S h n) ∧
  (∀ (d : Nat) (x : Int) (l0 l1 l2 l4 l5 : Option mx_V) (v0 v1 v2 v3 v4 v5 : mx_V) (S h : mx_H) (n : Int), mx_ex d 91 65 [l0, l1, l2, some (0, x), l4, l5] [v0, v1, v2, v3, v4, v5] S h n = mx_ex d 91 66 [l0, l1, l2, some (0, x), l4, l5] [(0, x), v0, v1, v2, v3, v4, v5] S h n) ∧
  (∀ (d : Nat) (x : Int) (l0 l1 l2 l3 l5 : Option mx_V) (v0 v1 v2 v3 v4 v5 v6 : mx_V) (S h : mx_H) (n : Int), mx_ex d 91 66 [l0, l1, l2, l3, some (2, x), l5] [v0, v1, v2, v3, v4, v5, v6] S h n = mx_ex d 91 68 [l0, l1, l2, l3, some (2, x), l5] [(2, x), v0, v1, v2, v3, v4, v5, v6] S h n) ∧
  (∀ (d : Nat) (x0 x1 x2 x3 a : Int) (l0 l1 l2 l3 l4 l5 : Option mx_V) (v5 v6 v7 : mx_V) (S h : mx_H) (n : Int), mx_ex (d + 1) 91 68 [l0, l1, l2, l3, l4, l5] [(2, x0), (0, x1), (0, x2), (0, x3), (2, a), v5, v6, v7] S h n = mx_cl (1 ≤ S a (-2) ∧ S a (-2) ≤ 6) d 54 [(2, a), (0, x3), (0, x2), (0, x1), (2, x0)] 91 71 [l0, l1, l2, l3, l4, l5] [v5, v6, v7] S h n) ∧
  (∀ (d : Nat) (v i a : Int) (l0 l1 l2 l3 l4 l5 : Option mx_V) (S h : mx_H) (n : Int), mx_ex d 91 71 [l0, l1, l2, l3, l4, l5] [(2, v), (0, i), (2, a)] S h n = mx_gd (S a (-2) = 22 ∧ 0 ≤ i ∧ i < S a (-1) ∧ (v = -1 ∨ 1 ≤ S v (-2) ∧ S v (-2) ≤ 6)) d 91 72 [l0, l1, l2, l3, l4, l5] [] (mx_u S a i v) h n) ∧
  (∀ (d : Nat) (l0 l1 l2 l3 l4 l5 : Option mx_V) (S h : mx_H) (n : Int), mx_ex d 91 72 [l0, l1, l2, l3, l4, l5] [] S h n = mx_ex d 91 187 [l0, l1, l2, l3, l4, l5] [] S h n) ∧
  (∀ (d : Nat) (x : Int) (l1 l2 l3 l4 l5 : Option mx_V) (S h : mx_H) (n : Int), mx_ex d 91 75 [some (2, x), l1, l2, l3, l4, l5] [] S h n = mx_ex d 91 76 [some (2, x), l1, l2, l3, l4, l5] [(2, x)] S h n) ∧
  (∀ (d : Nat) (a : Int) (l0 l1 l2 l3 l4 l5 : Option mx_V) (S h : mx_H) (n : Int), mx_ex d 91 76 [l0, l1, l2, l3, l4, l5] [(2, a)] S h n = mx_gd (8 ≤ S a (-2) ∧ S a (-2) ≤ 8) d 91 79 [l0, l1, l2, l3, l4, l5] [(2, S a 6)] S h n) ∧
  (∀ (d : Nat) (x : Int) (l0 l1 l2 l3 l4 : Option mx_V) (v0 : mx_V) (S h : mx_H) (n : Int), mx_ex d 91 79 [l0, l1, l2, l3, l4, some (0, x)] [v0] S h n = mx_ex d 91 81 [l0, l1, l2, l3, l4, some (0, x)] [(0, x), v0] S h n) ∧
  (∀ (d : Nat) (l0 l1 l2 l3 l4 l5 : Option mx_V) (v0 v1 : mx_V) (S h : mx_H) (n : Int), mx_ex d 91 81 [l0, l1, l2, l3, l4, l5] [v0, v1] S h n = mx_ex d 91 84 [l0, l1, l2, l3, l4, l5] [(2, n), v0, v1] (mx_t S n 3 0) (mx_z h n) (n + 1)) ∧
  (∀ (d : Nat) (a : Int) (l0 l1 l2 l3 l4 l5 : Option mx_V) (v1 v2 : mx_V) (S h : mx_H) (n : Int), mx_ex d 91 84 [l0, l1, l2, l3, l4, l5] [(2, a), v1, v2] S h n = mx_ex d 91 85 [l0, l1, l2, l3, l4, l5] [(2, a), (2, a), v1, v2] S h n) ∧
  (∀ (d : Nat) (x : Int) (l0 l1 l2 l3 l4 : Option mx_V) (v0 v1 v2 v3 : mx_V) (S h : mx_H) (n : Int), mx_ex d 91 85 [l0, l1, l2, l3, l4, some (0, x)] [v0, v1, v2, v3] S h n = mx_ex d 91 87 [l0, l1, l2, l3, l4, some (0, x)] [(0, x), v0, v1, v2, v3] S h n) ∧
  (∀ (d : Nat) (x : Int) (l0 l1 l3 l4 l5 : Option mx_V) (v0 v1 v2 v3 v4 : mx_V) (S h : mx_H) (n : Int), mx_ex d 91 87 [l0, l1, some (0, x), l3, l4, l5] [v0, v1, v2, v3, v4] S h n = mx_ex d 91 88 [l0, l1, some (0, x), l3, l4, l5] [(0, x), v0, v1, v2, v3, v4] S h n) ∧
  (∀ (d : Nat) (x : Int) (l0 l1 l2 l4 l5 : Option mx_V) (v0 v1 v2 v3 v4 v5 : mx_V) (S h : mx_H) (n : Int), mx_ex d 91 88 [l0, l1, l2, some (0, x), l4, l5] [v0, v1, v2, v3, v4, v5] S h n = mx_ex d 91 89 [l0, l1, l2, some (0, x), l4, l5] [(0, x), v0, v1, v2, v3, v4, v5] S h n) ∧
  (∀ (d : Nat) (x : Int) (l0 l1 l2 l3 l5 : Option mx_V) (v0 v1 v2 v3 v4 v5 v6 : mx_V) (S h : mx_H) (n : Int), mx_ex d 91 89 [l0, l1, l2, l3, some (2, x), l5] [v0, v1, v2, v3, v4, v5, v6] S h n = mx_ex d 91 91 [l0, l1, l2, l3, some (2, x), l5] [(2, x), v0, v1, v2, v3, v4, v5, v6] S h n) ∧
  (∀ (d : Nat) (x0 x1 x2 x3 a : Int) (l0 l1 l2 l3 l4 l5 : Option mx_V) (v5 v6 v7 : mx_V) (S h : mx_H) (n : Int), mx_ex (d + 1) 91 91 [l0, l1, l2, l3, l4, l5] [(2, x0), (0, x1), (0, x2), (0, x3), (2, a), v5, v6, v7] S h n = mx_cl (1 ≤ S a (-2) ∧ S a (-2) ≤ 6) d 0 [(2, a), (0, x3), (0, x2), (0, x1), (2, x0)] 91 94 [l0, l1, l2, l3, l4, l5] [v5, v6, v7] S h n) ∧
  (∀ (d : Nat) (v i a : Int) (l0 l1 l2 l3 l4 l5 : Option mx_V) (S h : mx_H) (n : Int), mx_ex d 91 94 [l0, l1, l2, l3, l4, l5] [(2, v), (0, i), (2, a)] S h n = mx_gd (S a (-2) = 22 ∧ 0 ≤ i ∧ i < S a (-1) ∧ (v = -1 ∨ 1 ≤ S v (-2) ∧ S v (-2) ≤ 6)) d 91 95 [l0, l1, l2, l3, l4, l5] [] (mx_u S a i v) h n) ∧
  (∀ (d : Nat) (l0 l1 l2 l3 l4 l5 : Option mx_V) (S h : mx_H) (n : Int), mx_ex d 91 95 [l0, l1, l2, l3, l4, l5] [] S h n = mx_ex d 91 187 [l0, l1, l2, l3, l4, l5] [] S h n) ∧
  (∀ (d : Nat) (x : Int) (l1 l2 l3 l4 l5 : Option mx_V) (S h : mx_H) (n : Int), mx_ex d 91 98 [some (2, x), l1, l2, l3, l4, l5] [] S h n = mx_ex d 91 99 [some (2, x), l1, l2, l3, l4, l5] [(2, x)] S h n) ∧
  (∀ (d : Nat) (a : Int) (l0 l1 l2 l3 l4 l5 : Option mx_V) (S h : mx_H) (n : Int), mx_ex d 91 99 [l0, l1, l2, l3, l4, l5] [(2, a)] S h n = mx_gd (8 ≤ S a (-2) ∧ S a (-2) ≤ 8) d 91 102 [l0, l1, l2, l3, l4, l5] [(2, S a 6)] S h n) ∧
  (∀ (d : Nat) (x : Int) (l0 l1 l2 l3 l4 : Option mx_V) (v0 : mx_V) (S h : mx_H) (n : Int), mx_ex d 91 102 [l0, l1, l2, l3, l4, some (0, x)] [v0] S h n = mx_ex d 91 104 [l0, l1, l2, l3, l4, some (0, x)] [(0, x), v0] S h n) ∧
  (∀ (d : Nat) (l0 l1 l2 l3 l4 l5 : Option mx_V) (v0 v1 : mx_V) (S h : mx_H) (n : Int), mx_ex d 91 104 [l0, l1, l2, l3, l4, l5] [v0, v1] S h n = mx_ex d 91 107 [l0, l1, l2, l3, l4, l5] [(2, n), v0, v1] (mx_t S n 4 0) (mx_z h n) (n + 1)) ∧
  (∀ (d : Nat) (a : Int) (l0 l1 l2 l3 l4 l5 : Option mx_V) (v1 v2 : mx_V) (S h : mx_H) (n : Int), mx_ex d 91 107 [l0, l1, l2, l3, l4, l5] [(2, a), v1, v2] S h n = mx_ex d 91 108 [l0, l1, l2, l3, l4, l5] [(2, a), (2, a), v1, v2] S h n) ∧
  (∀ (d : Nat) (x : Int) (l0 l1 l2 l3 l4 : Option mx_V) (v0 v1 v2 v3 : mx_V) (S h : mx_H) (n : Int), mx_ex d 91 108 [l0, l1, l2, l3, l4, some (0, x)] [v0, v1, v2, v3] S h n = mx_ex d 91 110 [l0, l1, l2, l3, l4, some (0, x)] [(0, x), v0, v1, v2, v3] S h n) ∧
  (∀ (d : Nat) (x : Int) (l0 l1 l3 l4 l5 : Option mx_V) (v0 v1 v2 v3 v4 : mx_V) (S h : mx_H) (n : Int), mx_ex d 91 110 [l0, l1, some (0, x), l3, l4, l5] [v0, v1, v2, v3, v4] S h n = mx_ex d 91 111 [l0, l1, some (0, x), l3, l4, l5] [(0, x), v0, v1, v2, v3, v4] S h n) ∧
  (∀ (d : Nat) (x : Int) (l0 l1 l2 l4 l5 : Option mx_V) (v0 v1 v2 v3 v4 v5 : mx_V) (S h : mx_H) (n : Int), mx_ex d 91 111 [l0, l1, l2, some (0, x), l4, l5] [v0, v1, v2, v3, v4, v5] S h n = mx_ex d 91 112 [l0, l1, l2, some (0, x), l4, l5] [(0, x), v0, v1, v2, v3, v4, v5] S h n) ∧
  (∀ (d : Nat) (x : Int) (l0 l1 l2 l3 l5 : Option mx_V) (v0 v1 v2 v3 v4 v5 v6 : mx_V) (S h : mx_H) (n : Int), mx_ex d 91 112 [l0, l1, l2, l3, some (2, x), l5] [v0, v1, v2, v3, v4, v5, v6] S h n = mx_ex d 91 114 [l0, l1, l2, l3, some (2, x), l5] [(2, x), v0, v1, v2, v3, v4, v5, v6] S h n) ∧
  (∀ (d : Nat) (x0 x1 x2 x3 a : Int) (l0 l1 l2 l3 l4 l5 : Option mx_V) (v5 v6 v7 : mx_V) (S h : mx_H) (n : Int), mx_ex (d + 1) 91 114 [l0, l1, l2, l3, l4, l5] [(2, x0), (0, x1), (0, x2), (0, x3), (2, a), v5, v6, v7] S h n = mx_cl (1 ≤ S a (-2) ∧ S a (-2) ≤ 6) d 33 [(2, a), (0, x3), (0, x2), (0, x1), (2, x0)] 91 117 [l0, l1, l2, l3, l4, l5] [v5, v6, v7] S h n) ∧
  (∀ (d : Nat) (v i a : Int) (l0 l1 l2 l3 l4 l5 : Option mx_V) (S h : mx_H) (n : Int), mx_ex d 91 117 [l0, l1, l2, l3, l4, l5] [(2, v), (0, i), (2, a)] S h n = mx_gd (S a (-2) = 22 ∧ 0 ≤ i ∧ i < S a (-1) ∧ (v = -1 ∨ 1 ≤ S v (-2) ∧ S v (-2) ≤ 6)) d 91 118 [l0, l1, l2, l3, l4, l5] [] (mx_u S a i v) h n) ∧
  (∀ (d : Nat) (l0 l1 l2 l3 l4 l5 : Option mx_V) (S h : mx_H) (n : Int), mx_ex d 91 118 [l0, l1, l2, l3, l4, l5] [] S h n = mx_ex d 91 187 [l0, l1, l2, l3, l4, l5] [] S h n) ∧
  (∀ (d : Nat) (x : Int) (l1 l2 l3 l4 l5 : Option mx_V) (S h : mx_H) (n : Int), mx_ex d 91 121 [some (2, x), l1, l2, l3, l4, l5] [] S h n = mx_ex d 91 122 [some (2, x), l1, l2, l3, l4, l5] [(2, x)] S h n) ∧
  (∀ (d : Nat) (a : Int) (l0 l1 l2 l3 l4 l5 : Option mx_V) (S h : mx_H) (n : Int), mx_ex d 91 122 [l0, l1, l2, l3, l4, l5] [(2, a)] S h n = mx_gd (8 ≤ S a (-2) ∧ S a (-2) ≤ 8) d 91 125 [l0, l1, l2, l3, l4, l5] [(2, S a 6)] S h n) ∧
  (∀ (d : Nat) (x : Int) (l0 l1 l2 l3 l4 : Option mx_V) (v0 : mx_V) (S h : mx_H) (n : Int), mx_ex d 91 125 [l0, l1, l2, l3, l4, some (0, x)] [v0] S h n = mx_ex d 91 127 [l0, l1, l2, l3, l4, some (0, x)] [(0, x), v0] S h n) ∧
  (∀ (d : Nat) (l0 l1 l2 l3 l4 l5 : Option mx_V) (v0 v1 : mx_V) (S h : mx_H) (n : Int), mx_ex d 91 127 [l0, l1, l2, l3, l4, l5] [v0, v1] S h n = mx_ex d 91 130 [l0, l1, l2, l3, l4, l5] [(2, n), v0, v1] (mx_t S n 5 0) (mx_z h n) (n + 1)) ∧
  (∀ (d : Nat) (a : Int) (l0 l1 l2 l3 l4 l5 : Option mx_V) (v1 v2 : mx_V) (S h : mx_H) (n : Int), mx_ex d 91 130 [l0, l1, l2, l3, l4, l5] [(2, a), v1, v2] S h n = mx_ex d 91 131 [l0, l1, l2, l3, l4, l5] [(2, a), (2, a), v1, v2] S h n) ∧
  (∀ (d : Nat) (x : Int) (l0 l1 l2 l3 l4 : Option mx_V) (v0 v1 v2 v3 : mx_V) (S h : mx_H) (n : Int), mx_ex d 91 131 [l0, l1, l2, l3, l4, some (0, x)] [v0, v1, v2, v3] S h n = mx_ex d 91 133 [l0, l1, l2, l3, l4, some (0, x)] [(0, x), v0, v1, v2, v3] S h n) ∧
  (∀ (d : Nat) (x : Int) (l0 l1 l3 l4 l5 : Option mx_V) (v0 v1 v2 v3 v4 : mx_V) (S h : mx_H) (n : Int), mx_ex d 91 133 [l0, l1, some (0, x), l3, l4, l5] [v0, v1, v2, v3, v4] S h n = mx_ex d 91 134 [l0, l1, some (0, x), l3, l4, l5] [(0, x), v0, v1, v2, v3, v4] S h n) ∧
  (∀ (d : Nat) (x : Int) (l0 l1 l2 l4 l5 : Option mx_V) (v0 v1 v2 v3 v4 v5 : mx_V) (S h : mx_H) (n : Int), mx_ex d 91 134 [l0, l1, l2, some (0, x), l4, l5] [v0, v1, v2, v3, v4, v5] S h n = mx_ex d 91 135 [l0, l1, l2, some (0, x), l4, l5] [(0, x), v0, v1, v2, v3, v4, v5] S h n) ∧
  (∀ (d : Nat) (x : Int) (l0 l1 l2 l3 l5 : Option mx_V) (v0 v1 v2 v3 v4 v5 v6 : mx_V) (S h : mx_H) (n : Int), mx_ex d 91 135 [l0, l1, l2, l3, some (2, x), l5] [v0, v1, v2, v3, v4, v5, v6] S h n = mx_ex d 91 137 [l0, l1, l2, l3, some (2, x), l5] [(2, x), v0, v1, v2, v3, v4, v5, v6] S h n) ∧
  (∀ (d : Nat) (x0 x1 x2 x3 a : Int) (l0 l1 l2 l3 l4 l5 : Option mx_V) (v5 v6 v7 : mx_V) (S h : mx_H) (n : Int), mx_ex (d + 1) 91 137 [l0, l1, l2, l3, l4, l5] [(2, x0), (0, x1), (0, x2), (0, x3), (2, a), v5, v6, v7] S h n = mx_cl (1 ≤ S a (-2) ∧ S a (-2) ≤ 6) d 79 [(2, a), (0, x3), (0, x2), (0, x1), (2, x0)] 91 140 [l0, l1, l2, l3, l4, l5] [v5, v6, v7] S h n) ∧
  (∀ (d : Nat) (v i a : Int) (l0 l1 l2 l3 l4 l5 : Option mx_V) (S h : mx_H) (n : Int), mx_ex d 91 140 [l0, l1, l2, l3, l4, l5] [(2, v), (0, i), (2, a)] S h n = mx_gd (S a (-2) = 22 ∧ 0 ≤ i ∧ i < S a (-1) ∧ (v = -1 ∨ 1 ≤ S v (-2) ∧ S v (-2) ≤ 6)) d 91 141 [l0, l1, l2, l3, l4, l5] [] (mx_u S a i v) h n) ∧
  (∀ (d : Nat) (l0 l1 l2 l3 l4 l5 : Option mx_V) (S h : mx_H) (n : Int), mx_ex d 91 141 [l0, l1, l2, l3, l4, l5] [] S h n = mx_ex d 91 187 [l0, l1, l2, l3, l4, l5] [] S h n) ∧
  (∀ (d : Nat) (x : Int) (l1 l2 l3 l4 l5 : Option mx_V) (S h : mx_H) (n : Int), mx_ex d 91 144 [some (2, x), l1, l2, l3, l4, l5] [] S h n = mx_ex d 91 145 [some (2, x), l1, l2, l3, l4, l5] [(2, x)] S h n) ∧
  (∀ (d : Nat) (a : Int) (l0 l1 l2 l3 l4 l5 : Option mx_V) (S h : mx_H) (n : Int), mx_ex d 91 145 [l0, l1, l2, l3, l4, l5] [(2, a)] S h n = mx_gd (8 ≤ S a (-2) ∧ S a (-2) ≤ 8) d 91 148 [l0, l1, l2, l3, l4, l5] [(2, S a 6)] S h n) ∧
  (∀ (d : Nat) (x : Int) (l0 l1 l2 l3 l4 : Option mx_V) (v0 : mx_V) (S h : mx_H) (n : Int), mx_ex d 91 148 [l0, l1, l2, l3, l4, some (0, x)] [v0] S h n = mx_ex d 91 150 [l0, l1, l2, l3, l4, some (0, x)] [(0, x), v0] S h n) ∧
  (∀ (d : Nat) (l0 l1 l2 l3 l4 l5 : Option mx_V) (v0 v1 : mx_V) (S h : mx_H) (n : Int), mx_ex d 91 150 [l0, l1, l2, l3, l4, l5] [v0, v1] S h n = mx_ex d 91 153 [l0, l1, l2, l3, l4, l5] [(2, n), v0, v1] (mx_t S n 6 0) (mx_z h n) (n + 1)) ∧
  (∀ (d : Nat) (a : Int) (l0 l1 l2 l3 l4 l5 : Option mx_V) (v1 v2 : mx_V) (S h : mx_H) (n : Int), mx_ex d 91 153 [l0, l1, l2, l3, l4, l5] [(2, a), v1, v2] S h n = mx_ex d 91 154 [l0, l1, l2, l3, l4, l5] [(2, a), (2, a), v1, v2] S h n) ∧
  (∀ (d : Nat) (x : Int) (l0 l1 l2 l3 l4 : Option mx_V) (v0 v1 v2 v3 : mx_V) (S h : mx_H) (n : Int), mx_ex d 91 154 [l0, l1, l2, l3, l4, some (0, x)] [v0, v1, v2, v3] S h n = mx_ex d 91 156 [l0, l1, l2, l3, l4, some (0, x)] [(0, x), v0, v1, v2, v3] S h n) ∧
  (∀ (d : Nat) (x : Int) (l0 l1 l3 l4 l5 : Option mx_V) (v0 v1 v2 v3 v4 : mx_V) (S h : mx_H) (n : Int), mx_ex d 91 156 [l0, l1, some (0, x), l3, l4, l5] [v0, v1, v2, v3, v4] S h n = mx_ex d 91 157 [l0, l1, some (0, x), l3, l4, l5] [(0, x), v0, v1, v2, v3, v4] S h n) ∧
  (∀ (d : Nat) (x : Int) (l0 l1 l2 l4 l5 : Option mx_V) (v0 v1 v2 v3 v4 v5 : mx_V) (S h : mx_H) (n : Int), mx_ex d 91 157 [l0, l1, l2, some (0, x), l4, l5] [v0, v1, v2, v3, v4, v5] S h n = mx_ex d 91 158 [l0, l1, l2, some (0, x), l4, l5] [(0, x), v0, v1, v2, v3, v4, v5] S h n) ∧
  (∀ (d : Nat) (x : Int) (l0 l1 l2 l3 l5 : Option mx_V) (v0 v1 v2 v3 v4 v5 v6 : mx_V) (S h : mx_H) (n : Int), mx_ex d 91 158 [l0, l1, l2, l3, some (2, x), l5] [v0, v1, v2, v3, v4, v5, v6] S h n = mx_ex d 91 160 [l0, l1, l2, l3, some (2, x), l5] [(2, x), v0, v1, v2, v3, v4, v5, v6] S h n) ∧
  (∀ (d : Nat) (x0 x1 x2 x3 a : Int) (l0 l1 l2 l3 l4 l5 : Option mx_V) (v5 v6 v7 : mx_V) (S h : mx_H) (n : Int), mx_ex (d + 1) 91 160 [l0, l1, l2, l3, l4, l5] [(2, x0), (0, x1), (0, x2), (0, x3), (2, a), v5, v6, v7] S h n = mx_cl (1 ≤ S a (-2) ∧ S a (-2) ≤ 6) d 7 [(2, a), (0, x3), (0, x2), (0, x1), (2, x0)] 91 163 [l0, l1, l2, l3, l4, l5] [v5, v6, v7] S h n) ∧
  (∀ (d : Nat) (v i a : Int) (l0 l1 l2 l3 l4 l5 : Option mx_V) (S h : mx_H) (n : Int), mx_ex d 91 163 [l0, l1, l2, l3, l4, l5] [(2, v), (0, i), (2, a)] S h n = mx_gd (S a (-2) = 22 ∧ 0 ≤ i ∧ i < S a (-1) ∧ (v = -1 ∨ 1 ≤ S v (-2) ∧ S v (-2) ≤ 6)) d 91 164 [l0, l1, l2, l3, l4, l5] [] (mx_u S a i v) h n) :=
  ⟨by intros; exact rfl,
   by intros; exact eq_ld rfl rfl,
   by intros; exact eq_gi rfl,
   by intros; exact eq_st rfl (by decide) (Nat.le_of_ble_eq_true rfl) rfl,
   by intros; exact eq_ld rfl rfl,
   by intros; exact eq_push rfl,
   by intros; exact eq_ic2 rfl,
   by intros; exact eq_push rfl,
   by intros; exact eq_ret rfl,
   by intros; exact eq_ld rfl rfl,
   by intros; exact eq_sw rfl,
   by intros; exact eq_ld rfl rfl,
   by intros; exact eq_gr rfl,
   by intros; exact eq_ld rfl rfl,
   by intros; exact eq_new rfl,
   by intros; exact eq_dup rfl (by decide),
   by intros; exact eq_ld rfl rfl,
   by intros; exact eq_ld rfl rfl,
   by intros; exact eq_ld rfl rfl,
   by intros; exact eq_ld rfl rfl,
   by intros; exact eq_ci rfl (Nat.le_of_ble_eq_true rfl) rfl rfl rfl (Nat.le_of_ble_eq_true rfl),
   by intros; exact eq_aast rfl,
   by intros; exact eq_go rfl,
   by intros; exact eq_ld rfl rfl,
   by intros; exact eq_gr rfl,
   by intros; exact eq_ld rfl rfl,
   by intros; exact eq_new rfl,
   by intros; exact eq_dup rfl (by decide),
   by intros; exact eq_ld rfl rfl,
   by intros; exact eq_ld rfl rfl,
   by intros; exact eq_ld rfl rfl,
   by intros; exact eq_ld rfl rfl,
   by intros; exact eq_ci rfl (Nat.le_of_ble_eq_true rfl) rfl rfl rfl (Nat.le_of_ble_eq_true rfl),
   by intros; exact eq_aast rfl,
   by intros; exact eq_go rfl,
   by intros; exact eq_ld rfl rfl,
   by intros; exact eq_gr rfl,
   by intros; exact eq_ld rfl rfl,
   by intros; exact eq_new rfl,
   by intros; exact eq_dup rfl (by decide),
   by intros; exact eq_ld rfl rfl,
   by intros; exact eq_ld rfl rfl,
   by intros; exact eq_ld rfl rfl,
   by intros; exact eq_ld rfl rfl,
   by intros; exact eq_ci rfl (Nat.le_of_ble_eq_true rfl) rfl rfl rfl (Nat.le_of_ble_eq_true rfl),
   by intros; exact eq_aast rfl,
   by intros; exact eq_go rfl,
   by intros; exact eq_ld rfl rfl,
   by intros; exact eq_gr rfl,
   by intros; exact eq_ld rfl rfl,
   by intros; exact eq_new rfl,
   by intros; exact eq_dup rfl (by decide),
   by intros; exact eq_ld rfl rfl,
   by intros; exact eq_ld rfl rfl,
   by intros; exact eq_ld rfl rfl,
   by intros; exact eq_ld rfl rfl,
   by intros; exact eq_ci rfl (Nat.le_of_ble_eq_true rfl) rfl rfl rfl (Nat.le_of_ble_eq_true rfl),
   by intros; exact eq_aast rfl,
   by intros; exact eq_go rfl,
   by intros; exact eq_ld rfl rfl,
   by intros; exact eq_gr rfl,
   by intros; exact eq_ld rfl rfl,
   by intros; exact eq_new rfl,
   by intros; exact eq_dup rfl (by decide),
   by intros; exact eq_ld rfl rfl,
   by intros; exact eq_ld rfl rfl,
   by intros; exact eq_ld rfl rfl,
   by intros; exact eq_ld rfl rfl,
   by intros; exact eq_ci rfl (Nat.le_of_ble_eq_true rfl) rfl rfl rfl (Nat.le_of_ble_eq_true rfl),
   by intros; exact eq_aast rfl⟩
theorem rw_X10_addNote_1 :
  (∀ (d : Nat) (l0 l1 l2 l3 l4 l5 : Option mx_V) (S h : mx_H) (n : Int), mx_ex d 91 164 [l0, l1, l2, l3, l4, l5] [] S h n = mx_ex d 91 187 [l0, l1, l2, l3, l4, l5] [] S h n) ∧
  (∀ (d : Nat) (x : Int) (l1 l2 l3 l4 l5 : Option mx_V) (S h : mx_H) (n : Int), mx_ex d 91 167 [some (2, x), l1, l2, l3, l4, l5] [] S h n = mx_ex d 91 168 [some (2, x), l1, l2, l3, l4, l5] [(2, x)] S h n) ∧
  (∀ (d : Nat) (a : Int) (l0 l1 l2 l3 l4 l5 : Option mx_V) (S h : mx_H) (n : Int), mx_ex d 91 168 [l0, l1, l2, l3, l4, l5] [(2, a)] S h n = mx_gd (8 ≤ S a (-2) ∧ S a (-2) ≤ 8) d 91 171 [l0, l1, l2, l3, l4, l5] [(2, S a 6)] S h n) ∧
  (∀ (d : Nat) (x : Int) (l0 l1 l2 l3 l4 : Option mx_V) (v0 : mx_V) (S h : mx_H) (n : Int), mx_ex d 91 171 [l0, l1, l2, l3, l4, some (0, x)] [v0] S h n = mx_ex d 91 173 [l0, l1, l2, l3, l4, some (0, x)] [(0, x), v0] S h n) ∧
  (∀ (d : Nat) (l0 l1 l2 l3 l4 l5 : Option mx_V) (v0 v1 : mx_V) (S h : mx_H) (n : Int), mx_ex d 91 173 [l0, l1, l2, l3, l4, l5] [v0, v1] S h n = mx_ex d 91 176 [l0, l1, l2, l3, l4, l5] [(2, n), v0, v1] (mx_t S n 1 0) (mx_z h n) (n + 1)) ∧
  (∀ (d : Nat) (a : Int) (l0 l1 l2 l3 l4 l5 : Option mx_V) (v1 v2 : mx_V) (S h : mx_H) (n : Int), mx_ex d 91 176 [l0, l1, l2, l3, l4, l5] [(2, a), v1, v2] S h n = mx_ex d 91 177 [l0, l1, l2, l3, l4, l5] [(2, a), (2, a), v1, v2] S h n) ∧
  (∀ (d : Nat) (x : Int) (l0 l1 l2 l3 l4 : Option mx_V) (v0 v1 v2 v3 : mx_V) (S h : mx_H) (n : Int), mx_ex d 91 177 [l0, l1, l2, l3, l4, some (0, x)] [v0, v1, v2, v3] S h n = mx_ex d 91 179 [l0, l1, l2, l3, l4, some (0, x)] [(0, x), v0, v1, v2, v3] S h n) ∧
  (∀ (d : Nat) (x : Int) (l0 l1 l3 l4 l5 : Option mx_V) (v0 v1 v2 v3 v4 : mx_V) (S h : mx_H) (n : Int), mx_ex d 91 179 [l0, l1, some (0, x), l3, l4, l5] [v0, v1, v2, v3, v4] S h n = mx_ex d 91 180 [l0, l1, some (0, x), l3, l4, l5] [(0, x), v0, v1, v2, v3, v4] S h n) ∧
  (∀ (d : Nat) (x : Int) (l0 l1 l2 l4 l5 : Option mx_V) (v0 v1 v2 v3 v4 v5 : mx_V) (S h : mx_H) (n : Int), mx_ex d 91 180 [l0, l1, l2, some (0, x), l4, l5] [v0, v1, v2, v3, v4, v5] S h n = mx_ex d 91 181 [l0, l1, l2, some (0, x), l4, l5] [(0, x), v0, v1, v2, v3, v4, v5] S h n) ∧
  (∀ (d : Nat) (x : Int) (l0 l1 l2 l3 l5 : Option mx_V) (v0 v1 v2 v3 v4 v5 v6 : mx_V) (S h : mx_H) (n : Int), mx_ex d 91 181 [l0, l1, l2, l3, some (2, x), l5] [v0, v1, v2, v3, v4, v5, v6] S h n = mx_ex d 91 183 [l0, l1, l2, l3, some (2, x), l5] [(2, x), v0, v1, v2, v3, v4, v5, v6] S h n) ∧
  (∀ (d : Nat) (x0 x1 x2 x3 a : Int) (l0 l1 l2 l3 l4 l5 : Option mx_V) (v5 v6 v7 : mx_V) (S h : mx_H) (n : Int), mx_ex (d + 1) 91 183 [l0, l1, l2, l3, l4, l5] [(2, x0), (0, x1), (0, x2), (0, x3), (2, a), v5, v6, v7] S h n = mx_cl (1 ≤ S a (-2) ∧ S a (-2) ≤ 6) d 38 [(2, a), (0, x3), (0, x2), (0, x1), (2, x0)] 91 186 [l0, l1, l2, l3, l4, l5] [v5, v6, v7] S h n) ∧
  (∀ (d : Nat) (v i a : Int) (l0 l1 l2 l3 l4 l5 : Option mx_V) (S h : mx_H) (n : Int), mx_ex d 91 186 [l0, l1, l2, l3, l4, l5] [(2, v), (0, i), (2, a)] S h n = mx_gd (S a (-2) = 22 ∧ 0 ≤ i ∧ i < S a (-1) ∧ (v = -1 ∨ 1 ≤ S v (-2) ∧ S v (-2) ≤ 6)) d 91 187 [l0, l1, l2, l3, l4, l5] [] (mx_u S a i v) h n) ∧
  (∀ (d : Nat) (x : Int) (l1 l2 l3 l4 l5 : Option mx_V) (S h : mx_H) (n : Int), mx_ex d 91 187 [some (2, x), l1, l2, l3, l4, l5] [] S h n = mx_ex d 91 188 [some (2, x), l1, l2, l3, l4, l5] [(2, x)] S h n) ∧
  (∀ (d : Nat) (a : Int) (l0 l1 l2 l3 l4 l5 : Option mx_V) (S h : mx_H) (n : Int), mx_ex d 91 188 [l0, l1, l2, l3, l4, l5] [(2, a)] S h n = mx_ex d 91 189 [l0, l1, l2, l3, l4, l5] [(2, a), (2, a)] S h n) ∧
  (∀ (d : Nat) (a : Int) (l0 l1 l2 l3 l4 l5 : Option mx_V) (v1 : mx_V) (S h : mx_H) (n : Int), mx_ex d 91 189 [l0, l1, l2, l3, l4, l5] [(2, a), v1] S h n = mx_gd (8 ≤ S a (-2) ∧ S a (-2) ≤ 8) d 91 192 [l0, l1, l2, l3, l4, l5] [(0, h a 3), v1] S h n) ∧
  (∀ (d : Nat) (l0 l1 l2 l3 l4 l5 : Option mx_V) (v0 v1 : mx_V) (S h : mx_H) (n : Int), mx_ex d 91 192 [l0, l1, l2, l3, l4, l5] [v0, v1] S h n = mx_ex d 91 193 [l0, l1, l2, l3, l4, l5] [(0, 1), v0, v1] S h n) ∧
  (∀ (d : Nat) (b a : Int) (l0 l1 l2 l3 l4 l5 : Option mx_V) (v2 : mx_V) (S h : mx_H) (n : Int), mx_ex d 91 193 [l0, l1, l2, l3, l4, l5] [(0, b), (0, a), v2] S h n = mx_ex d 91 194 [l0, l1, l2, l3, l4, l5] [(0, mx_w (a + b)), v2] S h n) ∧
  (∀ (d : Nat) (v a : Int) (l0 l1 l2 l3 l4 l5 : Option mx_V) (S h : mx_H) (n : Int), mx_ex d 91 194 [l0, l1, l2, l3, l4, l5] [(0, v), (2, a)] S h n = mx_gd (8 ≤ S a (-2) ∧ S a (-2) ≤ 8) d 91 197 [l0, l1, l2, l3, l4, l5] [] S (mx_u h a 3 v) n) ∧
  (∀ (d : Nat) (x : Int) (l1 l2 l3 l4 l5 : Option mx_V) (S h : mx_H) (n : Int), mx_ex d 91 197 [some (2, x), l1, l2, l3, l4, l5] [] S h n = mx_ex d 91 198 [some (2, x), l1, l2, l3, l4, l5] [(2, x)] S h n) ∧
  (∀ (d : Nat) (a : Int) (l0 l1 l2 l3 l4 l5 : Option mx_V) (S h : mx_H) (n : Int), mx_ex d 91 198 [l0, l1, l2, l3, l4, l5] [(2, a)] S h n = mx_ex d 91 199 [l0, l1, l2, l3, l4, l5] [(2, a), (2, a)] S h n) ∧
  (∀ (d : Nat) (a : Int) (l0 l1 l2 l3 l4 l5 : Option mx_V) (v1 : mx_V) (S h : mx_H) (n : Int), mx_ex d 91 199 [l0, l1, l2, l3, l4, l5] [(2, a), v1] S h n = mx_gd (8 ≤ S a (-2) ∧ S a (-2) ≤ 8) d 91 202 [l0, l1, l2, l3, l4, l5] [(0, h a 5), v1] S h n) ∧
  (∀ (d : Nat) (l0 l1 l2 l3 l4 l5 : Option mx_V) (v0 v1 : mx_V) (S h : mx_H) (n : Int), mx_ex d 91 202 [l0, l1, l2, l3, l4, l5] [v0, v1] S h n = mx_ex d 91 203 [l0, l1, l2, l3, l4, l5] [(0, 1), v0, v1] S h n) ∧
  (∀ (d : Nat) (b a : Int) (l0 l1 l2 l3 l4 l5 : Option mx_V) (v2 : mx_V) (S h : mx_H) (n : Int), mx_ex d 91 203 [l0, l1, l2, l3, l4, l5] [(0, b), (0, a), v2] S h n = mx_ex d 91 204 [l0, l1, l2, l3, l4, l5] [(0, mx_w (a + b)), v2] S h n) ∧
  (∀ (d : Nat) (v a : Int) (l0 l1 l2 l3 l4 l5 : Option mx_V) (S h : mx_H) (n : Int), mx_ex d 91 204 [l0, l1, l2, l3, l4, l5] [(0, v), (2, a)] S h n = mx_gd (8 ≤ S a (-2) ∧ S a (-2) ≤ 8) d 91 207 [l0, l1, l2, l3, l4, l5] [] S (mx_u h a 5 v) n) ∧
  (∀ (d : Nat) (x : Int) (l0 l1 l2 l3 l4 : Option mx_V) (S h : mx_H) (n : Int), mx_ex d 91 207 [l0, l1, l2, l3, l4, some (0, x)] [] S h n = mx_ex d 91 209 [l0, l1, l2, l3, l4, some (0, x)] [(0, x)] S h n) ∧
  (∀ (d : Nat) (x : Int) (l0 l1 l2 l3 l4 l5 : Option mx_V) (S h : mx_H) (n : Int), mx_ex d 91 209 [l0, l1, l2, l3, l4, l5] [(0, x)] S h n = some (some (0, x), S, h, n)) :=
  ⟨by intros; exact eq_go rfl,
   by intros; exact eq_ld rfl rfl,
   by intros; exact eq_gr rfl,
   by intros; exact eq_ld rfl rfl,
   by intros; exact eq_new rfl,
   by intros; exact eq_dup rfl (by decide),
   by intros; exact eq_ld rfl rfl,
   by intros; exact eq_ld rfl rfl,
   by intros; exact eq_ld rfl rfl,
   by intros; exact eq_ld rfl rfl,
   by intros; exact eq_ci rfl (Nat.le_of_ble_eq_true rfl) rfl rfl rfl (Nat.le_of_ble_eq_true rfl),
   by intros; exact eq_aast rfl,
   by intros; exact eq_ld rfl rfl,
   by intros; exact eq_dup rfl (by decide),
   by intros; exact eq_gi rfl,
   by intros; exact eq_push rfl,
   by intros; exact eq_i2 (o := mx_add) rfl,
   by intros; exact eq_pi rfl,
   by intros; exact eq_ld rfl rfl,
   by intros; exact eq_dup rfl (by decide),
   by intros; exact eq_gi rfl,
   by intros; exact eq_push rfl,
   by intros; exact eq_i2 (o := mx_add) rfl,
   by intros; exact eq_pi rfl,
   by intros; exact eq_ld rfl rfl,
   by intros; exact eq_ret rfl⟩
theorem rw_X10_addLine :
  (∀ (d : Nat) (a0 a1 a2 a3 a4 : Int) (S h : mx_H) (n : Int), mx_M d 92 [(2, a0), (0, a1), (0, a2), (0, a3), (0, a4)] S h n = mx_ex d 92 0 [some (2, a0), some (0, a1), some (0, a2), some (0, a3), some (0, a4), none] [] S h n) ∧
  (∀ (d : Nat) (x : Int) (l1 l2 l3 l4 l5 : Option mx_V) (S h : mx_H) (n : Int), mx_ex d 92 0 [some (2, x), l1, l2, l3, l4, l5] [] S h n = mx_ex d 92 1 [some (2, x), l1, l2, l3, l4, l5] [(2, x)] S h n) ∧
  (∀ (d : Nat) (a : Int) (l0 l1 l2 l3 l4 l5 : Option mx_V) (S h : mx_H) (n : Int), mx_ex d 92 1 [l0, l1, l2, l3, l4, l5] [(2, a)] S h n = mx_gd (8 ≤ S a (-2) ∧ S a (-2) ≤ 8) d 92 4 [l0, l1, l2, l3, l4, l5] [(0, h a 4)] S h n) ∧
  (∀ (d : Nat) (l0 l1 l2 l3 l4 l5 : Option mx_V) (v0 : mx_V) (S h : mx_H) (n : Int), mx_ex d 92 4 [l0, l1, l2, l3, l4, l5] [v0] S h n = mx_ex d 92 6 [l0, l1, l2, l3, l4, l5] [(0, 6), v0] S h n) ∧
  (∀ (d : Nat) (b a : Int) (l0 l1 l2 l3 l4 l5 : Option mx_V) (S h : mx_H) (n : Int), mx_ex d 92 6 [l0, l1, l2, l3, l4, l5] [(0, b), (0, a)] S h n = mx_br (a < b) d 92 12 9 [l0, l1, l2, l3, l4, l5] [] S h n) ∧
  (∀ (d : Nat) (l0 l1 l2 l3 l4 l5 : Option mx_V) (S h : mx_H) (n : Int), mx_ex d 92 9 [l0, l1, l2, l3, l4, l5] [] S h n = mx_ex d 92 11 [l0, l1, l2, l3, l4, l5] [(0, (-2))] S h n) ∧
  (∀ (d : Nat) (x : Int) (l0 l1 l2 l3 l4 l5 : Option mx_V) (S h : mx_H) (n : Int), mx_ex d 92 11 [l0, l1, l2, l3, l4, l5] [(0, x)] S h n = some (some (0, x), S, h, n)) ∧
  (∀ (d : Nat) (x : Int) (l1 l2 l3 l4 l5 : Option mx_V) (S h : mx_H) (n : Int), mx_ex d 92 12 [some (2, x), l1, l2, l3, l4, l5] [] S h n = mx_ex d 92 13 [some (2, x), l1, l2, l3, l4, l5] [(2, x)] S h n) ∧
  (∀ (d : Nat) (a : Int) (l0 l1 l2 l3 l4 l5 : Option mx_V) (S h : mx_H) (n : Int), mx_ex d 92 13 [l0, l1, l2, l3, l4, l5] [(2, a)] S h n = mx_gd (8 ≤ S a (-2) ∧ S a (-2) ≤ 8) d 92 16 [l0, l1, l2, l3, l4, l5] [(0, h a 4)] S h n) ∧
  (∀ (d : Nat) (l0 l1 l2 l3 l4 l5 : Option mx_V) (v0 : mx_V) (S h : mx_H) (n : Int), mx_ex d 92 16 [l0, l1, l2, l3, l4, l5] [v0] S h n = mx_ex d 92 17 [l0, l1, l2, l3, l4, l5] [(0, 4), v0] S h n) ∧
  (∀ (d : Nat) (b a : Int) (l0 l1 l2 l3 l4 l5 : Option mx_V) (S h : mx_H) (n : Int), mx_ex d 92 17 [l0, l1, l2, l3, l4, l5] [(0, b), (0, a)] S h n = mx_ex d 92 18 [l0, l1, l2, l3, l4, l5] [(0, mx_w (a * b))] S h n) ∧
  (∀ (d : Nat) (x : Int) (l0 l1 l2 l3 l4 l5 : Option mx_V) (S h : mx_H) (n : Int), mx_ex d 92 18 [l0, l1, l2, l3, l4, l5] [(0, x)] S h n = mx_ex d 92 20 [l0, l1, l2, l3, mx_nl l4, some (0, x)] [] S h n) ∧
  (∀ (d : Nat) (x : Int) (l1 l2 l3 l4 l5 : Option mx_V) (S h : mx_H) (n : Int), mx_ex d 92 20 [some (2, x), l1, l2, l3, l4, l5] [] S h n = mx_ex d 92 21 [some (2, x), l1, l2, l3, l4, l5] [(2, x)] S h n) ∧
  (∀ (d : Nat) (a : Int) (l0 l1 l2 l3 l4 l5 : Option mx_V) (S h : mx_H) (n : Int), mx_ex d 92 21 [l0, l1, l2, l3, l4, l5] [(2, a)] S h n = mx_gd (8 ≤ S a (-2) ∧ S a (-2) ≤ 8) d 92 24 [l0, l1, l2, l3, l4, l5] [(2, S a 2)] S h n) ∧
  (∀ (d : Nat) (x : Int) (l0 l1 l2 l3 l4 : Option mx_V) (v0 : mx_V) (S h : mx_H) (n : Int), mx_ex d 92 24 [l0, l1, l2, l3, l4, some (0, x)] [v0] S h n = mx_ex d 92 26 [l0, l1, l2, l3, l4, some (0, x)] [(0, x), v0] S h n) ∧
  (∀ (d : Nat) (x : Int) (l0 l2 l3 l4 l5 : Option mx_V) (v0 v1 : mx_V) (S h : mx_H) (n : Int), mx_ex d 92 26 [l0, some (0, x), l2, l3, l4, l5] [v0, v1] S h n = mx_ex d 92 27 [l0, some (0, x), l2, l3, l4, l5] [(0, x), v0, v1] S h n) ∧
  (∀ (d : Nat) (v i a : Int) (l0 l1 l2 l3 l4 l5 : Option mx_V) (S h : mx_H) (n : Int), mx_ex d 92 27 [l0, l1, l2, l3, l4, l5] [(0, v), (0, i), (2, a)] S h n = mx_gd (S a (-2) = 20 ∧ 0 ≤ i ∧ i < S a (-1)) d 92 28 [l0, l1, l2, l3, l4, l5] [] S (mx_u h a i v) n) ∧
  (∀ (d : Nat) (x : Int) (l1 l2 l3 l4 l5 : Option mx_V) (S h : mx_H) (n : Int), mx_ex d 92 28 [some (2, x), l1, l2, l3, l4, l5] [] S h n = mx_ex d 92 29 [some (2, x), l1, l2, l3, l4, l5] [(2, x)] S h n) ∧
  (∀ (d : Nat) (a : Int) (l0 l1 l2 l3 l4 l5 : Option mx_V) (S h : mx_H) (n : Int), mx_ex d 92 29 [l0, l1, l2, l3, l4, l5] [(2, a)] S h n = mx_gd (8 ≤ S a (-2) ∧ S a (-2) ≤ 8) d 92 32 [l0, l1, l2, l3, l4, l5] [(2, S a 2)] S h n) ∧
  (∀ (d : Nat) (x : Int) (l0 l1 l2 l3 l4 : Option mx_V) (v0 : mx_V) (S h : mx_H) (n : Int), mx_ex d 92 32 [l0, l1, l2, l3, l4, some (0, x)] [v0] S h n = mx_ex d 92 34 [l0, l1, l2, l3, l4, some (0, x)] [(0, x), v0] S h n) ∧
  (∀ (d : Nat) (l0 l1 l2 l3 l4 l5 : Option mx_V) (v0 v1 : mx_V) (S h : mx_H) (n : Int), mx_ex d 92 34 [l0, l1, l2, l3, l4, l5] [v0, v1] S h n = mx_ex d 92 35 [l0, l1, l2, l3, l4, l5] [(0, 1), v0, v1] S h n) ∧
  (∀ (d : Nat) (b a : Int) (l0 l1 l2 l3 l4 l5 : Option mx_V) (v2 : mx_V) (S h : mx_H) (n : Int), mx_ex d 92 35 [l0, l1, l2, l3, l4, l5] [(0, b), (0, a), v2] S h n = mx_ex d 92 36 [l0, l1, l2, l3, l4, l5] [(0, mx_w (a + b)), v2] S h n) ∧
  (∀ (d : Nat) (x : Int) (l0 l1 l3 l4 l5 : Option mx_V) (v0 v1 : mx_V) (S h : mx_H) (n : Int), mx_ex d 92 36 [l0, l1, some (0, x), l3, l4, l5] [v0, v1] S h n = mx_ex d 92 37 [l0, l1, some (0, x), l3, l4, l5] [(0, x), v0, v1] S h n) ∧
  (∀ (d : Nat) (v i a : Int) (l0 l1 l2 l3 l4 l5 : Option mx_V) (S h : mx_H) (n : Int), mx_ex d 92 37 [l0, l1, l2, l3, l4, l5] [(0, v), (0, i), (2, a)] S h n = mx_gd (S a (-2) = 20 ∧ 0 ≤ i ∧ i < S a (-1)) d 92 38 [l0, l1, l2, l3, l4, l5] [] S (mx_u h a i v) n) ∧
  (∀ (d : Nat) (x : Int) (l1 l2 l3 l4 l5 : Option mx_V) (S h : mx_H) (n : Int), mx_ex d 92 38 [some (2, x), l1, l2, l3, l4, l5] [] S h n = mx_ex d 92 39 [some (2, x), l1, l2, l3, l4, l5] [(2, x)] S h n) ∧
  (∀ (d : Nat) (a : Int) (l0 l1 l2 l3 l4 l5 : Option mx_V) (S h : mx_H) (n : Int), mx_ex d 92 39 [l0, l1, l2, l3, l4, l5] [(2, a)] S h n = mx_gd (8 ≤ S a (-2) ∧ S a (-2) ≤ 8) d 92 42 [l0, l1, l2, l3, l4, l5] [(2, S a 2)] S h n) ∧
  (∀ (d : Nat) (x : Int) (l0 l1 l2 l3 l4 : Option mx_V) (v0 : mx_V) (S h : mx_H) (n : Int), mx_ex d 92 42 [l0, l1, l2, l3, l4, some (0, x)] [v0] S h n = mx_ex d 92 44 [l0, l1, l2, l3, l4, some (0, x)] [(0, x), v0] S h n) ∧
  (∀ (d : Nat) (l0 l1 l2 l3 l4 l5 : Option mx_V) (v0 v1 : mx_V) (S h : mx_H) (n : Int), mx_ex d 92 44 [l0, l1, l2, l3, l4, l5] [v0, v1] S h n = mx_ex d 92 45 [l0, l1, l2, l3, l4, l5] [(0, 2), v0, v1] S h n) ∧
  (∀ (d : Nat) (b a : Int) (l0 l1 l2 l3 l4 l5 : Option mx_V) (v2 : mx_V) (S h : mx_H) (n : Int), mx_ex d 92 45 [l0, l1, l2, l3, l4, l5] [(0, b), (0, a), v2] S h n = mx_ex d 92 46 [l0, l1, l2, l3, l4, l5] [(0, mx_w (a + b)), v2] S h n) ∧
  (∀ (d : Nat) (x : Int) (l0 l2 l3 l4 l5 : Option mx_V) (v0 v1 : mx_V) (S h : mx_H) (n : Int), mx_ex d 92 46 [l0, some (0, x), l2, l3, l4, l5] [v0, v1] S h n = mx_ex d 92 47 [l0, some (0, x), l2, l3, l4, l5] [(0, x), v0, v1] S h n) ∧
  (∀ (d : Nat) (l0 l1 l2 l3 l4 l5 : Option mx_V) (v0 v1 v2 : mx_V) (S h : mx_H) (n : Int), mx_ex d 92 47 [l0, l1, l2, l3, l4, l5] [v0, v1, v2] S h n = mx_ex d 92 48 [l0, l1, l2, l3, l4, l5] [(0, 3), v0, v1, v2] S h n) ∧
  (∀ (d : Nat) (b a : Int) (l0 l1 l2 l3 l4 l5 : Option mx_V) (v2 v3 : mx_V) (S h : mx_H) (n : Int), mx_ex d 92 48 [l0, l1, l2, l3, l4, l5] [(0, b), (0, a), v2, v3] S h n = mx_br (a = b) d 92 51 55 [l0, l1, l2, l3, l4, l5] [v2, v3] S h n) ∧
  (∀ (d : Nat) (l0 l1 l2 l3 l4 l5 : Option mx_V) (v0 v1 : mx_V) (S h : mx_H) (n : Int), mx_ex d 92 51 [l0, l1, l2, l3, l4, l5] [v0, v1] S h n = mx_ex d 92 52 [l0, l1, l2, l3, l4, l5] [(0, 0), v0, v1] S h n) ∧
  (∀ (d : Nat) (l0 l1 l2 l3 l4 l5 : Option mx_V) (v0 v1 v2 : mx_V) (S h : mx_H) (n : Int), mx_ex d 92 52 [l0, l1, l2, l3, l4, l5] [v0, v1, v2] S h n = mx_ex d 92 56 [l0, l1, l2, l3, l4, l5] [v0, v1, v2] S h n) ∧
  (∀ (d : Nat) (x : Int) (l0 l1 l2 l4 l5 : Option mx_V) (v0 v1 : mx_V) (S h : mx_H) (n : Int), mx_ex d 92 55 [l0, l1, l2, some (0, x), l4, l5] [v0, v1] S h n = mx_ex d 92 56 [l0, l1, l2, some (0, x), l4, l5] [(0, x), v0, v1] S h n) ∧
  (∀ (d : Nat) (v i a : Int) (l0 l1 l2 l3 l4 l5 : Option mx_V) (S h : mx_H) (n : Int), mx_ex d 92 56 [l0, l1, l2, l3, l4, l5] [(0, v), (0, i), (2, a)] S h n = mx_gd (S a (-2) = 20 ∧ 0 ≤ i ∧ i < S a (-1)) d 92 57 [l0, l1, l2, l3, l4, l5] [] S (mx_u h a i v) n) ∧
  (∀ (d : Nat) (x : Int) (l1 l2 l3 l4 l5 : Option mx_V) (S h : mx_H) (n : Int), mx_ex d 92 57 [some (2, x), l1, l2, l3, l4, l5] [] S h n = mx_ex d 92 58 [some (2, x), l1, l2, l3, l4, l5] [(2, x)] S h n) ∧
  (∀ (d : Nat) (a : Int) (l0 l1 l2 l3 l4 l5 : Option mx_V) (S h : mx_H) (n : Int), mx_ex d 92 58 [l0, l1, l2, l3, l4, l5] [(2, a)] S h n = mx_gd (8 ≤ S a (-2) ∧ S a (-2) ≤ 8) d 92 61 [l0, l1, l2, l3, l4, l5] [(2, S a 2)] S h n) ∧
  (∀ (d : Nat) (x : Int) (l0 l1 l2 l3 l4 : Option mx_V) (v0 : mx_V) (S h : mx_H) (n : Int), mx_ex d 92 61 [l0, l1, l2, l3, l4, some (0, x)] [v0] S h n = mx_ex d 92 63 [l0, l1, l2, l3, l4, some (0, x)] [(0, x), v0] S h n) ∧
  (∀ (d : Nat) (l0 l1 l2 l3 l4 l5 : Option mx_V) (v0 v1 : mx_V) (S h : mx_H) (n : Int), mx_ex d 92 63 [l0, l1, l2, l3, l4, l5] [v0, v1] S h n = mx_ex d 92 64 [l0, l1, l2, l3, l4, l5] [(0, 3), v0, v1] S h n) ∧
  (∀ (d : Nat) (b a : Int) (l0 l1 l2 l3 l4 l5 : Option mx_V) (v2 : mx_V) (S h : mx_H) (n : Int), mx_ex d 92 64 [l0, l1, l2, l3, l4, l5] [(0, b), (0, a), v2] S h n = mx_ex d 92 65 [l0, l1, l2, l3, l4, l5] [(0, mx_w (a + b)), v2] S h n) ∧
  (∀ (d : Nat) (x : Int) (l0 l2 l3 l4 l5 : Option mx_V) (v0 v1 : mx_V) (S h : mx_H) (n : Int), mx_ex d 92 65 [l0, some (0, x), l2, l3, l4, l5] [v0, v1] S h n = mx_ex d 92 66 [l0, some (0, x), l2, l3, l4, l5] [(0, x), v0, v1] S h n) ∧
  (∀ (d : Nat) (l0 l1 l2 l3 l4 l5 : Option mx_V) (v0 v1 v2 : mx_V) (S h : mx_H) (n : Int), mx_ex d 92 66 [l0, l1, l2, l3, l4, l5] [v0, v1, v2] S h n = mx_ex d 92 67 [l0, l1, l2, l3, l4, l5] [(0, 2), v0, v1, v2] S h n) ∧
  (∀ (d : Nat) (b a : Int) (l0 l1 l2 l3 l4 l5 : Option mx_V) (v2 v3 : mx_V) (S h : mx_H) (n : Int), mx_ex d 92 67 [l0, l1, l2, l3, l4, l5] [(0, b), (0, a), v2, v3] S h n = mx_br (a = b) d 92 75 70 [l0, l1, l2, l3, l4, l5] [v2, v3] S h n) ∧
  (∀ (d : Nat) (x : Int) (l0 l2 l3 l4 l5 : Option mx_V) (v0 v1 : mx_V) (S h : mx_H) (n : Int), mx_ex d 92 70 [l0, some (0, x), l2, l3, l4, l5] [v0, v1] S h n = mx_ex d 92 71 [l0, some (0, x), l2, l3, l4, l5] [(0, x), v0, v1] S h n) ∧
  (∀ (d : Nat) (l0 l1 l2 l3 l4 l5 : Option mx_V) (v0 v1 v2 : mx_V) (S h : mx_H) (n : Int), mx_ex d 92 71 [l0, l1, l2, l3, l4, l5] [v0, v1, v2] S h n = mx_ex d 92 72 [l0, l1, l2, l3, l4, l5] [(0, 3), v0, v1, v2] S h n) ∧
  (∀ (d : Nat) (b a : Int) (l0 l1 l2 l3 l4 l5 : Option mx_V) (v2 v3 : mx_V) (S h : mx_H) (n : Int), mx_ex d 92 72 [l0, l1, l2, l3, l4, l5] [(0, b), (0, a), v2, v3] S h n = mx_br (a = b) d 92 75 80 [l0, l1, l2, l3, l4, l5] [v2, v3] S h n) ∧
  (∀ (d : Nat) (x : Int) (l0 l1 l2 l3 l5 : Option mx_V) (v0 v1 : mx_V) (S h : mx_H) (n : Int), mx_ex d 92 75 [l0, l1, l2, l3, some (0, x), l5] [v0, v1] S h n = mx_ex d 92 77 [l0, l1, l2, l3, some (0, x), l5] [(0, x), v0, v1] S h n) ∧
  (∀ (d : Nat) (l0 l1 l2 l3 l4 l5 : Option mx_V) (v0 v1 v2 : mx_V) (S h : mx_H) (n : Int), mx_ex d 92 77 [l0, l1, l2, l3, l4, l5] [v0, v1, v2] S h n = mx_ex d 92 81 [l0, l1, l2, l3, l4, l5] [v0, v1, v2] S h n) ∧
  (∀ (d : Nat) (l0 l1 l2 l3 l4 l5 : Option mx_V) (v0 v1 : mx_V) (S h : mx_H) (n : Int), mx_ex d 92 80 [l0, l1, l2, l3, l4, l5] [v0, v1] S h n = mx_ex d 92 81 [l0, l1, l2, l3, l4, l5] [(0, 0), v0, v1] S h n) ∧
  (∀ (d : Nat) (v i a : Int) (l0 l1 l2 l3 l4 l5 : Option mx_V) (S h : mx_H) (n : Int), mx_ex d 92 81 [l0, l1, l2, l3, l4, l5] [(0, v), (0, i), (2, a)] S h n = mx_gd (S a (-2) = 20 ∧ 0 ≤ i ∧ i < S a (-1)) d 92 82 [l0, l1, l2, l3, l4, l5] [] S (mx_u h a i v) n) ∧
  (∀ (d : Nat) (x : Int) (l1 l2 l3 l4 l5 : Option mx_V) (S h : mx_H) (n : Int), mx_ex d 92 82 [some (2, x), l1, l2, l3, l4, l5] [] S h n = mx_ex d 92 83 [some (2, x), l1, l2, l3, l4, l5] [(2, x)] S h n) ∧
  (∀ (d : Nat) (a : Int) (l0 l1 l2 l3 l4 l5 : Option mx_V) (S h : mx_H) (n : Int), mx_ex d 92 83 [l0, l1, l2, l3, l4, l5] [(2, a)] S h n = mx_ex d 92 84 [l0, l1, l2, l3, l4, l5] [(2, a), (2, a)] S h n) ∧
  (∀ (d : Nat) (a : Int) (l0 l1 l2 l3 l4 l5 : Option mx_V) (v1 : mx_V) (S h : mx_H) (n : Int), mx_ex d 92 84 [l0, l1, l2, l3, l4, l5] [(2, a), v1] S h n = mx_gd (8 ≤ S a (-2) ∧ S a (-2) ≤ 8) d 92 87 [l0, l1, l2, l3, l4, l5] [(0, h a 4), v1] S h n) ∧
  (∀ (d : Nat) (l0 l1 l2 l3 l4 l5 : Option mx_V) (v0 v1 : mx_V) (S h : mx_H) (n : Int), mx_ex d 92 87 [l0, l1, l2, l3, l4, l5] [v0, v1] S h n = mx_ex d 92 88 [l0, l1, l2, l3, l4, l5] [(0, 1), v0, v1] S h n) ∧
  (∀ (d : Nat) (b a : Int) (l0 l1 l2 l3 l4 l5 : Option mx_V) (v2 : mx_V) (S h : mx_H) (n : Int), mx_ex d 92 88 [l0, l1, l2, l3, l4, l5] [(0, b), (0, a), v2] S h n = mx_ex d 92 89 [l0, l1, l2, l3, l4, l5] [(0, mx_w (a + b)), v2] S h n) ∧
  (∀ (d : Nat) (v a : Int) (l0 l1 l2 l3 l4 l5 : Option mx_V) (S h : mx_H) (n : Int), mx_ex d 92 89 [l0, l1, l2, l3, l4, l5] [(0, v), (2, a)] S h n = mx_gd (8 ≤ S a (-2) ∧ S a (-2) ≤ 8) d 92 92 [l0, l1, l2, l3, l4, l5] [] S (mx_u h a 4 v) n) ∧
  (∀ (d : Nat) (x : Int) (l1 l2 l3 l4 l5 : Option mx_V) (S h : mx_H) (n : Int), mx_ex d 92 92 [some (2, x), l1, l2, l3, l4, l5] [] S h n = mx_ex d 92 93 [some (2, x), l1, l2, l3, l4, l5] [(2, x)] S h n) ∧
  (∀ (d : Nat) (a : Int) (l0 l1 l2 l3 l4 l5 : Option mx_V) (S h : mx_H) (n : Int), mx_ex d 92 93 [l0, l1, l2, l3, l4, l5] [(2, a)] S h n = mx_ex d 92 94 [l0, l1, l2, l3, l4, l5] [(2, a), (2, a)] S h n) ∧
  (∀ (d : Nat) (a : Int) (l0 l1 l2 l3 l4 l5 : Option mx_V) (v1 : mx_V) (S h : mx_H) (n : Int), mx_ex d 92 94 [l0, l1, l2, l3, l4, l5] [(2, a), v1] S h n = mx_gd (8 ≤ S a (-2) ∧ S a (-2) ≤ 8) d 92 97 [l0, l1, l2, l3, l4, l5] [(0, h a 5), v1] S h n) ∧
  (∀ (d : Nat) (l0 l1 l2 l3 l4 l5 : Option mx_V) (v0 v1 : mx_V) (S h : mx_H) (n : Int), mx_ex d 92 97 [l0, l1, l2, l3, l4, l5] [v0, v1] S h n = mx_ex d 92 98 [l0, l1, l2, l3, l4, l5] [(0, 1), v0, v1] S h n) ∧
  (∀ (d : Nat) (b a : Int) (l0 l1 l2 l3 l4 l5 : Option mx_V) (v2 : mx_V) (S h : mx_H) (n : Int), mx_ex d 92 98 [l0, l1, l2, l3, l4, l5] [(0, b), (0, a), v2] S h n = mx_ex d 92 99 [l0, l1, l2, l3, l4, l5] [(0, mx_w (a + b)), v2] S h n) ∧
  (∀ (d : Nat) (v a : Int) (l0 l1 l2 l3 l4 l5 : Option mx_V) (S h : mx_H) (n : Int), mx_ex d 92 99 [l0, l1, l2, l3, l4, l5] [(0, v), (2, a)] S h n = mx_gd (8 ≤ S a (-2) ∧ S a (-2) ≤ 8) d 92 102 [l0, l1, l2, l3, l4, l5] [] S (mx_u h a 5 v) n) ∧
  (∀ (d : Nat) (x : Int) (l1 l2 l3 l4 l5 : Option mx_V) (S h : mx_H) (n : Int), mx_ex d 92 102 [some (2, x), l1, l2, l3, l4, l5] [] S h n = mx_ex d 92 103 [some (2, x), l1, l2, l3, l4, l5] [(2, x)] S h n) ∧
  (∀ (d : Nat) (a : Int) (l0 l1 l2 l3 l4 l5 : Option mx_V) (S h : mx_H) (n : Int), mx_ex d 92 103 [l0, l1, l2, l3, l4, l5] [(2, a)] S h n = mx_gd (8 ≤ S a (-2) ∧ S a (-2) ≤ 8) d 92 106 [l0, l1, l2, l3, l4, l5] [(0, h a 4)] S h n) ∧
  (∀ (d : Nat) (l0 l1 l2 l3 l4 l5 : Option mx_V) (v0 : mx_V) (S h : mx_H) (n : Int), mx_ex d 92 106 [l0, l1, l2, l3, l4, l5] [v0] S h n = mx_ex d 92 107 [l0, l1, l2, l3, l4, l5] [(0, 1), v0] S h n) ∧
  (∀ (d : Nat) (b a : Int) (l0 l1 l2 l3 l4 l5 : Option mx_V) (S h : mx_H) (n : Int), mx_ex d 92 107 [l0, l1, l2, l3, l4, l5] [(0, b), (0, a)] S h n = mx_ex d 92 108 [l0, l1, l2, l3, l4, l5] [(0, mx_w (a - b))] S h n) ∧
  (∀ (d : Nat) (x : Int) (l0 l1 l2 l3 l4 l5 : Option mx_V) (S h : mx_H) (n : Int), mx_ex d 92 108 [l0, l1, l2, l3, l4, l5] [(0, x)] S h n = some (some (0, x), S, h, n)) :=
  ⟨by intros; exact rfl,
   by intros; exact eq_ld rfl rfl,
   by intros; exact eq_gi rfl,
   by intros; exact eq_push rfl,
   by intros; exact eq_ic2 rfl,
   by intros; exact eq_push rfl,
   by intros; exact eq_ret rfl,
   by intros; exact eq_ld rfl rfl,
   by intros; exact eq_gi rfl,
   by intros; exact eq_push rfl,
   by intros; exact eq_i2 (o := mx_mul) rfl,
   by intros; exact eq_st rfl (by decide) (Nat.le_of_ble_eq_true rfl) rfl,
   by intros; exact eq_ld rfl rfl,
   by intros; exact eq_gr rfl,
   by intros; exact eq_ld rfl rfl,
   by intros; exact eq_ld rfl rfl,
   by intros; exact eq_iast rfl,
   by intros; exact eq_ld rfl rfl,
   by intros; exact eq_gr rfl,
   by intros; exact eq_ld rfl rfl,
   by intros; exact eq_push rfl,
   by intros; exact eq_i2 (o := mx_add) rfl,
   by intros; exact eq_ld rfl rfl,
   by intros; exact eq_iast rfl,
   by intros; exact eq_ld rfl rfl,
   by intros; exact eq_gr rfl,
   by intros; exact eq_ld rfl rfl,
   by intros; exact eq_push rfl,
   by intros; exact eq_i2 (o := mx_add) rfl,
   by intros; exact eq_ld rfl rfl,
   by intros; exact eq_push rfl,
   by intros; exact eq_ic1 rfl,
   by intros; exact eq_push rfl,
   by intros; exact eq_go rfl,
   by intros; exact eq_ld rfl rfl,
   by intros; exact eq_iast rfl,
   by intros; exact eq_ld rfl rfl,
   by intros; exact eq_gr rfl,
   by intros; exact eq_ld rfl rfl,
   by intros; exact eq_push rfl,
   by intros; exact eq_i2 (o := mx_add) rfl,
   by intros; exact eq_ld rfl rfl,
   by intros; exact eq_push rfl,
   by intros; exact eq_ic0 rfl,
   by intros; exact eq_ld rfl rfl,
   by intros; exact eq_push rfl,
   by intros; exact eq_ic1 rfl,
   by intros; exact eq_ld rfl rfl,
   by intros; exact eq_go rfl,
   by intros; exact eq_push rfl,
   by intros; exact eq_iast rfl,
   by intros; exact eq_ld rfl rfl,
   by intros; exact eq_dup rfl (by decide),
   by intros; exact eq_gi rfl,
   by intros; exact eq_push rfl,
   by intros; exact eq_i2 (o := mx_add) rfl,
   by intros; exact eq_pi rfl,
   by intros; exact eq_ld rfl rfl,
   by intros; exact eq_dup rfl (by decide),
   by intros; exact eq_gi rfl,
   by intros; exact eq_push rfl,
   by intros; exact eq_i2 (o := mx_add) rfl,
   by intros; exact eq_pi rfl,
   by intros; exact eq_ld rfl rfl,
   by intros; exact eq_gi rfl,
   by intros; exact eq_push rfl,
   by intros; exact eq_i2 (o := mx_sub) rfl,
   by intros; exact eq_ret rfl⟩
theorem rw_X10_strikeLine :
  (∀ (d : Nat) (a0 a1 : Int) (S h : mx_H) (n : Int), mx_M d 93 [(2, a0), (0, a1)] S h n = mx_ex d 93 0 [some (2, a0), some (0, a1), none] [] S h n) ∧
  (∀ (d : Nat) (x : Int) (l1 l2 : Option mx_V) (S h : mx_H) (n : Int), mx_ex d 93 0 [some (2, x), l1, l2] [] S h n = mx_ex d 93 1 [some (2, x), l1, l2] [(2, x)] S h n) ∧
  (∀ (d : Nat) (a : Int) (l0 l1 l2 : Option mx_V) (S h : mx_H) (n : Int), mx_ex d 93 1 [l0, l1, l2] [(2, a)] S h n = mx_gd (8 ≤ S a (-2) ∧ S a (-2) ≤ 8) d 93 4 [l0, l1, l2] [(0, h a 4)] S h n) ∧
  (∀ (d : Nat) (l0 l1 l2 : Option mx_V) (v0 : mx_V) (S h : mx_H) (n : Int), mx_ex d 93 4 [l0, l1, l2] [v0] S h n = mx_ex d 93 5 [l0, l1, l2] [(0, 1), v0] S h n) ∧
  (∀ (d : Nat) (b a : Int) (l0 l1 l2 : Option mx_V) (S h : mx_H) (n : Int), mx_ex d 93 5 [l0, l1, l2] [(0, b), (0, a)] S h n = mx_ex d 93 6 [l0, l1, l2] [(0, mx_w (a - b))] S h n) ∧
  (∀ (d : Nat) (x : Int) (l0 l2 : Option mx_V) (v0 : mx_V) (S h : mx_H) (n : Int), mx_ex d 93 6 [l0, some (0, x), l2] [v0] S h n = mx_ex d 93 7 [l0, some (0, x), l2] [(0, x), v0] S h n) ∧
  (∀ (d : Nat) (b a : Int) (l0 l1 l2 : Option mx_V) (S h : mx_H) (n : Int), mx_ex d 93 7 [l0, l1, l2] [(0, b), (0, a)] S h n = mx_ex d 93 8 [l0, l1, l2] [(0, mx_w (a - b))] S h n) ∧
  (∀ (d : Nat) (x : Int) (l0 l1 l2 : Option mx_V) (S h : mx_H) (n : Int), mx_ex d 93 8 [l0, l1, l2] [(0, x)] S h n = mx_ex d 93 9 [l0, mx_nl l1, some (0, x)] [] S h n) ∧
  (∀ (d : Nat) (x : Int) (l0 l2 : Option mx_V) (S h : mx_H) (n : Int), mx_ex d 93 9 [l0, some (0, x), l2] [] S h n = mx_ex d 93 10 [l0, some (0, x), l2] [(0, x)] S h n) ∧
  (∀ (d : Nat) (a : Int) (l0 l1 l2 : Option mx_V) (S h : mx_H) (n : Int), mx_ex d 93 10 [l0, l1, l2] [(0, a)] S h n = mx_br (a < 0) d 93 59 13 [l0, l1, l2] [] S h n) ∧
  (∀ (d : Nat) (x : Int) (l0 l1 : Option mx_V) (S h : mx_H) (n : Int), mx_ex d 93 13 [l0, l1, some (0, x)] [] S h n = mx_ex d 93 14 [l0, l1, some (0, x)] [(0, x)] S h n) ∧
  (∀ (d : Nat) (a : Int) (l0 l1 l2 : Option mx_V) (S h : mx_H) (n : Int), mx_ex d 93 14 [l0, l1, l2] [(0, a)] S h n = mx_br (a < 0) d 93 59 17 [l0, l1, l2] [] S h n) ∧
  (∀ (d : Nat) (x : Int) (l1 l2 : Option mx_V) (S h : mx_H) (n : Int), mx_ex d 93 17 [some (2, x), l1, l2] [] S h n = mx_ex d 93 18 [some (2, x), l1, l2] [(2, x)] S h n) ∧
  (∀ (d : Nat) (a : Int) (l0 l1 l2 : Option mx_V) (S h : mx_H) (n : Int), mx_ex d 93 18 [l0, l1, l2] [(2, a)] S h n = mx_gd (8 ≤ S a (-2) ∧ S a (-2) ≤ 8) d 93 21 [l0, l1, l2] [(2, S a 2)] S h n) ∧
  (∀ (d : Nat) (x : Int) (l0 l2 : Option mx_V) (v0 : mx_V) (S h : mx_H) (n : Int), mx_ex d 93 21 [l0, some (0, x), l2] [v0] S h n = mx_ex d 93 22 [l0, some (0, x), l2] [(0, x), v0] S h n) ∧
  (∀ (d : Nat) (l0 l1 l2 : Option mx_V) (v0 v1 : mx_V) (S h : mx_H) (n : Int), mx_ex d 93 22 [l0, l1, l2] [v0, v1] S h n = mx_ex d 93 23 [l0, l1, l2] [(0, 1), v0, v1] S h n) ∧
  (∀ (d : Nat) (b a : Int) (l0 l1 l2 : Option mx_V) (v2 : mx_V) (S h : mx_H) (n : Int), mx_ex d 93 23 [l0, l1, l2] [(0, b), (0, a), v2] S h n = mx_ex d 93 24 [l0, l1, l2] [(0, mx_w (a + b)), v2] S h n) ∧
  (∀ (d : Nat) (l0 l1 l2 : Option mx_V) (v0 v1 : mx_V) (S h : mx_H) (n : Int), mx_ex d 93 24 [l0, l1, l2] [v0, v1] S h n = mx_ex d 93 25 [l0, l1, l2] [(0, 4), v0, v1] S h n) ∧
  (∀ (d : Nat) (b a : Int) (l0 l1 l2 : Option mx_V) (v2 : mx_V) (S h : mx_H) (n : Int), mx_ex d 93 25 [l0, l1, l2] [(0, b), (0, a), v2] S h n = mx_ex d 93 26 [l0, l1, l2] [(0, mx_w (a * b)), v2] S h n) ∧
  (∀ (d : Nat) (x : Int) (l1 l2 : Option mx_V) (v0 v1 : mx_V) (S h : mx_H) (n : Int), mx_ex d 93 26 [some (2, x), l1, l2] [v0, v1] S h n = mx_ex d 93 27 [some (2, x), l1, l2] [(2, x), v0, v1] S h n) ∧
  (∀ (d : Nat) (a : Int) (l0 l1 l2 : Option mx_V) (v1 v2 : mx_V) (S h : mx_H) (n : Int), mx_ex d 93 27 [l0, l1, l2] [(2, a), v1, v2] S h n = mx_gd (8 ≤ S a (-2) ∧ S a (-2) ≤ 8) d 93 30 [l0, l1, l2] [(2, S a 2), v1, v2] S h n) ∧
  (∀ (d : Nat) (x : Int) (l0 l2 : Option mx_V) (v0 v1 v2 : mx_V) (S h : mx_H) (n : Int), mx_ex d 93 30 [l0, some (0, x), l2] [v0, v1, v2] S h n = mx_ex d 93 31 [l0, some (0, x), l2] [(0, x), v0, v1, v2] S h n) ∧
  (∀ (d : Nat) (l0 l1 l2 : Option mx_V) (v0 v1 v2 v3 : mx_V) (S h : mx_H) (n : Int), mx_ex d 93 31 [l0, l1, l2] [v0, v1, v2, v3] S h n = mx_ex d 93 32 [l0, l1, l2] [(0, 4), v0, v1, v2, v3] S h n) ∧
  (∀ (d : Nat) (b a : Int) (l0 l1 l2 : Option mx_V) (v2 v3 v4 : mx_V) (S h : mx_H) (n : Int), mx_ex d 93 32 [l0, l1, l2] [(0, b), (0, a), v2, v3, v4] S h n = mx_ex d 93 33 [l0, l1, l2] [(0, mx_w (a * b)), v2, v3, v4] S h n) ∧
  (∀ (d : Nat) (x : Int) (l0 l1 : Option mx_V) (v0 v1 v2 v3 : mx_V) (S h : mx_H) (n : Int), mx_ex d 93 33 [l0, l1, some (0, x)] [v0, v1, v2, v3] S h n = mx_ex d 93 34 [l0, l1, some (0, x)] [(0, x), v0, v1, v2, v3] S h n) ∧
  (∀ (d : Nat) (l0 l1 l2 : Option mx_V) (v0 v1 v2 v3 v4 : mx_V) (S h : mx_H) (n : Int), mx_ex d 93 34 [l0, l1, l2] [v0, v1, v2, v3, v4] S h n = mx_ex d 93 35 [l0, l1, l2] [(0, 4), v0, v1, v2, v3, v4] S h n) ∧
  (∀ (d : Nat) (b a : Int) (l0 l1 l2 : Option mx_V) (v2 v3 v4 v5 : mx_V) (S h : mx_H) (n : Int), mx_ex d 93 35 [l0, l1, l2] [(0, b), (0, a), v2, v3, v4, v5] S h n = mx_ex d 93 36 [l0, l1, l2] [(0, mx_w (a * b)), v2, v3, v4, v5] S h n) ∧
  (∀ (d : Nat) (x j b i a : Int) (l0 l1 l2 : Option mx_V) (S h : mx_H) (n : Int), mx_ex d 93 36 [l0, l1, l2] [(0, x), (0, j), (2, b), (0, i), (2, a)] S h n = mx_gd (S a (-2) = 20 ∧ S b (-2) = 20 ∧ 0 ≤ x ∧ 0 ≤ i ∧ 0 ≤ j ∧ i + x ≤ S a (-1) ∧ j + x ≤ S b (-1)) d 93 39 [l0, l1, l2] [] S (mx_y h a i b j x) n) ∧
  (∀ (d : Nat) (x : Int) (l1 l2 : Option mx_V) (S h : mx_H) (n : Int), mx_ex d 93 39 [some (2, x), l1, l2] [] S h n = mx_ex d 93 40 [some (2, x), l1, l2] [(2, x)] S h n) ∧
  (∀ (d : Nat) (a : Int) (l0 l1 l2 : Option mx_V) (S h : mx_H) (n : Int), mx_ex d 93 40 [l0, l1, l2] [(2, a)] S h n = mx_ex d 93 41 [l0, l1, l2] [(2, a), (2, a)] S h n) ∧
  (∀ (d : Nat) (a : Int) (l0 l1 l2 : Option mx_V) (v1 : mx_V) (S h : mx_H) (n : Int), mx_ex d 93 41 [l0, l1, l2] [(2, a), v1] S h n = mx_gd (8 ≤ S a (-2) ∧ S a (-2) ≤ 8) d 93 44 [l0, l1, l2] [(0, h a 4), v1] S h n) ∧
  (∀ (d : Nat) (l0 l1 l2 : Option mx_V) (v0 v1 : mx_V) (S h : mx_H) (n : Int), mx_ex d 93 44 [l0, l1, l2] [v0, v1] S h n = mx_ex d 93 45 [l0, l1, l2] [(0, 1), v0, v1] S h n) ∧
  (∀ (d : Nat) (b a : Int) (l0 l1 l2 : Option mx_V) (v2 : mx_V) (S h : mx_H) (n : Int), mx_ex d 93 45 [l0, l1, l2] [(0, b), (0, a), v2] S h n = mx_ex d 93 46 [l0, l1, l2] [(0, mx_w (a - b)), v2] S h n) ∧
  (∀ (d : Nat) (v a : Int) (l0 l1 l2 : Option mx_V) (S h : mx_H) (n : Int), mx_ex d 93 46 [l0, l1, l2] [(0, v), (2, a)] S h n = mx_gd (8 ≤ S a (-2) ∧ S a (-2) ≤ 8) d 93 49 [l0, l1, l2] [] S (mx_u h a 4 v) n) ∧
  (∀ (d : Nat) (x : Int) (l1 l2 : Option mx_V) (S h : mx_H) (n : Int), mx_ex d 93 49 [some (2, x), l1, l2] [] S h n = mx_ex d 93 50 [some (2, x), l1, l2] [(2, x)] S h n) ∧
  (∀ (d : Nat) (a : Int) (l0 l1 l2 : Option mx_V) (S h : mx_H) (n : Int), mx_ex d 93 50 [l0, l1, l2] [(2, a)] S h n = mx_ex d 93 51 [l0, l1, l2] [(2, a), (2, a)] S h n) ∧
  (∀ (d : Nat) (a : Int) (l0 l1 l2 : Option mx_V) (v1 : mx_V) (S h : mx_H) (n : Int), mx_ex d 93 51 [l0, l1, l2] [(2, a), v1] S h n = mx_gd (8 ≤ S a (-2) ∧ S a (-2) ≤ 8) d 93 54 [l0, l1, l2] [(0, h a 5), v1] S h n) ∧
  (∀ (d : Nat) (l0 l1 l2 : Option mx_V) (v0 v1 : mx_V) (S h : mx_H) (n : Int), mx_ex d 93 54 [l0, l1, l2] [v0, v1] S h n = mx_ex d 93 55 [l0, l1, l2] [(0, 1), v0, v1] S h n) ∧
  (∀ (d : Nat) (b a : Int) (l0 l1 l2 : Option mx_V) (v2 : mx_V) (S h : mx_H) (n : Int), mx_ex d 93 55 [l0, l1, l2] [(0, b), (0, a), v2] S h n = mx_ex d 93 56 [l0, l1, l2] [(0, mx_w (a + b)), v2] S h n) ∧
  (∀ (d : Nat) (v a : Int) (l0 l1 l2 : Option mx_V) (S h : mx_H) (n : Int), mx_ex d 93 56 [l0, l1, l2] [(0, v), (2, a)] S h n = mx_gd (8 ≤ S a (-2) ∧ S a (-2) ≤ 8) d 93 59 [l0, l1, l2] [] S (mx_u h a 5 v) n) ∧
  (∀ (d : Nat) (x : Int) (l1 l2 : Option mx_V) (S h : mx_H) (n : Int), mx_ex d 93 59 [some (2, x), l1, l2] [] S h n = mx_ex d 93 60 [some (2, x), l1, l2] [(2, x)] S h n) ∧
  (∀ (d : Nat) (a : Int) (l0 l1 l2 : Option mx_V) (S h : mx_H) (n : Int), mx_ex d 93 60 [l0, l1, l2] [(2, a)] S h n = mx_gd (8 ≤ S a (-2) ∧ S a (-2) ≤ 8) d 93 63 [l0, l1, l2] [(0, h a 4)] S h n) ∧
  (∀ (d : Nat) (x : Int) (l0 l1 l2 : Option mx_V) (S h : mx_H) (n : Int), mx_ex d 93 63 [l0, l1, l2] [(0, x)] S h n = some (some (0, x), S, h, n)) :=
  ⟨by intros; exact rfl,
   by intros; exact eq_ld rfl rfl,
   by intros; exact eq_gi rfl,
   by intros; exact eq_push rfl,
   by intros; exact eq_i2 (o := mx_sub) rfl,
   by intros; exact eq_ld rfl rfl,
   by intros; exact eq_i2 (o := mx_sub) rfl,
   by intros; exact eq_st rfl (by decide) (Nat.le_of_ble_eq_true rfl) rfl,
   by intros; exact eq_ld rfl rfl,
   by intros; exact eq_if2 rfl,
   by intros; exact eq_ld rfl rfl,
   by intros; exact eq_if2 rfl,
   by intros; exact eq_ld rfl rfl,
   by intros; exact eq_gr rfl,
   by intros; exact eq_ld rfl rfl,
   by intros; exact eq_push rfl,
   by intros; exact eq_i2 (o := mx_add) rfl,
   by intros; exact eq_push rfl,
   by intros; exact eq_i2 (o := mx_mul) rfl,
   by intros; exact eq_ld rfl rfl,
   by intros; exact eq_gr rfl,
   by intros; exact eq_ld rfl rfl,
   by intros; exact eq_push rfl,
   by intros; exact eq_i2 (o := mx_mul) rfl,
   by intros; exact eq_ld rfl rfl,
   by intros; exact eq_push rfl,
   by intros; exact eq_i2 (o := mx_mul) rfl,
   by intros; exact eq_copy rfl (Nat.le_of_ble_eq_true rfl),
   by intros; exact eq_ld rfl rfl,
   by intros; exact eq_dup rfl (by decide),
   by intros; exact eq_gi rfl,
   by intros; exact eq_push rfl,
   by intros; exact eq_i2 (o := mx_sub) rfl,
   by intros; exact eq_pi rfl,
   by intros; exact eq_ld rfl rfl,
   by intros; exact eq_dup rfl (by decide),
   by intros; exact eq_gi rfl,
   by intros; exact eq_push rfl,
   by intros; exact eq_i2 (o := mx_add) rfl,
   by intros; exact eq_pi rfl,
   by intros; exact eq_ld rfl rfl,
   by intros; exact eq_gi rfl,
   by intros; exact eq_ret rfl⟩
theorem rw_X10_lineHolds :
  (∀ (d : Nat) (a0 a1 a2 : Int) (S h : mx_H) (n : Int), mx_M d 94 [(2, a0), (0, a1), (2, a2)] S h n = mx_ex d 94 0 [some (2, a0), some (0, a1), some (2, a2), none, none, none, none, none] [] S h n) ∧
  (∀ (d : Nat) (x : Int) (l0 l2 l3 l4 l5 l6 l7 : Option mx_V) (S h : mx_H) (n : Int), mx_ex d 94 0 [l0, some (0, x), l2, l3, l4, l5, l6, l7] [] S h n = mx_ex d 94 1 [l0, some (0, x), l2, l3, l4, l5, l6, l7] [(0, x)] S h n) ∧
  (∀ (d : Nat) (l0 l1 l2 l3 l4 l5 l6 l7 : Option mx_V) (v0 : mx_V) (S h : mx_H) (n : Int), mx_ex d 94 1 [l0, l1, l2, l3, l4, l5, l6, l7] [v0] S h n = mx_ex d 94 2 [l0, l1, l2, l3, l4, l5, l6, l7] [(0, 4), v0] S h n) ∧
  (∀ (d : Nat) (b a : Int) (l0 l1 l2 l3 l4 l5 l6 l7 : Option mx_V) (S h : mx_H) (n : Int), mx_ex d 94 2 [l0, l1, l2, l3, l4, l5, l6, l7] [(0, b), (0, a)] S h n = mx_ex d 94 3 [l0, l1, l2, l3, l4, l5, l6, l7] [(0, mx_w (a * b))] S h n) ∧
  (∀ (d : Nat) (x : Int) (l0 l1 l2 l3 l4 l5 l6 l7 : Option mx_V) (S h : mx_H) (n : Int), mx_ex d 94 3 [l0, l1, l2, l3, l4, l5, l6, l7] [(0, x)] S h n = mx_ex d 94 4 [l0, l1, mx_nl l2, some (0, x), l4, l5, l6, l7] [] S h n) ∧
  (∀ (d : Nat) (x : Int) (l1 l2 l3 l4 l5 l6 l7 : Option mx_V) (S h : mx_H) (n : Int), mx_ex d 94 4 [some (2, x), l1, l2, l3, l4, l5, l6, l7] [] S h n = mx_ex d 94 5 [some (2, x), l1, l2, l3, l4, l5, l6, l7] [(2, x)] S h n) ∧
  (∀ (d : Nat) (a : Int) (l0 l1 l2 l3 l4 l5 l6 l7 : Option mx_V) (S h : mx_H) (n : Int), mx_ex d 94 5 [l0, l1, l2, l3, l4, l5, l6, l7] [(2, a)] S h n = mx_gd (8 ≤ S a (-2) ∧ S a (-2) ≤ 8) d 94 8 [l0, l1, l2, l3, l4, l5, l6, l7] [(2, S a 2)] S h n) ∧
  (∀ (d : Nat) (x : Int) (l0 l1 l2 l4 l5 l6 l7 : Option mx_V) (v0 : mx_V) (S h : mx_H) (n : Int), mx_ex d 94 8 [l0, l1, l2, some (0, x), l4, l5, l6, l7] [v0] S h n = mx_ex d 94 9 [l0, l1, l2, some (0, x), l4, l5, l6, l7] [(0, x), v0] S h n) ∧
  (∀ (d : Nat) (i a : Int) (l0 l1 l2 l3 l4 l5 l6 l7 : Option mx_V) (S h : mx_H) (n : Int), mx_ex d 94 9 [l0, l1, l2, l3, l4, l5, l6, l7] [(0, i), (2, a)] S h n = mx_gd ((S a (-2) = 20 ∨ S a (-2) = 24) ∧ 0 ≤ i ∧ i < S a (-1)) d 94 10 [l0, l1, l2, l3, l4, l5, l6, l7] [(0, h a i)] S h n) ∧
  (∀ (d : Nat) (x : Int) (l0 l1 l2 l3 l4 l5 l6 l7 : Option mx_V) (S h : mx_H) (n : Int), mx_ex d 94 10 [l0, l1, l2, l3, l4, l5, l6, l7] [(0, x)] S h n = mx_ex d 94 12 [l0, l1, l2, mx_nl l3, some (0, x), l5, l6, l7] [] S h n) ∧
  (∀ (d : Nat) (x : Int) (l1 l2 l3 l4 l5 l6 l7 : Option mx_V) (S h : mx_H) (n : Int), mx_ex d 94 12 [some (2, x), l1, l2, l3, l4, l5, l6, l7] [] S h n = mx_ex d 94 13 [some (2, x), l1, l2, l3, l4, l5, l6, l7] [(2, x)] S h n) ∧
  (∀ (d : Nat) (x : Int) (l1 l2 l3 l4 l5 l6 l7 : Option mx_V) (v0 : mx_V) (S h : mx_H) (n : Int), mx_ex d 94 13 [some (2, x), l1, l2, l3, l4, l5, l6, l7] [v0] S h n = mx_ex d 94 14 [some (2, x), l1, l2, l3, l4, l5, l6, l7] [(2, x), v0] S h n) ∧
  (∀ (d : Nat) (a : Int) (l0 l1 l2 l3 l4 l5 l6 l7 : Option mx_V) (v1 : mx_V) (S h : mx_H) (n : Int), mx_ex d 94 14 [l0, l1, l2, l3, l4, l5, l6, l7] [(2, a), v1] S h n = mx_gd (8 ≤ S a (-2) ∧ S a (-2) ≤ 8) d 94 17 [l0, l1, l2, l3, l4, l5, l6, l7] [(2, S a 2), v1] S h n) ∧
  (∀ (d : Nat) (x : Int) (l0 l1 l2 l4 l5 l6 l7 : Option mx_V) (v0 v1 : mx_V) (S h : mx_H) (n : Int), mx_ex d 94 17 [l0, l1, l2, some (0, x), l4, l5, l6, l7] [v0, v1] S h n = mx_ex d 94 18 [l0, l1, l2, some (0, x), l4, l5, l6, l7] [(0, x), v0, v1] S h n) ∧
  (∀ (d : Nat) (l0 l1 l2 l3 l4 l5 l6 l7 : Option mx_V) (v0 v1 v2 : mx_V) (S h : mx_H) (n : Int), mx_ex d 94 18 [l0, l1, l2, l3, l4, l5, l6, l7] [v0, v1, v2] S h n = mx_ex d 94 19 [l0, l1, l2, l3, l4, l5, l6, l7] [(0, 1), v0, v1, v2] S h n) ∧
  (∀ (d : Nat) (b a : Int) (l0 l1 l2 l3 l4 l5 l6 l7 : Option mx_V) (v2 v3 : mx_V) (S h : mx_H) (n : Int), mx_ex d 94 19 [l0, l1, l2, l3, l4, l5, l6, l7] [(0, b), (0, a), v2, v3] S h n = mx_ex d 94 20 [l0, l1, l2, l3, l4, l5, l6, l7] [(0, mx_w (a + b)), v2, v3] S h n) ∧
  (∀ (d : Nat) (i a : Int) (l0 l1 l2 l3 l4 l5 l6 l7 : Option mx_V) (v2 : mx_V) (S h : mx_H) (n : Int), mx_ex d 94 20 [l0, l1, l2, l3, l4, l5, l6, l7] [(0, i), (2, a), v2] S h n = mx_gd ((S a (-2) = 20 ∨ S a (-2) = 24) ∧ 0 ≤ i ∧ i < S a (-1)) d 94 21 [l0, l1, l2, l3, l4, l5, l6, l7] [(0, h a i), v2] S h n) ∧
  (∀ (d : Nat) (x : Int) (l0 l1 l3 l4 l5 l6 l7 : Option mx_V) (v0 v1 : mx_V) (S h : mx_H) (n : Int), mx_ex d 94 21 [l0, l1, some (2, x), l3, l4, l5, l6, l7] [v0, v1] S h n = mx_ex d 94 22 [l0, l1, some (2, x), l3, l4, l5, l6, l7] [(2, x), v0, v1] S h n) ∧
  (∀ (d : Nat) (x0 x1 a : Int) (l0 l1 l2 l3 l4 l5 l6 l7 : Option mx_V) (S h : mx_H) (n : Int), mx_ex (d + 1) 94 22 [l0, l1, l2, l3, l4, l5, l6, l7] [(2, x0), (0, x1), (2, a)] S h n = mx_cl (S a (-2) = 8) d 95 [(2, a), (0, x1), (2, x0)] 94 25 [l0, l1, l2, l3, l4, l5, l6, l7] [] S h n) ∧
  (∀ (d : Nat) (x : Int) (l0 l1 l2 l3 l4 l5 l6 l7 : Option mx_V) (S h : mx_H) (n : Int), mx_ex d 94 25 [l0, l1, l2, l3, l4, l5, l6, l7] [(0, x)] S h n = mx_ex d 94 27 [l0, l1, l2, l3, mx_nl l4, some (0, x), l6, l7] [] S h n) ∧
  (∀ (d : Nat) (x : Int) (l0 l1 l2 l3 l5 l6 l7 : Option mx_V) (S h : mx_H) (n : Int), mx_ex d 94 27 [l0, l1, l2, l3, some (0, x), l5, l6, l7] [] S h n = mx_ex d 94 29 [l0, l1, l2, l3, some (0, x), l5, l6, l7] [(0, x)] S h n) ∧
  (∀ (d : Nat) (l0 l1 l2 l3 l4 l5 l6 l7 : Option mx_V) (v0 : mx_V) (S h : mx_H) (n : Int), mx_ex d 94 29 [l0, l1, l2, l3, l4, l5, l6, l7] [v0] S h n = mx_ex d 94 30 [l0, l1, l2, l3, l4, l5, l6, l7] [(0, 3), v0] S h n) ∧
  (∀ (d : Nat) (b a : Int) (l0 l1 l2 l3 l4 l5 l6 l7 : Option mx_V) (S h : mx_H) (n : Int), mx_ex d 94 30 [l0, l1, l2, l3, l4, l5, l6, l7] [(0, b), (0, a)] S h n = mx_br (a = b) d 94 33 37 [l0, l1, l2, l3, l4, l5, l6, l7] [] S h n) ∧
  (∀ (d : Nat) (l0 l1 l2 l3 l4 l5 l6 l7 : Option mx_V) (S h : mx_H) (n : Int), mx_ex d 94 33 [l0, l1, l2, l3, l4, l5, l6, l7] [] S h n = mx_ex d 94 34 [l0, l1, l2, l3, l4, l5, l6, l7] [(0, 0)] S h n) ∧
  (∀ (d : Nat) (l0 l1 l2 l3 l4 l5 l6 l7 : Option mx_V) (v0 : mx_V) (S h : mx_H) (n : Int), mx_ex d 94 34 [l0, l1, l2, l3, l4, l5, l6, l7] [v0] S h n = mx_ex d 94 50 [l0, l1, l2, l3, l4, l5, l6, l7] [v0] S h n) ∧
  (∀ (d : Nat) (x : Int) (l1 l2 l3 l4 l5 l6 l7 : Option mx_V) (S h : mx_H) (n : Int), mx_ex d 94 37 [some (2, x), l1, l2, l3, l4, l5, l6, l7] [] S h n = mx_ex d 94 38 [some (2, x), l1, l2, l3, l4, l5, l6, l7] [(2, x)] S h n) ∧
  (∀ (d : Nat) (x : Int) (l1 l2 l3 l4 l5 l6 l7 : Option mx_V) (v0 : mx_V) (S h : mx_H) (n : Int), mx_ex d 94 38 [some (2, x), l1, l2, l3, l4, l5, l6, l7] [v0] S h n = mx_ex d 94 39 [some (2, x), l1, l2, l3, l4, l5, l6, l7] [(2, x), v0] S h n) ∧
  (∀ (d : Nat) (a : Int) (l0 l1 l2 l3 l4 l5 l6 l7 : Option mx_V) (v1 : mx_V) (S h : mx_H) (n : Int), mx_ex d 94 39 [l0, l1, l2, l3, l4, l5, l6, l7] [(2, a), v1] S h n = mx_gd (8 ≤ S a (-2) ∧ S a (-2) ≤ 8) d 94 42 [l0, l1, l2, l3, l4, l5, l6, l7] [(2, S a 2), v1] S h n) ∧
  (∀ (d : Nat) (x : Int) (l0 l1 l2 l4 l5 l6 l7 : Option mx_V) (v0 v1 : mx_V) (S h : mx_H) (n : Int), mx_ex d 94 42 [l0, l1, l2, some (0, x), l4, l5, l6, l7] [v0, v1] S h n = mx_ex d 94 43 [l0, l1, l2, some (0, x), l4, l5, l6, l7] [(0, x), v0, v1] S h n) ∧
  (∀ (d : Nat) (l0 l1 l2 l3 l4 l5 l6 l7 : Option mx_V) (v0 v1 v2 : mx_V) (S h : mx_H) (n : Int), mx_ex d 94 43 [l0, l1, l2, l3, l4, l5, l6, l7] [v0, v1, v2] S h n = mx_ex d 94 44 [l0, l1, l2, l3, l4, l5, l6, l7] [(0, 2), v0, v1, v2] S h n) ∧
  (∀ (d : Nat) (b a : Int) (l0 l1 l2 l3 l4 l5 l6 l7 : Option mx_V) (v2 v3 : mx_V) (S h : mx_H) (n : Int), mx_ex d 94 44 [l0, l1, l2, l3, l4, l5, l6, l7] [(0, b), (0, a), v2, v3] S h n = mx_ex d 94 45 [l0, l1, l2, l3, l4, l5, l6, l7] [(0, mx_w (a + b)), v2, v3] S h n) ∧
  (∀ (d : Nat) (i a : Int) (l0 l1 l2 l3 l4 l5 l6 l7 : Option mx_V) (v2 : mx_V) (S h : mx_H) (n : Int), mx_ex d 94 45 [l0, l1, l2, l3, l4, l5, l6, l7] [(0, i), (2, a), v2] S h n = mx_gd ((S a (-2) = 20 ∨ S a (-2) = 24) ∧ 0 ≤ i ∧ i < S a (-1)) d 94 46 [l0, l1, l2, l3, l4, l5, l6, l7] [(0, h a i), v2] S h n) ∧
  (∀ (d : Nat) (x : Int) (l0 l1 l3 l4 l5 l6 l7 : Option mx_V) (v0 v1 : mx_V) (S h : mx_H) (n : Int), mx_ex d 94 46 [l0, l1, some (2, x), l3, l4, l5, l6, l7] [v0, v1] S h n = mx_ex d 94 47 [l0, l1, some (2, x), l3, l4, l5, l6, l7] [(2, x), v0, v1] S h n) ∧
  (∀ (d : Nat) (x0 x1 a : Int) (l0 l1 l2 l3 l4 l5 l6 l7 : Option mx_V) (S h : mx_H) (n : Int), mx_ex (d + 1) 94 47 [l0, l1, l2, l3, l4, l5, l6, l7] [(2, x0), (0, x1), (2, a)] S h n = mx_cl (S a (-2) = 8) d 95 [(2, a), (0, x1), (2, x0)] 94 50 [l0, l1, l2, l3, l4, l5, l6, l7] [] S h n) ∧
  (∀ (d : Nat) (x : Int) (l0 l1 l2 l3 l4 l5 l6 l7 : Option mx_V) (S h : mx_H) (n : Int), mx_ex d 94 50 [l0, l1, l2, l3, l4, l5, l6, l7] [(0, x)] S h n = mx_ex d 94 52 [l0, l1, l2, l3, l4, mx_nl l5, some (0, x), l7] [] S h n) ∧
  (∀ (d : Nat) (x : Int) (l0 l1 l2 l3 l5 l6 l7 : Option mx_V) (S h : mx_H) (n : Int), mx_ex d 94 52 [l0, l1, l2, l3, some (0, x), l5, l6, l7] [] S h n = mx_ex d 94 54 [l0, l1, l2, l3, some (0, x), l5, l6, l7] [(0, x)] S h n) ∧
  (∀ (d : Nat) (l0 l1 l2 l3 l4 l5 l6 l7 : Option mx_V) (v0 : mx_V) (S h : mx_H) (n : Int), mx_ex d 94 54 [l0, l1, l2, l3, l4, l5, l6, l7] [v0] S h n = mx_ex d 94 55 [l0, l1, l2, l3, l4, l5, l6, l7] [(0, 2), v0] S h n) ∧
  (∀ (d : Nat) (b a : Int) (l0 l1 l2 l3 l4 l5 l6 l7 : Option mx_V) (S h : mx_H) (n : Int), mx_ex d 94 55 [l0, l1, l2, l3, l4, l5, l6, l7] [(0, b), (0, a)] S h n = mx_br (a = b) d 94 58 74 [l0, l1, l2, l3, l4, l5, l6, l7] [] S h n) ∧
  (∀ (d : Nat) (x : Int) (l1 l2 l3 l4 l5 l6 l7 : Option mx_V) (S h : mx_H) (n : Int), mx_ex d 94 58 [some (2, x), l1, l2, l3, l4, l5, l6, l7] [] S h n = mx_ex d 94 59 [some (2, x), l1, l2, l3, l4, l5, l6, l7] [(2, x)] S h n) ∧
  (∀ (d : Nat) (x : Int) (l1 l2 l3 l4 l5 l6 l7 : Option mx_V) (v0 : mx_V) (S h : mx_H) (n : Int), mx_ex d 94 59 [some (2, x), l1, l2, l3, l4, l5, l6, l7] [v0] S h n = mx_ex d 94 60 [some (2, x), l1, l2, l3, l4, l5, l6, l7] [(2, x), v0] S h n) ∧
  (∀ (d : Nat) (a : Int) (l0 l1 l2 l3 l4 l5 l6 l7 : Option mx_V) (v1 : mx_V) (S h : mx_H) (n : Int), mx_ex d 94 60 [l0, l1, l2, l3, l4, l5, l6, l7] [(2, a), v1] S h n = mx_gd (8 ≤ S a (-2) ∧ S a (-2) ≤ 8) d 94 63 [l0, l1, l2, l3, l4, l5, l6, l7] [(2, S a 2), v1] S h n) ∧
  (∀ (d : Nat) (x : Int) (l0 l1 l2 l4 l5 l6 l7 : Option mx_V) (v0 v1 : mx_V) (S h : mx_H) (n : Int), mx_ex d 94 63 [l0, l1, l2, some (0, x), l4, l5, l6, l7] [v0, v1] S h n = mx_ex d 94 64 [l0, l1, l2, some (0, x), l4, l5, l6, l7] [(0, x), v0, v1] S h n) ∧
  (∀ (d : Nat) (l0 l1 l2 l3 l4 l5 l6 l7 : Option mx_V) (v0 v1 v2 : mx_V) (S h : mx_H) (n : Int), mx_ex d 94 64 [l0, l1, l2, l3, l4, l5, l6, l7] [v0, v1, v2] S h n = mx_ex d 94 65 [l0, l1, l2, l3, l4, l5, l6, l7] [(0, 3), v0, v1, v2] S h n) ∧
  (∀ (d : Nat) (b a : Int) (l0 l1 l2 l3 l4 l5 l6 l7 : Option mx_V) (v2 v3 : mx_V) (S h : mx_H) (n : Int), mx_ex d 94 65 [l0, l1, l2, l3, l4, l5, l6, l7] [(0, b), (0, a), v2, v3] S h n = mx_ex d 94 66 [l0, l1, l2, l3, l4, l5, l6, l7] [(0, mx_w (a + b)), v2, v3] S h n) ∧
  (∀ (d : Nat) (i a : Int) (l0 l1 l2 l3 l4 l5 l6 l7 : Option mx_V) (v2 : mx_V) (S h : mx_H) (n : Int), mx_ex d 94 66 [l0, l1, l2, l3, l4, l5, l6, l7] [(0, i), (2, a), v2] S h n = mx_gd ((S a (-2) = 20 ∨ S a (-2) = 24) ∧ 0 ≤ i ∧ i < S a (-1)) d 94 67 [l0, l1, l2, l3, l4, l5, l6, l7] [(0, h a i), v2] S h n) ∧
  (∀ (d : Nat) (x : Int) (l0 l1 l3 l4 l5 l6 l7 : Option mx_V) (v0 v1 : mx_V) (S h : mx_H) (n : Int), mx_ex d 94 67 [l0, l1, some (2, x), l3, l4, l5, l6, l7] [v0, v1] S h n = mx_ex d 94 68 [l0, l1, some (2, x), l3, l4, l5, l6, l7] [(2, x), v0, v1] S h n) ∧
  (∀ (d : Nat) (x0 x1 a : Int) (l0 l1 l2 l3 l4 l5 l6 l7 : Option mx_V) (S h : mx_H) (n : Int), mx_ex (d + 1) 94 68 [l0, l1, l2, l3, l4, l5, l6, l7] [(2, x0), (0, x1), (2, a)] S h n = mx_cl (S a (-2) = 8) d 95 [(2, a), (0, x1), (2, x0)] 94 71 [l0, l1, l2, l3, l4, l5, l6, l7] [] S h n) ∧
  (∀ (d : Nat) (l0 l1 l2 l3 l4 l5 l6 l7 : Option mx_V) (v0 : mx_V) (S h : mx_H) (n : Int), mx_ex d 94 71 [l0, l1, l2, l3, l4, l5, l6, l7] [v0] S h n = mx_ex d 94 82 [l0, l1, l2, l3, l4, l5, l6, l7] [v0] S h n) ∧
  (∀ (d : Nat) (x : Int) (l1 l2 l3 l4 l5 l6 l7 : Option mx_V) (S h : mx_H) (n : Int), mx_ex d 94 74 [some (2, x), l1, l2, l3, l4, l5, l6, l7] [] S h n = mx_ex d 94 75 [some (2, x), l1, l2, l3, l4, l5, l6, l7] [(2, x)] S h n) ∧
  (∀ (d : Nat) (a : Int) (l0 l1 l2 l3 l4 l5 l6 l7 : Option mx_V) (S h : mx_H) (n : Int), mx_ex d 94 75 [l0, l1, l2, l3, l4, l5, l6, l7] [(2, a)] S h n = mx_gd (8 ≤ S a (-2) ∧ S a (-2) ≤ 8) d 94 78 [l0, l1, l2, l3, l4, l5, l6, l7] [(2, S a 2)] S h n) ∧
  (∀ (d : Nat) (x : Int) (l0 l1 l2 l4 l5 l6 l7 : Option mx_V) (v0 : mx_V) (S h : mx_H) (n : Int), mx_ex d 94 78 [l0, l1, l2, some (0, x), l4, l5, l6, l7] [v0] S h n = mx_ex d 94 79 [l0, l1, l2, some (0, x), l4, l5, l6, l7] [(0, x), v0] S h n) ∧
  (∀ (d : Nat) (l0 l1 l2 l3 l4 l5 l6 l7 : Option mx_V) (v0 v1 : mx_V) (S h : mx_H) (n : Int), mx_ex d 94 79 [l0, l1, l2, l3, l4, l5, l6, l7] [v0, v1] S h n = mx_ex d 94 80 [l0, l1, l2, l3, l4, l5, l6, l7] [(0, 3), v0, v1] S h n) ∧
  (∀ (d : Nat) (b a : Int) (l0 l1 l2 l3 l4 l5 l6 l7 : Option mx_V) (v2 : mx_V) (S h : mx_H) (n : Int), mx_ex d 94 80 [l0, l1, l2, l3, l4, l5, l6, l7] [(0, b), (0, a), v2] S h n = mx_ex d 94 81 [l0, l1, l2, l3, l4, l5, l6, l7] [(0, mx_w (a + b)), v2] S h n) ∧
  (∀ (d : Nat) (i a : Int) (l0 l1 l2 l3 l4 l5 l6 l7 : Option mx_V) (S h : mx_H) (n : Int), mx_ex d 94 81 [l0, l1, l2, l3, l4, l5, l6, l7] [(0, i), (2, a)] S h n = mx_gd ((S a (-2) = 20 ∨ S a (-2) = 24) ∧ 0 ≤ i ∧ i < S a (-1)) d 94 82 [l0, l1, l2, l3, l4, l5, l6, l7] [(0, h a i)] S h n) ∧
  (∀ (d : Nat) (x : Int) (l0 l1 l2 l3 l4 l5 l6 l7 : Option mx_V) (S h : mx_H) (n : Int), mx_ex d 94 82 [l0, l1, l2, l3, l4, l5, l6, l7] [(0, x)] S h n = mx_ex d 94 84 [l0, l1, l2, l3, l4, l5, mx_nl l6, some (0, x)] [] S h n) ∧
  (∀ (d : Nat) (x : Int) (l0 l1 l2 l3 l5 l6 l7 : Option mx_V) (S h : mx_H) (n : Int), mx_ex d 94 84 [l0, l1, l2, l3, some (0, x), l5, l6, l7] [] S h n = mx_ex d 94 86 [l0, l1, l2, l3, some (0, x), l5, l6, l7] [(0, x)] S h n) ∧
  (∀ (d : Nat) (x : Int) (l0 l1 l2 l3 l4 l6 l7 : Option mx_V) (v0 : mx_V) (S h : mx_H) (n : Int), mx_ex d 94 86 [l0, l1, l2, l3, l4, some (0, x), l6, l7] [v0] S h n = mx_ex d 94 88 [l0, l1, l2, l3, l4, some (0, x), l6, l7] [(0, x), v0] S h n) ∧
  (∀ (d : Nat) (x : Int) (l0 l1 l2 l3 l4 l5 l7 : Option mx_V) (v0 v1 : mx_V) (S h : mx_H) (n : Int), mx_ex d 94 88 [l0, l1, l2, l3, l4, l5, some (0, x), l7] [v0, v1] S h n = mx_ex d 94 90 [l0, l1, l2, l3, l4, l5, some (0, x), l7] [(0, x), v0, v1] S h n) ∧
  (∀ (d : Nat) (x : Int) (l0 l1 l2 l3 l4 l5 l6 : Option mx_V) (v0 v1 v2 : mx_V) (S h : mx_H) (n : Int), mx_ex d 94 90 [l0, l1, l2, l3, l4, l5, l6, some (0, x)] [v0, v1, v2] S h n = mx_ex d 94 92 [l0, l1, l2, l3, l4, l5, l6, some (0, x)] [(0, x), v0, v1, v2] S h n) ∧
  (∀ (d : Nat) (x0 x1 x2 x3 : Int) (l0 l1 l2 l3 l4 l5 l6 l7 : Option mx_V) (S h : mx_H) (n : Int), mx_ex (d + 1) 94 92 [l0, l1, l2, l3, l4, l5, l6, l7] [(0, x0), (0, x1), (0, x2), (0, x3)] S h n = mx_rt (mx_M d 153 [(0, x3), (0, x2), (0, x1), (0, x0)] S h n) (d + 1) 94 95 [l0, l1, l2, l3, l4, l5, l6, l7] []) ∧
  (∀ (d : Nat) (x : Int) (l0 l1 l2 l3 l4 l5 l6 l7 : Option mx_V) (S h : mx_H) (n : Int), mx_ex d 94 95 [l0, l1, l2, l3, l4, l5, l6, l7] [(0, x)] S h n = mx_re (0 ≤ x ∧ x ≤ 1) (some (0, x)) S h n) :=
  ⟨by intros; exact rfl,
   by intros; exact eq_ld rfl rfl,
   by intros; exact eq_push rfl,
   by intros; exact eq_i2 (o := mx_mul) rfl,
   by intros; exact eq_st rfl (by decide) (Nat.le_of_ble_eq_true rfl) rfl,
   by intros; exact eq_ld rfl rfl,
   by intros; exact eq_gr rfl,
   by intros; exact eq_ld rfl rfl,
   by intros; exact eq_iald rfl,
   by intros; exact eq_st rfl (by decide) (Nat.le_of_ble_eq_true rfl) rfl,
   by intros; exact eq_ld rfl rfl,
   by intros; exact eq_ld rfl rfl,
   by intros; exact eq_gr rfl,
   by intros; exact eq_ld rfl rfl,
   by intros; exact eq_push rfl,
   by intros; exact eq_i2 (o := mx_add) rfl,
   by intros; exact eq_iald rfl,
   by intros; exact eq_ld rfl rfl,
   by intros; exact eq_cv rfl (Nat.le_of_ble_eq_true rfl) rfl rfl rfl (Nat.le_of_ble_eq_true rfl),
   by intros; exact eq_st rfl (by decide) (Nat.le_of_ble_eq_true rfl) rfl,
   by intros; exact eq_ld rfl rfl,
   by intros; exact eq_push rfl,
   by intros; exact eq_ic1 rfl,
   by intros; exact eq_push rfl,
   by intros; exact eq_go rfl,
   by intros; exact eq_ld rfl rfl,
   by intros; exact eq_ld rfl rfl,
   by intros; exact eq_gr rfl,
   by intros; exact eq_ld rfl rfl,
   by intros; exact eq_push rfl,
   by intros; exact eq_i2 (o := mx_add) rfl,
   by intros; exact eq_iald rfl,
   by intros; exact eq_ld rfl rfl,
   by intros; exact eq_cv rfl (Nat.le_of_ble_eq_true rfl) rfl rfl rfl (Nat.le_of_ble_eq_true rfl),
   by intros; exact eq_st rfl (by decide) (Nat.le_of_ble_eq_true rfl) rfl,
   by intros; exact eq_ld rfl rfl,
   by intros; exact eq_push rfl,
   by intros; exact eq_ic1 rfl,
   by intros; exact eq_ld rfl rfl,
   by intros; exact eq_ld rfl rfl,
   by intros; exact eq_gr rfl,
   by intros; exact eq_ld rfl rfl,
   by intros; exact eq_push rfl,
   by intros; exact eq_i2 (o := mx_add) rfl,
   by intros; exact eq_iald rfl,
   by intros; exact eq_ld rfl rfl,
   by intros; exact eq_cv rfl (Nat.le_of_ble_eq_true rfl) rfl rfl rfl (Nat.le_of_ble_eq_true rfl),
   by intros; exact eq_go rfl,
   by intros; exact eq_ld rfl rfl,
   by intros; exact eq_gr rfl,
   by intros; exact eq_ld rfl rfl,
   by intros; exact eq_push rfl,
   by intros; exact eq_i2 (o := mx_add) rfl,
   by intros; exact eq_iald rfl,
   by intros; exact eq_st rfl (by decide) (Nat.le_of_ble_eq_true rfl) rfl,
   by intros; exact eq_ld rfl rfl,
   by intros; exact eq_ld rfl rfl,
   by intros; exact eq_ld rfl rfl,
   by intros; exact eq_ld rfl rfl,
   by intros; exact eq_cs rfl (Nat.le_of_ble_eq_true rfl) rfl rfl rfl (Nat.le_of_ble_eq_true rfl),
   by intros; exact eq_rr rfl⟩
theorem rw_X10_worthOf :
  (∀ (d : Nat) (a0 a1 a2 : Int) (S h : mx_H) (n : Int), mx_M d 95 [(2, a0), (0, a1), (2, a2)] S h n = mx_ex d 95 0 [some (2, a0), some (0, a1), some (2, a2), none] [] S h n) ∧
  (∀ (d : Nat) (x : Int) (l1 l2 l3 : Option mx_V) (S h : mx_H) (n : Int), mx_ex d 95 0 [some (2, x), l1, l2, l3] [] S h n = mx_ex d 95 1 [some (2, x), l1, l2, l3] [(2, x)] S h n) ∧
  (∀ (d : Nat) (x : Int) (l0 l2 l3 : Option mx_V) (v0 : mx_V) (S h : mx_H) (n : Int), mx_ex d 95 1 [l0, some (0, x), l2, l3] [v0] S h n = mx_ex d 95 2 [l0, some (0, x), l2, l3] [(0, x), v0] S h n) ∧
  (∀ (d : Nat) (x0 a : Int) (l0 l1 l2 l3 : Option mx_V) (S h : mx_H) (n : Int), mx_ex (d + 1) 95 2 [l0, l1, l2, l3] [(0, x0), (2, a)] S h n = mx_cl (S a (-2) = 8) d 90 [(2, a), (0, x0)] 95 5 [l0, l1, l2, l3] [] S h n) ∧
  (∀ (d : Nat) (x : Int) (l0 l1 l2 l3 : Option mx_V) (S h : mx_H) (n : Int), mx_ex d 95 5 [l0, l1, l2, l3] [(2, x)] S h n = mx_ex d 95 6 [l0, l1, mx_nl l2, some (2, x)] [] S h n) ∧
  (∀ (d : Nat) (x : Int) (l0 l1 l2 : Option mx_V) (S h : mx_H) (n : Int), mx_ex d 95 6 [l0, l1, l2, some (2, x)] [] S h n = mx_ex d 95 7 [l0, l1, l2, some (2, x)] [(2, x)] S h n) ∧
  (∀ (d : Nat) (a : Int) (l0 l1 l2 l3 : Option mx_V) (S h : mx_H) (n : Int), mx_ex d 95 7 [l0, l1, l2, l3] [(2, a)] S h n = mx_br (a = -1) d 95 10 14 [l0, l1, l2, l3] [] S h n) ∧
  (∀ (d : Nat) (l0 l1 l2 l3 : Option mx_V) (S h : mx_H) (n : Int), mx_ex d 95 10 [l0, l1, l2, l3] [] S h n = mx_ex d 95 11 [l0, l1, l2, l3] [(0, 0)] S h n) ∧
  (∀ (d : Nat) (l0 l1 l2 l3 : Option mx_V) (v0 : mx_V) (S h : mx_H) (n : Int), mx_ex d 95 11 [l0, l1, l2, l3] [v0] S h n = mx_ex d 95 24 [l0, l1, l2, l3] [v0] S h n) ∧
  (∀ (d : Nat) (x : Int) (l0 l1 l2 : Option mx_V) (S h : mx_H) (n : Int), mx_ex d 95 14 [l0, l1, l2, some (2, x)] [] S h n = mx_ex d 95 15 [l0, l1, l2, some (2, x)] [(2, x)] S h n) ∧
  (∀ (d : Nat) (x : Int) (l0 l1 l3 : Option mx_V) (v0 : mx_V) (S h : mx_H) (n : Int), mx_ex d 95 15 [l0, l1, some (2, x), l3] [v0] S h n = mx_ex d 95 16 [l0, l1, some (2, x), l3] [(2, x), v0] S h n) ∧
  (∀ (d : Nat) (x : Int) (l0 l1 l2 : Option mx_V) (v0 v1 : mx_V) (S h : mx_H) (n : Int), mx_ex d 95 16 [l0, l1, l2, some (2, x)] [v0, v1] S h n = mx_ex d 95 17 [l0, l1, l2, some (2, x)] [(2, x), v0, v1] S h n) ∧
  (∀ (d : Nat) (a : Int) (l0 l1 l2 l3 : Option mx_V) (v1 v2 : mx_V) (S h : mx_H) (n : Int), mx_ex d 95 17 [l0, l1, l2, l3] [(2, a), v1, v2] S h n = mx_gd (1 ≤ S a (-2) ∧ S a (-2) ≤ 6) d 95 20 [l0, l1, l2, l3] [(0, h a 3), v1, v2] S h n) ∧
  (∀ (d : Nat) (i a : Int) (l0 l1 l2 l3 : Option mx_V) (v2 : mx_V) (S h : mx_H) (n : Int), mx_ex d 95 20 [l0, l1, l2, l3] [(0, i), (2, a), v2] S h n = mx_gd ((S a (-2) = 20 ∨ S a (-2) = 24) ∧ 0 ≤ i ∧ i < S a (-1)) d 95 21 [l0, l1, l2, l3] [(0, h a i), v2] S h n) ∧
  (∀ (d : Nat) (x0 a : Int) (l0 l1 l2 l3 : Option mx_V) (S h : mx_H) (n : Int), mx_ex (d + 1) 95 21 [l0, l1, l2, l3] [(0, x0), (2, a)] S h n = mx_cu (mx_vt (S a (-2)) [(1, 43), (2, 56), (3, 3), (4, 3), (5, 81), (6, 9)]) d [(2, a), (0, x0)] 95 24 [l0, l1, l2, l3] [] S h n) ∧
  (∀ (d : Nat) (x : Int) (l0 l1 l2 l3 : Option mx_V) (S h : mx_H) (n : Int), mx_ex d 95 24 [l0, l1, l2, l3] [(0, x)] S h n = some (some (0, x), S, h, n)) :=
  ⟨by intros; exact rfl,
   by intros; exact eq_ld rfl rfl,
   by intros; exact eq_ld rfl rfl,
   by intros; exact eq_cv rfl (Nat.le_of_ble_eq_true rfl) rfl rfl rfl (Nat.le_of_ble_eq_true rfl),
   by intros; exact eq_st rfl (by decide) (Nat.le_of_ble_eq_true rfl) rfl,
   by intros; exact eq_ld rfl rfl,
   by intros; exact eq_nul rfl,
   by intros; exact eq_push rfl,
   by intros; exact eq_go rfl,
   by intros; exact eq_ld rfl rfl,
   by intros; exact eq_ld rfl rfl,
   by intros; exact eq_ld rfl rfl,
   by intros; exact eq_gi rfl,
   by intros; exact eq_iald rfl,
   by intros; exact eq_cu rfl (Nat.le_of_ble_eq_true rfl) rfl rfl rfl (Nat.le_of_ble_eq_true rfl),
   by intros; exact eq_ret rfl⟩
theorem rh_X10_linesWith_4 : ∀ (d : Nat) (x : Int) (l0 l1 l2 l4 l5 l6 : Option mx_V) (S h : mx_H) (n : Int), mx_ex d 96 4 [l0, l1, l2, some (0, x), l4, l5, l6] [] S h n = mx_ex d 96 5 [l0, l1, l2, some (0, x), l4, l5, l6] [(0, x)] S h n := by intros; exact eq_ld rfl rfl
theorem rw_X10_linesWith :
  (∀ (d : Nat) (a0 a1 : Int) (S h : mx_H) (n : Int), mx_M d 96 [(2, a0), (0, a1)] S h n = mx_ex d 96 0 [some (2, a0), some (0, a1), none, none, none, none, none] [] S h n) ∧
  (∀ (d : Nat) (l0 l1 l2 l3 l4 l5 l6 : Option mx_V) (S h : mx_H) (n : Int), mx_ex d 96 0 [l0, l1, l2, l3, l4, l5, l6] [] S h n = mx_ex d 96 1 [l0, l1, l2, l3, l4, l5, l6] [(0, 0)] S h n) ∧
  (∀ (d : Nat) (x : Int) (l0 l1 l2 l3 l4 l5 l6 : Option mx_V) (S h : mx_H) (n : Int), mx_ex d 96 1 [l0, l1, l2, l3, l4, l5, l6] [(0, x)] S h n = mx_ex d 96 2 [l0, mx_nl l1, some (0, x), l3, l4, l5, l6] [] S h n) ∧
  (∀ (d : Nat) (l0 l1 l2 l3 l4 l5 l6 : Option mx_V) (S h : mx_H) (n : Int), mx_ex d 96 2 [l0, l1, l2, l3, l4, l5, l6] [] S h n = mx_ex d 96 3 [l0, l1, l2, l3, l4, l5, l6] [(0, 0)] S h n) ∧
  (∀ (d : Nat) (x : Int) (l0 l1 l2 l3 l4 l5 l6 : Option mx_V) (S h : mx_H) (n : Int), mx_ex d 96 3 [l0, l1, l2, l3, l4, l5, l6] [(0, x)] S h n = mx_ex d 96 4 [l0, l1, mx_nl l2, some (0, x), l4, l5, l6] [] S h n) ∧
  (∀ (d : Nat) (x : Int) (l1 l2 l3 l4 l5 l6 : Option mx_V) (v0 : mx_V) (S h : mx_H) (n : Int), mx_ex d 96 5 [some (2, x), l1, l2, l3, l4, l5, l6] [v0] S h n = mx_ex d 96 6 [some (2, x), l1, l2, l3, l4, l5, l6] [(2, x), v0] S h n) ∧
  (∀ (d : Nat) (a : Int) (l0 l1 l2 l3 l4 l5 l6 : Option mx_V) (v1 : mx_V) (S h : mx_H) (n : Int), mx_ex d 96 6 [l0, l1, l2, l3, l4, l5, l6] [(2, a), v1] S h n = mx_gd (8 ≤ S a (-2) ∧ S a (-2) ≤ 8) d 96 9 [l0, l1, l2, l3, l4, l5, l6] [(0, h a 4), v1] S h n) ∧
  (∀ (d : Nat) (b a : Int) (l0 l1 l2 l3 l4 l5 l6 : Option mx_V) (S h : mx_H) (n : Int), mx_ex d 96 9 [l0, l1, l2, l3, l4, l5, l6] [(0, b), (0, a)] S h n = mx_br (a < b) d 96 12 101 [l0, l1, l2, l3, l4, l5, l6] [] S h n) ∧
  (∀ (d : Nat) (x : Int) (l0 l1 l2 l4 l5 l6 : Option mx_V) (S h : mx_H) (n : Int), mx_ex d 96 12 [l0, l1, l2, some (0, x), l4, l5, l6] [] S h n = mx_ex d 96 13 [l0, l1, l2, some (0, x), l4, l5, l6] [(0, x)] S h n) ∧
  (∀ (d : Nat) (l0 l1 l2 l3 l4 l5 l6 : Option mx_V) (v0 : mx_V) (S h : mx_H) (n : Int), mx_ex d 96 13 [l0, l1, l2, l3, l4, l5, l6] [v0] S h n = mx_ex d 96 14 [l0, l1, l2, l3, l4, l5, l6] [(0, 4), v0] S h n) ∧
  (∀ (d : Nat) (b a : Int) (l0 l1 l2 l3 l4 l5 l6 : Option mx_V) (S h : mx_H) (n : Int), mx_ex d 96 14 [l0, l1, l2, l3, l4, l5, l6] [(0, b), (0, a)] S h n = mx_ex d 96 15 [l0, l1, l2, l3, l4, l5, l6] [(0, mx_w (a * b))] S h n) ∧
  (∀ (d : Nat) (x : Int) (l0 l1 l2 l3 l4 l5 l6 : Option mx_V) (S h : mx_H) (n : Int), mx_ex d 96 15 [l0, l1, l2, l3, l4, l5, l6] [(0, x)] S h n = mx_ex d 96 17 [l0, l1, l2, mx_nl l3, some (0, x), l5, l6] [] S h n) ∧
  (∀ (d : Nat) (x : Int) (l1 l2 l3 l4 l5 l6 : Option mx_V) (S h : mx_H) (n : Int), mx_ex d 96 17 [some (2, x), l1, l2, l3, l4, l5, l6] [] S h n = mx_ex d 96 18 [some (2, x), l1, l2, l3, l4, l5, l6] [(2, x)] S h n) ∧
  (∀ (d : Nat) (a : Int) (l0 l1 l2 l3 l4 l5 l6 : Option mx_V) (S h : mx_H) (n : Int), mx_ex d 96 18 [l0, l1, l2, l3, l4, l5, l6] [(2, a)] S h n = mx_gd (8 ≤ S a (-2) ∧ S a (-2) ≤ 8) d 96 21 [l0, l1, l2, l3, l4, l5, l6] [(2, S a 2)] S h n) ∧
  (∀ (d : Nat) (x : Int) (l0 l1 l2 l3 l5 l6 : Option mx_V) (v0 : mx_V) (S h : mx_H) (n : Int), mx_ex d 96 21 [l0, l1, l2, l3, some (0, x), l5, l6] [v0] S h n = mx_ex d 96 23 [l0, l1, l2, l3, some (0, x), l5, l6] [(0, x), v0] S h n) ∧
  (∀ (d : Nat) (i a : Int) (l0 l1 l2 l3 l4 l5 l6 : Option mx_V) (S h : mx_H) (n : Int), mx_ex d 96 23 [l0, l1, l2, l3, l4, l5, l6] [(0, i), (2, a)] S h n = mx_gd ((S a (-2) = 20 ∨ S a (-2) = 24) ∧ 0 ≤ i ∧ i < S a (-1)) d 96 24 [l0, l1, l2, l3, l4, l5, l6] [(0, h a i)] S h n) ∧
  (∀ (d : Nat) (x : Int) (l0 l1 l2 l3 l4 l5 l6 : Option mx_V) (S h : mx_H) (n : Int), mx_ex d 96 24 [l0, l1, l2, l3, l4, l5, l6] [(0, x)] S h n = mx_ex d 96 26 [l0, l1, l2, l3, mx_nl l4, some (0, x), l6] [] S h n) ∧
  (∀ (d : Nat) (x : Int) (l1 l2 l3 l4 l5 l6 : Option mx_V) (S h : mx_H) (n : Int), mx_ex d 96 26 [some (2, x), l1, l2, l3, l4, l5, l6] [] S h n = mx_ex d 96 27 [some (2, x), l1, l2, l3, l4, l5, l6] [(2, x)] S h n) ∧
  (∀ (d : Nat) (a : Int) (l0 l1 l2 l3 l4 l5 l6 : Option mx_V) (S h : mx_H) (n : Int), mx_ex d 96 27 [l0, l1, l2, l3, l4, l5, l6] [(2, a)] S h n = mx_gd (8 ≤ S a (-2) ∧ S a (-2) ≤ 8) d 96 30 [l0, l1, l2, l3, l4, l5, l6] [(2, S a 2)] S h n) ∧
  (∀ (d : Nat) (x : Int) (l0 l1 l2 l3 l5 l6 : Option mx_V) (v0 : mx_V) (S h : mx_H) (n : Int), mx_ex d 96 30 [l0, l1, l2, l3, some (0, x), l5, l6] [v0] S h n = mx_ex d 96 32 [l0, l1, l2, l3, some (0, x), l5, l6] [(0, x), v0] S h n) ∧
  (∀ (d : Nat) (l0 l1 l2 l3 l4 l5 l6 : Option mx_V) (v0 v1 : mx_V) (S h : mx_H) (n : Int), mx_ex d 96 32 [l0, l1, l2, l3, l4, l5, l6] [v0, v1] S h n = mx_ex d 96 33 [l0, l1, l2, l3, l4, l5, l6] [(0, 1), v0, v1] S h n) ∧
  (∀ (d : Nat) (b a : Int) (l0 l1 l2 l3 l4 l5 l6 : Option mx_V) (v2 : mx_V) (S h : mx_H) (n : Int), mx_ex d 96 33 [l0, l1, l2, l3, l4, l5, l6] [(0, b), (0, a), v2] S h n = mx_ex d 96 34 [l0, l1, l2, l3, l4, l5, l6] [(0, mx_w (a + b)), v2] S h n) ∧
  (∀ (d : Nat) (i a : Int) (l0 l1 l2 l3 l4 l5 l6 : Option mx_V) (S h : mx_H) (n : Int), mx_ex d 96 34 [l0, l1, l2, l3, l4, l5, l6] [(0, i), (2, a)] S h n = mx_gd ((S a (-2) = 20 ∨ S a (-2) = 24) ∧ 0 ≤ i ∧ i < S a (-1)) d 96 35 [l0, l1, l2, l3, l4, l5, l6] [(0, h a i)] S h n) ∧
  (∀ (d : Nat) (x : Int) (l0 l2 l3 l4 l5 l6 : Option mx_V) (v0 : mx_V) (S h : mx_H) (n : Int), mx_ex d 96 35 [l0, some (0, x), l2, l3, l4, l5, l6] [v0] S h n = mx_ex d 96 36 [l0, some (0, x), l2, l3, l4, l5, l6] [(0, x), v0] S h n) ∧
  (∀ (d : Nat) (b a : Int) (l0 l1 l2 l3 l4 l5 l6 : Option mx_V) (S h : mx_H) (n : Int), mx_ex d 96 36 [l0, l1, l2, l3, l4, l5, l6] [(0, b), (0, a)] S h n = mx_br (a = b) d 96 77 39 [l0, l1, l2, l3, l4, l5, l6] [] S h n) ∧
  (∀ (d : Nat) (x : Int) (l0 l1 l2 l3 l4 l6 : Option mx_V) (S h : mx_H) (n : Int), mx_ex d 96 39 [l0, l1, l2, l3, l4, some (0, x), l6] [] S h n = mx_ex d 96 41 [l0, l1, l2, l3, l4, some (0, x), l6] [(0, x)] S h n) ∧
  (∀ (d : Nat) (l0 l1 l2 l3 l4 l5 l6 : Option mx_V) (v0 : mx_V) (S h : mx_H) (n : Int), mx_ex d 96 41 [l0, l1, l2, l3, l4, l5, l6] [v0] S h n = mx_ex d 96 42 [l0, l1, l2, l3, l4, l5, l6] [(0, 3), v0] S h n) ∧
  (∀ (d : Nat) (b a : Int) (l0 l1 l2 l3 l4 l5 l6 : Option mx_V) (S h : mx_H) (n : Int), mx_ex d 96 42 [l0, l1, l2, l3, l4, l5, l6] [(0, b), (0, a)] S h n = mx_br (a = b) d 96 58 45 [l0, l1, l2, l3, l4, l5, l6] [] S h n) ∧
  (∀ (d : Nat) (x : Int) (l1 l2 l3 l4 l5 l6 : Option mx_V) (S h : mx_H) (n : Int), mx_ex d 96 45 [some (2, x), l1, l2, l3, l4, l5, l6] [] S h n = mx_ex d 96 46 [some (2, x), l1, l2, l3, l4, l5, l6] [(2, x)] S h n) ∧
  (∀ (d : Nat) (a : Int) (l0 l1 l2 l3 l4 l5 l6 : Option mx_V) (S h : mx_H) (n : Int), mx_ex d 96 46 [l0, l1, l2, l3, l4, l5, l6] [(2, a)] S h n = mx_gd (8 ≤ S a (-2) ∧ S a (-2) ≤ 8) d 96 49 [l0, l1, l2, l3, l4, l5, l6] [(2, S a 2)] S h n) ∧
  (∀ (d : Nat) (x : Int) (l0 l1 l2 l3 l5 l6 : Option mx_V) (v0 : mx_V) (S h : mx_H) (n : Int), mx_ex d 96 49 [l0, l1, l2, l3, some (0, x), l5, l6] [v0] S h n = mx_ex d 96 51 [l0, l1, l2, l3, some (0, x), l5, l6] [(0, x), v0] S h n) ∧
  (∀ (d : Nat) (l0 l1 l2 l3 l4 l5 l6 : Option mx_V) (v0 v1 : mx_V) (S h : mx_H) (n : Int), mx_ex d 96 51 [l0, l1, l2, l3, l4, l5, l6] [v0, v1] S h n = mx_ex d 96 52 [l0, l1, l2, l3, l4, l5, l6] [(0, 2), v0, v1] S h n) ∧
  (∀ (d : Nat) (b a : Int) (l0 l1 l2 l3 l4 l5 l6 : Option mx_V) (v2 : mx_V) (S h : mx_H) (n : Int), mx_ex d 96 52 [l0, l1, l2, l3, l4, l5, l6] [(0, b), (0, a), v2] S h n = mx_ex d 96 53 [l0, l1, l2, l3, l4, l5, l6] [(0, mx_w (a + b)), v2] S h n) ∧
  (∀ (d : Nat) (i a : Int) (l0 l1 l2 l3 l4 l5 l6 : Option mx_V) (S h : mx_H) (n : Int), mx_ex d 96 53 [l0, l1, l2, l3, l4, l5, l6] [(0, i), (2, a)] S h n = mx_gd ((S a (-2) = 20 ∨ S a (-2) = 24) ∧ 0 ≤ i ∧ i < S a (-1)) d 96 54 [l0, l1, l2, l3, l4, l5, l6] [(0, h a i)] S h n) ∧
  (∀ (d : Nat) (x : Int) (l0 l2 l3 l4 l5 l6 : Option mx_V) (v0 : mx_V) (S h : mx_H) (n : Int), mx_ex d 96 54 [l0, some (0, x), l2, l3, l4, l5, l6] [v0] S h n = mx_ex d 96 55 [l0, some (0, x), l2, l3, l4, l5, l6] [(0, x), v0] S h n) ∧
  (∀ (d : Nat) (b a : Int) (l0 l1 l2 l3 l4 l5 l6 : Option mx_V) (S h : mx_H) (n : Int), mx_ex d 96 55 [l0, l1, l2, l3, l4, l5, l6] [(0, b), (0, a)] S h n = mx_br (a = b) d 96 77 58 [l0, l1, l2, l3, l4, l5, l6] [] S h n) ∧
  (∀ (d : Nat) (x : Int) (l0 l1 l2 l3 l4 l6 : Option mx_V) (S h : mx_H) (n : Int), mx_ex d 96 58 [l0, l1, l2, l3, l4, some (0, x), l6] [] S h n = mx_ex d 96 60 [l0, l1, l2, l3, l4, some (0, x), l6] [(0, x)] S h n) ∧
  (∀ (d : Nat) (l0 l1 l2 l3 l4 l5 l6 : Option mx_V) (v0 : mx_V) (S h : mx_H) (n : Int), mx_ex d 96 60 [l0, l1, l2, l3, l4, l5, l6] [v0] S h n = mx_ex d 96 61 [l0, l1, l2, l3, l4, l5, l6] [(0, 2), v0] S h n) ∧
  (∀ (d : Nat) (b a : Int) (l0 l1 l2 l3 l4 l5 l6 : Option mx_V) (S h : mx_H) (n : Int), mx_ex d 96 61 [l0, l1, l2, l3, l4, l5, l6] [(0, b), (0, a)] S h n = mx_br (a = b) d 96 64 81 [l0, l1, l2, l3, l4, l5, l6] [] S h n) ∧
  (∀ (d : Nat) (x : Int) (l1 l2 l3 l4 l5 l6 : Option mx_V) (S h : mx_H) (n : Int), mx_ex d 96 64 [some (2, x), l1, l2, l3, l4, l5, l6] [] S h n = mx_ex d 96 65 [some (2, x), l1, l2, l3, l4, l5, l6] [(2, x)] S h n) ∧
  (∀ (d : Nat) (a : Int) (l0 l1 l2 l3 l4 l5 l6 : Option mx_V) (S h : mx_H) (n : Int), mx_ex d 96 65 [l0, l1, l2, l3, l4, l5, l6] [(2, a)] S h n = mx_gd (8 ≤ S a (-2) ∧ S a (-2) ≤ 8) d 96 68 [l0, l1, l2, l3, l4, l5, l6] [(2, S a 2)] S h n) ∧
  (∀ (d : Nat) (x : Int) (l0 l1 l2 l3 l5 l6 : Option mx_V) (v0 : mx_V) (S h : mx_H) (n : Int), mx_ex d 96 68 [l0, l1, l2, l3, some (0, x), l5, l6] [v0] S h n = mx_ex d 96 70 [l0, l1, l2, l3, some (0, x), l5, l6] [(0, x), v0] S h n) ∧
  (∀ (d : Nat) (l0 l1 l2 l3 l4 l5 l6 : Option mx_V) (v0 v1 : mx_V) (S h : mx_H) (n : Int), mx_ex d 96 70 [l0, l1, l2, l3, l4, l5, l6] [v0, v1] S h n = mx_ex d 96 71 [l0, l1, l2, l3, l4, l5, l6] [(0, 3), v0, v1] S h n) ∧
  (∀ (d : Nat) (b a : Int) (l0 l1 l2 l3 l4 l5 l6 : Option mx_V) (v2 : mx_V) (S h : mx_H) (n : Int), mx_ex d 96 71 [l0, l1, l2, l3, l4, l5, l6] [(0, b), (0, a), v2] S h n = mx_ex d 96 72 [l0, l1, l2, l3, l4, l5, l6] [(0, mx_w (a + b)), v2] S h n) ∧
  (∀ (d : Nat) (i a : Int) (l0 l1 l2 l3 l4 l5 l6 : Option mx_V) (S h : mx_H) (n : Int), mx_ex d 96 72 [l0, l1, l2, l3, l4, l5, l6] [(0, i), (2, a)] S h n = mx_gd ((S a (-2) = 20 ∨ S a (-2) = 24) ∧ 0 ≤ i ∧ i < S a (-1)) d 96 73 [l0, l1, l2, l3, l4, l5, l6] [(0, h a i)] S h n) ∧
  (∀ (d : Nat) (x : Int) (l0 l2 l3 l4 l5 l6 : Option mx_V) (v0 : mx_V) (S h : mx_H) (n : Int), mx_ex d 96 73 [l0, some (0, x), l2, l3, l4, l5, l6] [v0] S h n = mx_ex d 96 74 [l0, some (0, x), l2, l3, l4, l5, l6] [(0, x), v0] S h n) ∧
  (∀ (d : Nat) (b a : Int) (l0 l1 l2 l3 l4 l5 l6 : Option mx_V) (S h : mx_H) (n : Int), mx_ex d 96 74 [l0, l1, l2, l3, l4, l5, l6] [(0, b), (0, a)] S h n = mx_br (a = b) d 96 77 81 [l0, l1, l2, l3, l4, l5, l6] [] S h n) ∧
  (∀ (d : Nat) (l0 l1 l2 l3 l4 l5 l6 : Option mx_V) (S h : mx_H) (n : Int), mx_ex d 96 77 [l0, l1, l2, l3, l4, l5, l6] [] S h n = mx_ex d 96 78 [l0, l1, l2, l3, l4, l5, l6] [(0, 1)] S h n) ∧
  (∀ (d : Nat) (l0 l1 l2 l3 l4 l5 l6 : Option mx_V) (v0 : mx_V) (S h : mx_H) (n : Int), mx_ex d 96 78 [l0, l1, l2, l3, l4, l5, l6] [v0] S h n = mx_ex d 96 82 [l0, l1, l2, l3, l4, l5, l6] [v0] S h n) ∧
  (∀ (d : Nat) (l0 l1 l2 l3 l4 l5 l6 : Option mx_V) (S h : mx_H) (n : Int), mx_ex d 96 81 [l0, l1, l2, l3, l4, l5, l6] [] S h n = mx_ex d 96 82 [l0, l1, l2, l3, l4, l5, l6] [(0, 0)] S h n) ∧
  (∀ (d : Nat) (x : Int) (l0 l1 l2 l3 l4 l5 l6 : Option mx_V) (S h : mx_H) (n : Int), mx_ex d 96 82 [l0, l1, l2, l3, l4, l5, l6] [(0, x)] S h n = mx_ex d 96 84 [l0, l1, l2, l3, l4, mx_nl l5, some (0, x)] [] S h n) ∧
  (∀ (d : Nat) (x : Int) (l0 l1 l2 l3 l4 l5 : Option mx_V) (S h : mx_H) (n : Int), mx_ex d 96 84 [l0, l1, l2, l3, l4, l5, some (0, x)] [] S h n = mx_ex d 96 86 [l0, l1, l2, l3, l4, l5, some (0, x)] [(0, x)] S h n) ∧
  (∀ (d : Nat) (a : Int) (l0 l1 l2 l3 l4 l5 l6 : Option mx_V) (S h : mx_H) (n : Int), mx_ex d 96 86 [l0, l1, l2, l3, l4, l5, l6] [(0, a)] S h n = mx_br (a = 0) d 96 95 89 [l0, l1, l2, l3, l4, l5, l6] [] S h n) ∧
  (∀ (d : Nat) (x : Int) (l0 l1 l3 l4 l5 l6 : Option mx_V) (S h : mx_H) (n : Int), mx_ex d 96 89 [l0, l1, some (0, x), l3, l4, l5, l6] [] S h n = mx_ex d 96 90 [l0, l1, some (0, x), l3, l4, l5, l6] [(0, x)] S h n) ∧
  (∀ (d : Nat) (l0 l1 l2 l3 l4 l5 l6 : Option mx_V) (v0 : mx_V) (S h : mx_H) (n : Int), mx_ex d 96 90 [l0, l1, l2, l3, l4, l5, l6] [v0] S h n = mx_ex d 96 91 [l0, l1, l2, l3, l4, l5, l6] [(0, 1), v0] S h n) ∧
  (∀ (d : Nat) (x : Int) (l0 l1 l2 l4 l5 l6 : Option mx_V) (v0 v1 : mx_V) (S h : mx_H) (n : Int), mx_ex d 96 91 [l0, l1, l2, some (0, x), l4, l5, l6] [v0, v1] S h n = mx_ex d 96 92 [l0, l1, l2, some (0, x), l4, l5, l6] [(0, x), v0, v1] S h n) ∧
  (∀ (d : Nat) (b a : Int) (l0 l1 l2 l3 l4 l5 l6 : Option mx_V) (v2 : mx_V) (S h : mx_H) (n : Int), mx_ex d 96 92 [l0, l1, l2, l3, l4, l5, l6] [(0, b), (0, a), v2] S h n = mx_ex d 96 93 [l0, l1, l2, l3, l4, l5, l6] [(0, mx_shl a b), v2] S h n) ∧
  (∀ (d : Nat) (b a : Int) (l0 l1 l2 l3 l4 l5 l6 : Option mx_V) (S h : mx_H) (n : Int), mx_ex d 96 93 [l0, l1, l2, l3, l4, l5, l6] [(0, b), (0, a)] S h n = mx_ex d 96 94 [l0, l1, l2, l3, l4, l5, l6] [(0, mx_or a b)] S h n) ∧
  (∀ (d : Nat) (x : Int) (l0 l1 l2 l3 l4 l5 l6 : Option mx_V) (S h : mx_H) (n : Int), mx_ex d 96 94 [l0, l1, l2, l3, l4, l5, l6] [(0, x)] S h n = mx_ex d 96 95 [l0, mx_nl l1, some (0, x), l3, l4, l5, l6] [] S h n) ∧
  (∀ (d : Nat) (x : Int) (l0 l1 l2 l4 l5 l6 : Option mx_V) (S h : mx_H) (n : Int), mx_ex d 96 95 [l0, l1, l2, some (0, x), l4, l5, l6] [] S h n = mx_ex d 96 98 [l0, l1, mx_nl l2, some (0, mx_w (x + 1)), l4, l5, l6] [] S h n) ∧
  (∀ (d : Nat) (l0 l1 l2 l3 l4 l5 l6 : Option mx_V) (S h : mx_H) (n : Int), mx_ex d 96 98 [l0, l1, l2, l3, l4, l5, l6] [] S h n = mx_ex d 96 4 [l0, l1, l2, l3, l4, l5, l6] [] S h n) ∧
  (∀ (d : Nat) (x : Int) (l0 l1 l3 l4 l5 l6 : Option mx_V) (S h : mx_H) (n : Int), mx_ex d 96 101 [l0, l1, some (0, x), l3, l4, l5, l6] [] S h n = mx_ex d 96 102 [l0, l1, some (0, x), l3, l4, l5, l6] [(0, x)] S h n) ∧
  (∀ (d : Nat) (x : Int) (l0 l1 l2 l3 l4 l5 l6 : Option mx_V) (S h : mx_H) (n : Int), mx_ex d 96 102 [l0, l1, l2, l3, l4, l5, l6] [(0, x)] S h n = some (some (0, x), S, h, n)) :=
  ⟨by intros; exact rfl,
   by intros; exact eq_push rfl,
   by intros; exact eq_st rfl (by decide) (Nat.le_of_ble_eq_true rfl) rfl,
   by intros; exact eq_push rfl,
   by intros; exact eq_st rfl (by decide) (Nat.le_of_ble_eq_true rfl) rfl,
   by intros; exact eq_ld rfl rfl,
   by intros; exact eq_gi rfl,
   by intros; exact eq_ic3 rfl,
   by intros; exact eq_ld rfl rfl,
   by intros; exact eq_push rfl,
   by intros; exact eq_i2 (o := mx_mul) rfl,
   by intros; exact eq_st rfl (by decide) (Nat.le_of_ble_eq_true rfl) rfl,
   by intros; exact eq_ld rfl rfl,
   by intros; exact eq_gr rfl,
   by intros; exact eq_ld rfl rfl,
   by intros; exact eq_iald rfl,
   by intros; exact eq_st rfl (by decide) (Nat.le_of_ble_eq_true rfl) rfl,
   by intros; exact eq_ld rfl rfl,
   by intros; exact eq_gr rfl,
   by intros; exact eq_ld rfl rfl,
   by intros; exact eq_push rfl,
   by intros; exact eq_i2 (o := mx_add) rfl,
   by intros; exact eq_iald rfl,
   by intros; exact eq_ld rfl rfl,
   by intros; exact eq_ic0 rfl,
   by intros; exact eq_ld rfl rfl,
   by intros; exact eq_push rfl,
   by intros; exact eq_ic0 rfl,
   by intros; exact eq_ld rfl rfl,
   by intros; exact eq_gr rfl,
   by intros; exact eq_ld rfl rfl,
   by intros; exact eq_push rfl,
   by intros; exact eq_i2 (o := mx_add) rfl,
   by intros; exact eq_iald rfl,
   by intros; exact eq_ld rfl rfl,
   by intros; exact eq_ic0 rfl,
   by intros; exact eq_ld rfl rfl,
   by intros; exact eq_push rfl,
   by intros; exact eq_ic1 rfl,
   by intros; exact eq_ld rfl rfl,
   by intros; exact eq_gr rfl,
   by intros; exact eq_ld rfl rfl,
   by intros; exact eq_push rfl,
   by intros; exact eq_i2 (o := mx_add) rfl,
   by intros; exact eq_iald rfl,
   by intros; exact eq_ld rfl rfl,
   by intros; exact eq_ic1 rfl,
   by intros; exact eq_push rfl,
   by intros; exact eq_go rfl,
   by intros; exact eq_push rfl,
   by intros; exact eq_st rfl (by decide) (Nat.le_of_ble_eq_true rfl) rfl,
   by intros; exact eq_ld rfl rfl,
   by intros; exact eq_if0 rfl,
   by intros; exact eq_ld rfl rfl,
   by intros; exact eq_push rfl,
   by intros; exact eq_ld rfl rfl,
   by intros; exact eq_i2 (o := mx_shl) rfl,
   by intros; exact eq_i2 (o := mx_or) rfl,
   by intros; exact eq_st rfl (by decide) (Nat.le_of_ble_eq_true rfl) rfl,
   by intros; exact eq_inc rfl rfl rfl,
   by intros; exact eq_go rfl,
   by intros; exact eq_ld rfl rfl,
   by intros; exact eq_ret rfl⟩
theorem rw_X10_allLines :
  (∀ (d : Nat) (a0 : Int) (S h : mx_H) (n : Int), mx_M d 97 [(2, a0)] S h n = mx_ex d 97 0 [some (2, a0)] [] S h n) ∧
  (∀ (d : Nat) (l0 : Option mx_V) (S h : mx_H) (n : Int), mx_ex d 97 0 [l0] [] S h n = mx_ex d 97 1 [l0] [(0, 1)] S h n) ∧
  (∀ (d : Nat) (x : Int) (v0 : mx_V) (S h : mx_H) (n : Int), mx_ex d 97 1 [some (2, x)] [v0] S h n = mx_ex d 97 2 [some (2, x)] [(2, x), v0] S h n) ∧
  (∀ (d : Nat) (a : Int) (l0 : Option mx_V) (v1 : mx_V) (S h : mx_H) (n : Int), mx_ex d 97 2 [l0] [(2, a), v1] S h n = mx_gd (8 ≤ S a (-2) ∧ S a (-2) ≤ 8) d 97 5 [l0] [(0, h a 4), v1] S h n) ∧
  (∀ (d : Nat) (b a : Int) (l0 : Option mx_V) (S h : mx_H) (n : Int), mx_ex d 97 5 [l0] [(0, b), (0, a)] S h n = mx_ex d 97 6 [l0] [(0, mx_shl a b)] S h n) ∧
  (∀ (d : Nat) (l0 : Option mx_V) (v0 : mx_V) (S h : mx_H) (n : Int), mx_ex d 97 6 [l0] [v0] S h n = mx_ex d 97 7 [l0] [(0, 1), v0] S h n) ∧
  (∀ (d : Nat) (b a : Int) (l0 : Option mx_V) (S h : mx_H) (n : Int), mx_ex d 97 7 [l0] [(0, b), (0, a)] S h n = mx_ex d 97 8 [l0] [(0, mx_w (a - b))] S h n) ∧
  (∀ (d : Nat) (x : Int) (l0 : Option mx_V) (S h : mx_H) (n : Int), mx_ex d 97 8 [l0] [(0, x)] S h n = some (some (0, x), S, h, n)) :=
  ⟨by intros; exact rfl,
   by intros; exact eq_push rfl,
   by intros; exact eq_ld rfl rfl,
   by intros; exact eq_gi rfl,
   by intros; exact eq_i2 (o := mx_shl) rfl,
   by intros; exact eq_push rfl,
   by intros; exact eq_i2 (o := mx_sub) rfl,
   by intros; exact eq_ret rfl⟩
