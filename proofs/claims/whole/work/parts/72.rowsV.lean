/-! PRINTED (gen_rows.py): a row an instruction -/
theorem rw_X7_init :
  (∀ (d : Nat) (a0 : Int) (S h : mx_H) (n : Int), mx_M d 59 [(2, a0)] S h n = mx_ex d 59 0 [some (2, a0)] [] S h n) ∧
  (∀ (d : Nat) (x : Int) (S h : mx_H) (n : Int), mx_ex d 59 0 [some (2, x)] [] S h n = mx_ex d 59 1 [some (2, x)] [(2, x)] S h n) ∧
  (∀ (d : Nat) (a : Int) (l0 : Option mx_V) (S h : mx_H) (n : Int), mx_ex d 59 1 [l0] [(2, a)] S h n = mx_gd (0 ≤ a) d 59 4 [l0] [] S h n) ∧
  (∀ (d : Nat) (x : Int) (S h : mx_H) (n : Int), mx_ex d 59 4 [some (2, x)] [] S h n = mx_ex d 59 5 [some (2, x)] [(2, x)] S h n) ∧
  (∀ (d : Nat) (l0 : Option mx_V) (v0 : mx_V) (S h : mx_H) (n : Int), mx_ex d 59 5 [l0] [v0] S h n = mx_ex d 59 8 [l0] [(2, n), v0] (mx_t S n 8 0) (mx_z h n) (n + 1)) ∧
  (∀ (d : Nat) (a : Int) (l0 : Option mx_V) (v1 : mx_V) (S h : mx_H) (n : Int), mx_ex d 59 8 [l0] [(2, a), v1] S h n = mx_ex d 59 9 [l0] [(2, a), (2, a), v1] S h n) ∧
  (∀ (d : Nat) (a : Int) (l0 : Option mx_V) (v1 v2 : mx_V) (S h : mx_H) (n : Int), mx_ex (d + 1) 59 9 [l0] [(2, a), v1, v2] S h n = mx_cl (8 ≤ S a (-2) ∧ S a (-2) ≤ 8) d 85 [(2, a)] 59 12 [l0] [v1, v2] S h n) ∧
  (∀ (d : Nat) (v a : Int) (l0 : Option mx_V) (S h : mx_H) (n : Int), mx_ex d 59 12 [l0] [(2, v), (2, a)] S h n = mx_gd (10 ≤ S a (-2) ∧ S a (-2) ≤ 10) d 59 15 [l0] [] (mx_u S a 0 v) h n) ∧
  (∀ (d : Nat) (x : Int) (S h : mx_H) (n : Int), mx_ex d 59 15 [some (2, x)] [] S h n = mx_ex d 59 16 [some (2, x)] [(2, x)] S h n) ∧
  (∀ (d : Nat) (l0 : Option mx_V) (v0 : mx_V) (S h : mx_H) (n : Int), mx_ex d 59 16 [l0] [v0] S h n = mx_ex d 59 17 [l0] [(0, 0), v0] S h n) ∧
  (∀ (d : Nat) (v a : Int) (l0 : Option mx_V) (S h : mx_H) (n : Int), mx_ex d 59 17 [l0] [(0, v), (2, a)] S h n = mx_gd (10 ≤ S a (-2) ∧ S a (-2) ≤ 10) d 59 20 [l0] [] S (mx_u h a 1 v) n) ∧
  (∀ (d : Nat) (x : Int) (S h : mx_H) (n : Int), mx_ex d 59 20 [some (2, x)] [] S h n = mx_ex d 59 21 [some (2, x)] [(2, x)] S h n) ∧
  (∀ (d : Nat) (l0 : Option mx_V) (v0 : mx_V) (S h : mx_H) (n : Int), mx_ex d 59 21 [l0] [v0] S h n = mx_ex d 59 23 [l0] [(0, 6), v0] S h n) ∧
  (∀ (d : Nat) (x : Int) (l0 : Option mx_V) (v1 : mx_V) (S h : mx_H) (n : Int), mx_ex d 59 23 [l0] [(0, x), v1] S h n = mx_gd (0 ≤ x ∧ x ≤ 300) d 59 25 [l0] [(2, n), v1] (mx_t S n 20 x) (mx_z h n) (n + 1)) ∧
  (∀ (d : Nat) (v a : Int) (l0 : Option mx_V) (S h : mx_H) (n : Int), mx_ex d 59 25 [l0] [(2, v), (2, a)] S h n = mx_gd (10 ≤ S a (-2) ∧ S a (-2) ≤ 10) d 59 28 [l0] [] (mx_u S a 2 v) h n) ∧
  (∀ (d : Nat) (x : Int) (S h : mx_H) (n : Int), mx_ex d 59 28 [some (2, x)] [] S h n = mx_ex d 59 29 [some (2, x)] [(2, x)] S h n) ∧
  (∀ (d : Nat) (l0 : Option mx_V) (v0 : mx_V) (S h : mx_H) (n : Int), mx_ex d 59 29 [l0] [v0] S h n = mx_ex d 59 30 [l0] [(0, 0), v0] S h n) ∧
  (∀ (d : Nat) (x : Int) (l0 : Option mx_V) (v1 : mx_V) (S h : mx_H) (n : Int), mx_ex d 59 30 [l0] [(0, x), v1] S h n = mx_gd (0 ≤ x ∧ x ≤ 300) d 59 32 [l0] [(2, n), v1] (mx_t S n 20 x) (mx_z h n) (n + 1)) ∧
  (∀ (d : Nat) (v a : Int) (l0 : Option mx_V) (S h : mx_H) (n : Int), mx_ex d 59 32 [l0] [(2, v), (2, a)] S h n = mx_gd (10 ≤ S a (-2) ∧ S a (-2) ≤ 10) d 59 35 [l0] [] (mx_u S a 3 v) h n) ∧
  (∀ (d : Nat) (x : Int) (S h : mx_H) (n : Int), mx_ex d 59 35 [some (2, x)] [] S h n = mx_ex d 59 36 [some (2, x)] [(2, x)] S h n) ∧
  (∀ (d : Nat) (l0 : Option mx_V) (v0 : mx_V) (S h : mx_H) (n : Int), mx_ex d 59 36 [l0] [v0] S h n = mx_ex d 59 37 [l0] [(0, 0), v0] S h n) ∧
  (∀ (d : Nat) (v a : Int) (l0 : Option mx_V) (S h : mx_H) (n : Int), mx_ex d 59 37 [l0] [(0, v), (2, a)] S h n = mx_gd (10 ≤ S a (-2) ∧ S a (-2) ≤ 10) d 59 40 [l0] [] S (mx_u h a 4 v) n) ∧
  (∀ (d : Nat) (x : Int) (S h : mx_H) (n : Int), mx_ex d 59 40 [some (2, x)] [] S h n = mx_ex d 59 41 [some (2, x)] [(2, x)] S h n) ∧
  (∀ (d : Nat) (l0 : Option mx_V) (v0 : mx_V) (S h : mx_H) (n : Int), mx_ex d 59 41 [l0] [v0] S h n = mx_ex d 59 42 [l0] [(0, 0), v0] S h n) ∧
  (∀ (d : Nat) (v a : Int) (l0 : Option mx_V) (S h : mx_H) (n : Int), mx_ex d 59 42 [l0] [(0, v), (2, a)] S h n = mx_gd (10 ≤ S a (-2) ∧ S a (-2) ≤ 10) d 59 45 [l0] [] S (mx_u h a 5 v) n) ∧
  (∀ (d : Nat) (x : Int) (S h : mx_H) (n : Int), mx_ex d 59 45 [some (2, x)] [] S h n = mx_ex d 59 46 [some (2, x)] [(2, x)] S h n) ∧
  (∀ (d : Nat) (l0 : Option mx_V) (v0 : mx_V) (S h : mx_H) (n : Int), mx_ex d 59 46 [l0] [v0] S h n = mx_ex d 59 47 [l0] [(0, 0), v0] S h n) ∧
  (∀ (d : Nat) (v a : Int) (l0 : Option mx_V) (S h : mx_H) (n : Int), mx_ex d 59 47 [l0] [(0, v), (2, a)] S h n = mx_gd (10 ≤ S a (-2) ∧ S a (-2) ≤ 10) d 59 50 [l0] [] S (mx_u h a 6 v) n) ∧
  (∀ (d : Nat) (x : Int) (S h : mx_H) (n : Int), mx_ex d 59 50 [some (2, x)] [] S h n = mx_ex d 59 51 [some (2, x)] [(2, x)] S h n) ∧
  (∀ (d : Nat) (l0 : Option mx_V) (v0 : mx_V) (S h : mx_H) (n : Int), mx_ex d 59 51 [l0] [v0] S h n = mx_ex d 59 52 [l0] [(0, 0), v0] S h n) ∧
  (∀ (d : Nat) (v a : Int) (l0 : Option mx_V) (S h : mx_H) (n : Int), mx_ex d 59 52 [l0] [(0, v), (2, a)] S h n = mx_gd (10 ≤ S a (-2) ∧ S a (-2) ≤ 10) d 59 55 [l0] [] S (mx_u h a 7 v) n) ∧
  (∀ (d : Nat) (l0 : Option mx_V) (S h : mx_H) (n : Int), mx_ex d 59 55 [l0] [] S h n = some (none, S, h, n)) :=
  ⟨by intros; exact rfl,
   by intros; exact eq_ld rfl rfl,
   by intros; exact eq_oini rfl (Nat.le_of_ble_eq_true rfl),
   by intros; exact eq_ld rfl rfl,
   by intros; exact eq_new rfl,
   by intros; exact eq_dup rfl (by decide),
   by intros; exact eq_ci rfl (Nat.le_of_ble_eq_true rfl) rfl rfl rfl (Nat.le_of_ble_eq_true rfl),
   by intros; exact eq_pr rfl,
   by intros; exact eq_ld rfl rfl,
   by intros; exact eq_push rfl,
   by intros; exact eq_pi rfl,
   by intros; exact eq_ld rfl rfl,
   by intros; exact eq_push rfl,
   by intros; exact eq_newa rfl,
   by intros; exact eq_pr rfl,
   by intros; exact eq_ld rfl rfl,
   by intros; exact eq_push rfl,
   by intros; exact eq_newa rfl,
   by intros; exact eq_pr rfl,
   by intros; exact eq_ld rfl rfl,
   by intros; exact eq_push rfl,
   by intros; exact eq_pi rfl,
   by intros; exact eq_ld rfl rfl,
   by intros; exact eq_push rfl,
   by intros; exact eq_pi rfl,
   by intros; exact eq_ld rfl rfl,
   by intros; exact eq_push rfl,
   by intros; exact eq_pi rfl,
   by intros; exact eq_ld rfl rfl,
   by intros; exact eq_push rfl,
   by intros; exact eq_pi rfl,
   by intros; exact eq_retv rfl⟩
theorem rh_X7_told_33 : ∀ (d : Nat) (x : Int) (l0 l1 l2 : Option mx_V) (S h : mx_H) (n : Int), mx_ex d 60 33 [l0, l1, l2, some (0, x)] [] S h n = mx_ex d 60 34 [l0, l1, l2, some (0, x)] [(0, x)] S h n := by intros; exact eq_ld rfl rfl
theorem rw_X7_told :
  (∀ (d : Nat) (a0 a1 a2 : Int) (S h : mx_H) (n : Int), mx_M d 60 [(2, a0), (2, a1), (0, a2)] S h n = mx_ex d 60 0 [some (2, a0), some (2, a1), some (0, a2), none] [] S h n) ∧
  (∀ (d : Nat) (x : Int) (l1 l2 l3 : Option mx_V) (S h : mx_H) (n : Int), mx_ex d 60 0 [some (2, x), l1, l2, l3] [] S h n = mx_ex d 60 1 [some (2, x), l1, l2, l3] [(2, x)] S h n) ∧
  (∀ (d : Nat) (x : Int) (l0 l2 l3 : Option mx_V) (v0 : mx_V) (S h : mx_H) (n : Int), mx_ex d 60 1 [l0, some (2, x), l2, l3] [v0] S h n = mx_ex d 60 2 [l0, some (2, x), l2, l3] [(2, x), v0] S h n) ∧
  (∀ (d : Nat) (v a : Int) (l0 l1 l2 l3 : Option mx_V) (S h : mx_H) (n : Int), mx_ex d 60 2 [l0, l1, l2, l3] [(2, v), (2, a)] S h n = mx_gd (10 ≤ S a (-2) ∧ S a (-2) ≤ 10) d 60 5 [l0, l1, l2, l3] [] (mx_u S a 3 v) h n) ∧
  (∀ (d : Nat) (x : Int) (l1 l2 l3 : Option mx_V) (S h : mx_H) (n : Int), mx_ex d 60 5 [some (2, x), l1, l2, l3] [] S h n = mx_ex d 60 6 [some (2, x), l1, l2, l3] [(2, x)] S h n) ∧
  (∀ (d : Nat) (x : Int) (l0 l1 l3 : Option mx_V) (v0 : mx_V) (S h : mx_H) (n : Int), mx_ex d 60 6 [l0, l1, some (0, x), l3] [v0] S h n = mx_ex d 60 7 [l0, l1, some (0, x), l3] [(0, x), v0] S h n) ∧
  (∀ (d : Nat) (x : Int) (l0 l2 l3 : Option mx_V) (v0 v1 : mx_V) (S h : mx_H) (n : Int), mx_ex d 60 7 [l0, some (2, x), l2, l3] [v0, v1] S h n = mx_ex d 60 8 [l0, some (2, x), l2, l3] [(2, x), v0, v1] S h n) ∧
  (∀ (d : Nat) (a : Int) (l0 l1 l2 l3 : Option mx_V) (v1 v2 : mx_V) (S h : mx_H) (n : Int), mx_ex d 60 8 [l0, l1, l2, l3] [(2, a), v1, v2] S h n = mx_gd (20 ≤ S a (-2) ∧ S a (-2) ≤ 25) d 60 9 [l0, l1, l2, l3] [(0, S a (-1)), v1, v2] S h n) ∧
  (∀ (d : Nat) (b a : Int) (l0 l1 l2 l3 : Option mx_V) (v2 : mx_V) (S h : mx_H) (n : Int), mx_ex d 60 9 [l0, l1, l2, l3] [(0, b), (0, a), v2] S h n = mx_ex d 60 12 [l0, l1, l2, l3] [(0, if b < a then b else a), v2] S h n) ∧
  (∀ (d : Nat) (v a : Int) (l0 l1 l2 l3 : Option mx_V) (S h : mx_H) (n : Int), mx_ex d 60 12 [l0, l1, l2, l3] [(0, v), (2, a)] S h n = mx_gd (10 ≤ S a (-2) ∧ S a (-2) ≤ 10) d 60 15 [l0, l1, l2, l3] [] S (mx_u h a 4 v) n) ∧
  (∀ (d : Nat) (x : Int) (l1 l2 l3 : Option mx_V) (S h : mx_H) (n : Int), mx_ex d 60 15 [some (2, x), l1, l2, l3] [] S h n = mx_ex d 60 16 [some (2, x), l1, l2, l3] [(2, x)] S h n) ∧
  (∀ (d : Nat) (l0 l1 l2 l3 : Option mx_V) (v0 : mx_V) (S h : mx_H) (n : Int), mx_ex d 60 16 [l0, l1, l2, l3] [v0] S h n = mx_ex d 60 17 [l0, l1, l2, l3] [(0, 0), v0] S h n) ∧
  (∀ (d : Nat) (v a : Int) (l0 l1 l2 l3 : Option mx_V) (S h : mx_H) (n : Int), mx_ex d 60 17 [l0, l1, l2, l3] [(0, v), (2, a)] S h n = mx_gd (10 ≤ S a (-2) ∧ S a (-2) ≤ 10) d 60 20 [l0, l1, l2, l3] [] S (mx_u h a 5 v) n) ∧
  (∀ (d : Nat) (x : Int) (l1 l2 l3 : Option mx_V) (S h : mx_H) (n : Int), mx_ex d 60 20 [some (2, x), l1, l2, l3] [] S h n = mx_ex d 60 21 [some (2, x), l1, l2, l3] [(2, x)] S h n) ∧
  (∀ (d : Nat) (a : Int) (l0 l1 l2 l3 : Option mx_V) (S h : mx_H) (n : Int), mx_ex d 60 21 [l0, l1, l2, l3] [(2, a)] S h n = mx_gd (10 ≤ S a (-2) ∧ S a (-2) ≤ 10) d 60 24 [l0, l1, l2, l3] [(2, S a 0)] S h n) ∧
  (∀ (d : Nat) (a : Int) (l0 l1 l2 l3 : Option mx_V) (S h : mx_H) (n : Int), mx_ex (d + 1) 60 24 [l0, l1, l2, l3] [(2, a)] S h n = mx_cl (S a (-2) = 8) d 86 [(2, a)] 60 27 [l0, l1, l2, l3] [] S h n) ∧
  (∀ (d : Nat) (x : Int) (l1 l2 l3 : Option mx_V) (S h : mx_H) (n : Int), mx_ex d 60 27 [some (2, x), l1, l2, l3] [] S h n = mx_ex d 60 28 [some (2, x), l1, l2, l3] [(2, x)] S h n) ∧
  (∀ (d : Nat) (a : Int) (l0 l1 l2 l3 : Option mx_V) (S h : mx_H) (n : Int), mx_ex (d + 1) 60 28 [l0, l1, l2, l3] [(2, a)] S h n = mx_cl (S a (-2) = 10) d 71 [(2, a)] 60 31 [l0, l1, l2, l3] [] S h n) ∧
  (∀ (d : Nat) (l0 l1 l2 l3 : Option mx_V) (S h : mx_H) (n : Int), mx_ex d 60 31 [l0, l1, l2, l3] [] S h n = mx_ex d 60 32 [l0, l1, l2, l3] [(0, 0)] S h n) ∧
  (∀ (d : Nat) (x : Int) (l0 l1 l2 l3 : Option mx_V) (S h : mx_H) (n : Int), mx_ex d 60 32 [l0, l1, l2, l3] [(0, x)] S h n = mx_ex d 60 33 [l0, l1, mx_nl l2, some (0, x)] [] S h n) ∧
  (∀ (d : Nat) (x : Int) (l1 l2 l3 : Option mx_V) (v0 : mx_V) (S h : mx_H) (n : Int), mx_ex d 60 34 [some (2, x), l1, l2, l3] [v0] S h n = mx_ex d 60 35 [some (2, x), l1, l2, l3] [(2, x), v0] S h n) ∧
  (∀ (d : Nat) (a : Int) (l0 l1 l2 l3 : Option mx_V) (v1 : mx_V) (S h : mx_H) (n : Int), mx_ex d 60 35 [l0, l1, l2, l3] [(2, a), v1] S h n = mx_gd (10 ≤ S a (-2) ∧ S a (-2) ≤ 10) d 60 38 [l0, l1, l2, l3] [(0, h a 4), v1] S h n) ∧
  (∀ (d : Nat) (b a : Int) (l0 l1 l2 l3 : Option mx_V) (S h : mx_H) (n : Int), mx_ex d 60 38 [l0, l1, l2, l3] [(0, b), (0, a)] S h n = mx_br (b < a) d 60 63 41 [l0, l1, l2, l3] [] S h n) ∧
  (∀ (d : Nat) (x : Int) (l1 l2 l3 : Option mx_V) (S h : mx_H) (n : Int), mx_ex d 60 41 [some (2, x), l1, l2, l3] [] S h n = mx_ex d 60 42 [some (2, x), l1, l2, l3] [(2, x)] S h n) ∧
  (∀ (d : Nat) (a : Int) (l0 l1 l2 l3 : Option mx_V) (S h : mx_H) (n : Int), mx_ex d 60 42 [l0, l1, l2, l3] [(2, a)] S h n = mx_gd (10 ≤ S a (-2) ∧ S a (-2) ≤ 10) d 60 45 [l0, l1, l2, l3] [(0, h a 6)] S h n) ∧
  (∀ (d : Nat) (a : Int) (l0 l1 l2 l3 : Option mx_V) (S h : mx_H) (n : Int), mx_ex d 60 45 [l0, l1, l2, l3] [(0, a)] S h n = mx_br (a = 0) d 60 63 48 [l0, l1, l2, l3] [] S h n) ∧
  (∀ (d : Nat) (x : Int) (l1 l2 l3 : Option mx_V) (S h : mx_H) (n : Int), mx_ex d 60 48 [some (2, x), l1, l2, l3] [] S h n = mx_ex d 60 49 [some (2, x), l1, l2, l3] [(2, x)] S h n) ∧
  (∀ (d : Nat) (a : Int) (l0 l1 l2 l3 : Option mx_V) (S h : mx_H) (n : Int), mx_ex (d + 1) 60 49 [l0, l1, l2, l3] [(2, a)] S h n = mx_cl (S a (-2) = 10) d 61 [(2, a)] 60 52 [l0, l1, l2, l3] [] S h n) ∧
  (∀ (d : Nat) (a : Int) (l0 l1 l2 l3 : Option mx_V) (S h : mx_H) (n : Int), mx_ex d 60 52 [l0, l1, l2, l3] [(0, a)] S h n = mx_br (a = 0) d 60 55 57 [l0, l1, l2, l3] [] S h n) ∧
  (∀ (d : Nat) (l0 l1 l2 l3 : Option mx_V) (S h : mx_H) (n : Int), mx_ex d 60 55 [l0, l1, l2, l3] [] S h n = mx_ex d 60 56 [l0, l1, l2, l3] [(0, 0)] S h n) ∧
  (∀ (d : Nat) (x : Int) (l0 l1 l2 l3 : Option mx_V) (S h : mx_H) (n : Int), mx_ex d 60 56 [l0, l1, l2, l3] [(0, x)] S h n = mx_re (0 ≤ x ∧ x ≤ 1) (some (0, x)) S h n) ∧
  (∀ (d : Nat) (x : Int) (l0 l1 l2 : Option mx_V) (S h : mx_H) (n : Int), mx_ex d 60 57 [l0, l1, l2, some (0, x)] [] S h n = mx_ex d 60 60 [l0, l1, mx_nl l2, some (0, mx_w (x + 1))] [] S h n) ∧
  (∀ (d : Nat) (l0 l1 l2 l3 : Option mx_V) (S h : mx_H) (n : Int), mx_ex d 60 60 [l0, l1, l2, l3] [] S h n = mx_ex d 60 33 [l0, l1, l2, l3] [] S h n) ∧
  (∀ (d : Nat) (x : Int) (l1 l2 l3 : Option mx_V) (S h : mx_H) (n : Int), mx_ex d 60 63 [some (2, x), l1, l2, l3] [] S h n = mx_ex d 60 64 [some (2, x), l1, l2, l3] [(2, x)] S h n) ∧
  (∀ (d : Nat) (a : Int) (l0 l1 l2 l3 : Option mx_V) (S h : mx_H) (n : Int), mx_ex d 60 64 [l0, l1, l2, l3] [(2, a)] S h n = mx_gd (10 ≤ S a (-2) ∧ S a (-2) ≤ 10) d 60 67 [l0, l1, l2, l3] [(0, h a 6)] S h n) ∧
  (∀ (d : Nat) (a : Int) (l0 l1 l2 l3 : Option mx_V) (S h : mx_H) (n : Int), mx_ex d 60 67 [l0, l1, l2, l3] [(0, a)] S h n = mx_br (a = 0) d 60 70 74 [l0, l1, l2, l3] [] S h n) ∧
  (∀ (d : Nat) (l0 l1 l2 l3 : Option mx_V) (S h : mx_H) (n : Int), mx_ex d 60 70 [l0, l1, l2, l3] [] S h n = mx_ex d 60 71 [l0, l1, l2, l3] [(0, 1)] S h n) ∧
  (∀ (d : Nat) (l0 l1 l2 l3 : Option mx_V) (v0 : mx_V) (S h : mx_H) (n : Int), mx_ex d 60 71 [l0, l1, l2, l3] [v0] S h n = mx_ex d 60 75 [l0, l1, l2, l3] [v0] S h n) ∧
  (∀ (d : Nat) (l0 l1 l2 l3 : Option mx_V) (S h : mx_H) (n : Int), mx_ex d 60 74 [l0, l1, l2, l3] [] S h n = mx_ex d 60 75 [l0, l1, l2, l3] [(0, 0)] S h n) ∧
  (∀ (d : Nat) (x : Int) (l0 l1 l2 l3 : Option mx_V) (S h : mx_H) (n : Int), mx_ex d 60 75 [l0, l1, l2, l3] [(0, x)] S h n = mx_re (0 ≤ x ∧ x ≤ 1) (some (0, x)) S h n) :=
  ⟨by intros; exact rfl,
   by intros; exact eq_ld rfl rfl,
   by intros; exact eq_ld rfl rfl,
   by intros; exact eq_pr rfl,
   by intros; exact eq_ld rfl rfl,
   by intros; exact eq_ld rfl rfl,
   by intros; exact eq_ld rfl rfl,
   by intros; exact eq_alen rfl,
   by intros; exact eq_m2 (o := mx_min) rfl (Nat.le_of_ble_eq_true rfl),
   by intros; exact eq_pi rfl,
   by intros; exact eq_ld rfl rfl,
   by intros; exact eq_push rfl,
   by intros; exact eq_pi rfl,
   by intros; exact eq_ld rfl rfl,
   by intros; exact eq_gr rfl,
   by intros; exact eq_cv rfl (Nat.le_of_ble_eq_true rfl) rfl rfl rfl (Nat.le_of_ble_eq_true rfl),
   by intros; exact eq_ld rfl rfl,
   by intros; exact eq_cv rfl (Nat.le_of_ble_eq_true rfl) rfl rfl rfl (Nat.le_of_ble_eq_true rfl),
   by intros; exact eq_push rfl,
   by intros; exact eq_st rfl (by decide) (Nat.le_of_ble_eq_true rfl) rfl,
   by intros; exact eq_ld rfl rfl,
   by intros; exact eq_gi rfl,
   by intros; exact eq_ic4 rfl,
   by intros; exact eq_ld rfl rfl,
   by intros; exact eq_gi rfl,
   by intros; exact eq_if0 rfl,
   by intros; exact eq_ld rfl rfl,
   by intros; exact eq_cv rfl (Nat.le_of_ble_eq_true rfl) rfl rfl rfl (Nat.le_of_ble_eq_true rfl),
   by intros; exact eq_if1 rfl,
   by intros; exact eq_push rfl,
   by intros; exact eq_rr rfl,
   by intros; exact eq_inc rfl rfl rfl,
   by intros; exact eq_go rfl,
   by intros; exact eq_ld rfl rfl,
   by intros; exact eq_gi rfl,
   by intros; exact eq_if1 rfl,
   by intros; exact eq_push rfl,
   by intros; exact eq_go rfl,
   by intros; exact eq_push rfl,
   by intros; exact eq_rr rfl⟩
theorem rw_X7_statement :
  (∀ (d : Nat) (a0 : Int) (S h : mx_H) (n : Int), mx_M d 61 [(2, a0)] S h n = mx_ex d 61 0 [some (2, a0), none, none] [] S h n) ∧
  (∀ (d : Nat) (x : Int) (l1 l2 : Option mx_V) (S h : mx_H) (n : Int), mx_ex d 61 0 [some (2, x), l1, l2] [] S h n = mx_ex d 61 1 [some (2, x), l1, l2] [(2, x)] S h n) ∧
  (∀ (d : Nat) (a : Int) (l0 l1 l2 : Option mx_V) (S h : mx_H) (n : Int), mx_ex (d + 1) 61 1 [l0, l1, l2] [(2, a)] S h n = mx_cl (S a (-2) = 10) d 62 [(2, a)] 61 4 [l0, l1, l2] [] S h n) ∧
  (∀ (d : Nat) (x : Int) (l0 l1 l2 : Option mx_V) (S h : mx_H) (n : Int), mx_ex d 61 4 [l0, l1, l2] [(0, x)] S h n = mx_ex d 61 5 [mx_nl l0, some (0, x), l2] [] S h n) ∧
  (∀ (d : Nat) (x : Int) (l0 l2 : Option mx_V) (S h : mx_H) (n : Int), mx_ex d 61 5 [l0, some (0, x), l2] [] S h n = mx_ex d 61 6 [l0, some (0, x), l2] [(0, x)] S h n) ∧
  (∀ (d : Nat) (a : Int) (l0 l1 l2 : Option mx_V) (S h : mx_H) (n : Int), mx_ex d 61 6 [l0, l1, l2] [(0, a)] S h n = mx_br (a < 0) d 61 15 9 [l0, l1, l2] [] S h n) ∧
  (∀ (d : Nat) (x : Int) (l1 l2 : Option mx_V) (S h : mx_H) (n : Int), mx_ex d 61 9 [some (2, x), l1, l2] [] S h n = mx_ex d 61 10 [some (2, x), l1, l2] [(2, x)] S h n) ∧
  (∀ (d : Nat) (x : Int) (l0 l2 : Option mx_V) (v0 : mx_V) (S h : mx_H) (n : Int), mx_ex d 61 10 [l0, some (0, x), l2] [v0] S h n = mx_ex d 61 11 [l0, some (0, x), l2] [(0, x), v0] S h n) ∧
  (∀ (d : Nat) (x0 a : Int) (l0 l1 l2 : Option mx_V) (S h : mx_H) (n : Int), mx_ex (d + 1) 61 11 [l0, l1, l2] [(0, x0), (2, a)] S h n = mx_cl (S a (-2) = 10) d 64 [(2, a), (0, x0)] 61 14 [l0, l1, l2] [] S h n) ∧
  (∀ (d : Nat) (x : Int) (l0 l1 l2 : Option mx_V) (S h : mx_H) (n : Int), mx_ex d 61 14 [l0, l1, l2] [(0, x)] S h n = mx_re (0 ≤ x ∧ x ≤ 1) (some (0, x)) S h n) ∧
  (∀ (d : Nat) (x : Int) (l1 l2 : Option mx_V) (S h : mx_H) (n : Int), mx_ex d 61 15 [some (2, x), l1, l2] [] S h n = mx_ex d 61 16 [some (2, x), l1, l2] [(2, x)] S h n) ∧
  (∀ (d : Nat) (l0 l1 l2 : Option mx_V) (v0 : mx_V) (S h : mx_H) (n : Int), mx_ex d 61 16 [l0, l1, l2] [v0] S h n = mx_ex d 61 18 [l0, l1, l2] [(2, (-10)), v0] S h n) ∧
  (∀ (d : Nat) (x0 a : Int) (l0 l1 l2 : Option mx_V) (S h : mx_H) (n : Int), mx_ex (d + 1) 61 18 [l0, l1, l2] [(2, x0), (2, a)] S h n = mx_cl (S a (-2) = 10) d 70 [(2, a), (2, x0)] 61 21 [l0, l1, l2] [] S h n) ∧
  (∀ (d : Nat) (a : Int) (l0 l1 l2 : Option mx_V) (S h : mx_H) (n : Int), mx_ex d 61 21 [l0, l1, l2] [(0, a)] S h n = mx_br (a = 0) d 61 29 24 [l0, l1, l2] [] S h n) ∧
  (∀ (d : Nat) (x : Int) (l1 l2 : Option mx_V) (S h : mx_H) (n : Int), mx_ex d 61 24 [some (2, x), l1, l2] [] S h n = mx_ex d 61 25 [some (2, x), l1, l2] [(2, x)] S h n) ∧
  (∀ (d : Nat) (a : Int) (l0 l1 l2 : Option mx_V) (S h : mx_H) (n : Int), mx_ex (d + 1) 61 25 [l0, l1, l2] [(2, a)] S h n = mx_cl (S a (-2) = 10) d 66 [(2, a)] 61 28 [l0, l1, l2] [] S h n) ∧
  (∀ (d : Nat) (x : Int) (l0 l1 l2 : Option mx_V) (S h : mx_H) (n : Int), mx_ex d 61 28 [l0, l1, l2] [(0, x)] S h n = mx_re (0 ≤ x ∧ x ≤ 1) (some (0, x)) S h n) ∧
  (∀ (d : Nat) (x : Int) (l1 l2 : Option mx_V) (S h : mx_H) (n : Int), mx_ex d 61 29 [some (2, x), l1, l2] [] S h n = mx_ex d 61 30 [some (2, x), l1, l2] [(2, x)] S h n) ∧
  (∀ (d : Nat) (a : Int) (l0 l1 l2 : Option mx_V) (S h : mx_H) (n : Int), mx_ex (d + 1) 61 30 [l0, l1, l2] [(2, a)] S h n = mx_cl (S a (-2) = 10) d 63 [(2, a)] 61 33 [l0, l1, l2] [] S h n) ∧
  (∀ (d : Nat) (x : Int) (l0 l1 l2 : Option mx_V) (S h : mx_H) (n : Int), mx_ex d 61 33 [l0, l1, l2] [(0, x)] S h n = mx_ex d 61 34 [l0, mx_nl l1, some (0, x)] [] S h n) ∧
  (∀ (d : Nat) (x : Int) (l0 l1 : Option mx_V) (S h : mx_H) (n : Int), mx_ex d 61 34 [l0, l1, some (0, x)] [] S h n = mx_ex d 61 35 [l0, l1, some (0, x)] [(0, x)] S h n) ∧
  (∀ (d : Nat) (a : Int) (l0 l1 l2 : Option mx_V) (S h : mx_H) (n : Int), mx_ex d 61 35 [l0, l1, l2] [(0, a)] S h n = mx_br (a < 0) d 61 50 38 [l0, l1, l2] [] S h n) ∧
  (∀ (d : Nat) (x : Int) (l1 l2 : Option mx_V) (S h : mx_H) (n : Int), mx_ex d 61 38 [some (2, x), l1, l2] [] S h n = mx_ex d 61 39 [some (2, x), l1, l2] [(2, x)] S h n) ∧
  (∀ (d : Nat) (x : Int) (l0 l1 : Option mx_V) (v0 : mx_V) (S h : mx_H) (n : Int), mx_ex d 61 39 [l0, l1, some (0, x)] [v0] S h n = mx_ex d 61 40 [l0, l1, some (0, x)] [(0, x), v0] S h n) ∧
  (∀ (d : Nat) (x0 a : Int) (l0 l1 l2 : Option mx_V) (S h : mx_H) (n : Int), mx_ex (d + 1) 61 40 [l0, l1, l2] [(0, x0), (2, a)] S h n = mx_cl (S a (-2) = 10) d 67 [(2, a), (0, x0)] 61 43 [l0, l1, l2] [] S h n) ∧
  (∀ (d : Nat) (a : Int) (l0 l1 l2 : Option mx_V) (S h : mx_H) (n : Int), mx_ex d 61 43 [l0, l1, l2] [(0, a)] S h n = mx_br (a = 0) d 61 50 46 [l0, l1, l2] [] S h n) ∧
  (∀ (d : Nat) (l0 l1 l2 : Option mx_V) (S h : mx_H) (n : Int), mx_ex d 61 46 [l0, l1, l2] [] S h n = mx_ex d 61 47 [l0, l1, l2] [(0, 1)] S h n) ∧
  (∀ (d : Nat) (l0 l1 l2 : Option mx_V) (v0 : mx_V) (S h : mx_H) (n : Int), mx_ex d 61 47 [l0, l1, l2] [v0] S h n = mx_ex d 61 51 [l0, l1, l2] [v0] S h n) ∧
  (∀ (d : Nat) (l0 l1 l2 : Option mx_V) (S h : mx_H) (n : Int), mx_ex d 61 50 [l0, l1, l2] [] S h n = mx_ex d 61 51 [l0, l1, l2] [(0, 0)] S h n) ∧
  (∀ (d : Nat) (x : Int) (l0 l1 l2 : Option mx_V) (S h : mx_H) (n : Int), mx_ex d 61 51 [l0, l1, l2] [(0, x)] S h n = mx_re (0 ≤ x ∧ x ≤ 1) (some (0, x)) S h n) :=
  ⟨by intros; exact rfl,
   by intros; exact eq_ld rfl rfl,
   by intros; exact eq_cv rfl (Nat.le_of_ble_eq_true rfl) rfl rfl rfl (Nat.le_of_ble_eq_true rfl),
   by intros; exact eq_st rfl (by decide) (Nat.le_of_ble_eq_true rfl) rfl,
   by intros; exact eq_ld rfl rfl,
   by intros; exact eq_if2 rfl,
   by intros; exact eq_ld rfl rfl,
   by intros; exact eq_ld rfl rfl,
   by intros; exact eq_cv rfl (Nat.le_of_ble_eq_true rfl) rfl rfl rfl (Nat.le_of_ble_eq_true rfl),
   by intros; exact eq_rr rfl,
   by intros; exact eq_ld rfl rfl,
   by intros; exact eq_push rfl,
   by intros; exact eq_cv rfl (Nat.le_of_ble_eq_true rfl) rfl rfl rfl (Nat.le_of_ble_eq_true rfl),
   by intros; exact eq_if0 rfl,
   by intros; exact eq_ld rfl rfl,
   by intros; exact eq_cv rfl (Nat.le_of_ble_eq_true rfl) rfl rfl rfl (Nat.le_of_ble_eq_true rfl),
   by intros; exact eq_rr rfl,
   by intros; exact eq_ld rfl rfl,
   by intros; exact eq_cv rfl (Nat.le_of_ble_eq_true rfl) rfl rfl rfl (Nat.le_of_ble_eq_true rfl),
   by intros; exact eq_st rfl (by decide) (Nat.le_of_ble_eq_true rfl) rfl,
   by intros; exact eq_ld rfl rfl,
   by intros; exact eq_if2 rfl,
   by intros; exact eq_ld rfl rfl,
   by intros; exact eq_ld rfl rfl,
   by intros; exact eq_cv rfl (Nat.le_of_ble_eq_true rfl) rfl rfl rfl (Nat.le_of_ble_eq_true rfl),
   by intros; exact eq_if0 rfl,
   by intros; exact eq_push rfl,
   by intros; exact eq_go rfl,
   by intros; exact eq_push rfl,
   by intros; exact eq_rr rfl⟩
theorem rw_X7_kindNamed :
  (∀ (d : Nat) (a0 : Int) (S h : mx_H) (n : Int), mx_M d 62 [(2, a0)] S h n = mx_ex d 62 0 [some (2, a0)] [] S h n) ∧
  (∀ (d : Nat) (x : Int) (S h : mx_H) (n : Int), mx_ex d 62 0 [some (2, x)] [] S h n = mx_ex d 62 1 [some (2, x)] [(2, x)] S h n) ∧
  (∀ (d : Nat) (l0 : Option mx_V) (v0 : mx_V) (S h : mx_H) (n : Int), mx_ex d 62 1 [l0] [v0] S h n = mx_ex d 62 3 [l0] [(2, (-11)), v0] S h n) ∧
  (∀ (d : Nat) (x0 a : Int) (l0 : Option mx_V) (S h : mx_H) (n : Int), mx_ex (d + 1) 62 3 [l0] [(2, x0), (2, a)] S h n = mx_cl (S a (-2) = 10) d 70 [(2, a), (2, x0)] 62 6 [l0] [] S h n) ∧
  (∀ (d : Nat) (a : Int) (l0 : Option mx_V) (S h : mx_H) (n : Int), mx_ex d 62 6 [l0] [(0, a)] S h n = mx_br (a = 0) d 62 11 9 [l0] [] S h n) ∧
  (∀ (d : Nat) (l0 : Option mx_V) (S h : mx_H) (n : Int), mx_ex d 62 9 [l0] [] S h n = mx_ex d 62 10 [l0] [(0, 0)] S h n) ∧
  (∀ (d : Nat) (x : Int) (l0 : Option mx_V) (S h : mx_H) (n : Int), mx_ex d 62 10 [l0] [(0, x)] S h n = some (some (0, x), S, h, n)) ∧
  (∀ (d : Nat) (x : Int) (S h : mx_H) (n : Int), mx_ex d 62 11 [some (2, x)] [] S h n = mx_ex d 62 12 [some (2, x)] [(2, x)] S h n) ∧
  (∀ (d : Nat) (l0 : Option mx_V) (v0 : mx_V) (S h : mx_H) (n : Int), mx_ex d 62 12 [l0] [v0] S h n = mx_ex d 62 14 [l0] [(2, (-12)), v0] S h n) ∧
  (∀ (d : Nat) (x0 a : Int) (l0 : Option mx_V) (S h : mx_H) (n : Int), mx_ex (d + 1) 62 14 [l0] [(2, x0), (2, a)] S h n = mx_cl (S a (-2) = 10) d 70 [(2, a), (2, x0)] 62 17 [l0] [] S h n) ∧
  (∀ (d : Nat) (a : Int) (l0 : Option mx_V) (S h : mx_H) (n : Int), mx_ex d 62 17 [l0] [(0, a)] S h n = mx_br (a = 0) d 62 22 20 [l0] [] S h n) ∧
  (∀ (d : Nat) (l0 : Option mx_V) (S h : mx_H) (n : Int), mx_ex d 62 20 [l0] [] S h n = mx_ex d 62 21 [l0] [(0, 1)] S h n) ∧
  (∀ (d : Nat) (x : Int) (l0 : Option mx_V) (S h : mx_H) (n : Int), mx_ex d 62 21 [l0] [(0, x)] S h n = some (some (0, x), S, h, n)) ∧
  (∀ (d : Nat) (x : Int) (S h : mx_H) (n : Int), mx_ex d 62 22 [some (2, x)] [] S h n = mx_ex d 62 23 [some (2, x)] [(2, x)] S h n) ∧
  (∀ (d : Nat) (l0 : Option mx_V) (v0 : mx_V) (S h : mx_H) (n : Int), mx_ex d 62 23 [l0] [v0] S h n = mx_ex d 62 25 [l0] [(2, (-13)), v0] S h n) ∧
  (∀ (d : Nat) (x0 a : Int) (l0 : Option mx_V) (S h : mx_H) (n : Int), mx_ex (d + 1) 62 25 [l0] [(2, x0), (2, a)] S h n = mx_cl (S a (-2) = 10) d 70 [(2, a), (2, x0)] 62 28 [l0] [] S h n) ∧
  (∀ (d : Nat) (a : Int) (l0 : Option mx_V) (S h : mx_H) (n : Int), mx_ex d 62 28 [l0] [(0, a)] S h n = mx_br (a = 0) d 62 33 31 [l0] [] S h n) ∧
  (∀ (d : Nat) (l0 : Option mx_V) (S h : mx_H) (n : Int), mx_ex d 62 31 [l0] [] S h n = mx_ex d 62 32 [l0] [(0, 2)] S h n) ∧
  (∀ (d : Nat) (x : Int) (l0 : Option mx_V) (S h : mx_H) (n : Int), mx_ex d 62 32 [l0] [(0, x)] S h n = some (some (0, x), S, h, n)) ∧
  (∀ (d : Nat) (x : Int) (S h : mx_H) (n : Int), mx_ex d 62 33 [some (2, x)] [] S h n = mx_ex d 62 34 [some (2, x)] [(2, x)] S h n) ∧
  (∀ (d : Nat) (l0 : Option mx_V) (v0 : mx_V) (S h : mx_H) (n : Int), mx_ex d 62 34 [l0] [v0] S h n = mx_ex d 62 36 [l0] [(2, (-14)), v0] S h n) ∧
  (∀ (d : Nat) (x0 a : Int) (l0 : Option mx_V) (S h : mx_H) (n : Int), mx_ex (d + 1) 62 36 [l0] [(2, x0), (2, a)] S h n = mx_cl (S a (-2) = 10) d 70 [(2, a), (2, x0)] 62 39 [l0] [] S h n) ∧
  (∀ (d : Nat) (a : Int) (l0 : Option mx_V) (S h : mx_H) (n : Int), mx_ex d 62 39 [l0] [(0, a)] S h n = mx_br (a = 0) d 62 44 42 [l0] [] S h n) ∧
  (∀ (d : Nat) (l0 : Option mx_V) (S h : mx_H) (n : Int), mx_ex d 62 42 [l0] [] S h n = mx_ex d 62 43 [l0] [(0, 3)] S h n) ∧
  (∀ (d : Nat) (x : Int) (l0 : Option mx_V) (S h : mx_H) (n : Int), mx_ex d 62 43 [l0] [(0, x)] S h n = some (some (0, x), S, h, n)) ∧
  (∀ (d : Nat) (x : Int) (S h : mx_H) (n : Int), mx_ex d 62 44 [some (2, x)] [] S h n = mx_ex d 62 45 [some (2, x)] [(2, x)] S h n) ∧
  (∀ (d : Nat) (l0 : Option mx_V) (v0 : mx_V) (S h : mx_H) (n : Int), mx_ex d 62 45 [l0] [v0] S h n = mx_ex d 62 47 [l0] [(2, (-15)), v0] S h n) ∧
  (∀ (d : Nat) (x0 a : Int) (l0 : Option mx_V) (S h : mx_H) (n : Int), mx_ex (d + 1) 62 47 [l0] [(2, x0), (2, a)] S h n = mx_cl (S a (-2) = 10) d 70 [(2, a), (2, x0)] 62 50 [l0] [] S h n) ∧
  (∀ (d : Nat) (a : Int) (l0 : Option mx_V) (S h : mx_H) (n : Int), mx_ex d 62 50 [l0] [(0, a)] S h n = mx_br (a = 0) d 62 55 53 [l0] [] S h n) ∧
  (∀ (d : Nat) (l0 : Option mx_V) (S h : mx_H) (n : Int), mx_ex d 62 53 [l0] [] S h n = mx_ex d 62 54 [l0] [(0, 4)] S h n) ∧
  (∀ (d : Nat) (x : Int) (l0 : Option mx_V) (S h : mx_H) (n : Int), mx_ex d 62 54 [l0] [(0, x)] S h n = some (some (0, x), S, h, n)) ∧
  (∀ (d : Nat) (x : Int) (S h : mx_H) (n : Int), mx_ex d 62 55 [some (2, x)] [] S h n = mx_ex d 62 56 [some (2, x)] [(2, x)] S h n) ∧
  (∀ (d : Nat) (l0 : Option mx_V) (v0 : mx_V) (S h : mx_H) (n : Int), mx_ex d 62 56 [l0] [v0] S h n = mx_ex d 62 58 [l0] [(2, (-16)), v0] S h n) ∧
  (∀ (d : Nat) (x0 a : Int) (l0 : Option mx_V) (S h : mx_H) (n : Int), mx_ex (d + 1) 62 58 [l0] [(2, x0), (2, a)] S h n = mx_cl (S a (-2) = 10) d 70 [(2, a), (2, x0)] 62 61 [l0] [] S h n) ∧
  (∀ (d : Nat) (a : Int) (l0 : Option mx_V) (S h : mx_H) (n : Int), mx_ex d 62 61 [l0] [(0, a)] S h n = mx_br (a = 0) d 62 68 64 [l0] [] S h n) ∧
  (∀ (d : Nat) (l0 : Option mx_V) (S h : mx_H) (n : Int), mx_ex d 62 64 [l0] [] S h n = mx_ex d 62 65 [l0] [(0, 5)] S h n) ∧
  (∀ (d : Nat) (l0 : Option mx_V) (v0 : mx_V) (S h : mx_H) (n : Int), mx_ex d 62 65 [l0] [v0] S h n = mx_ex d 62 69 [l0] [v0] S h n) ∧
  (∀ (d : Nat) (l0 : Option mx_V) (S h : mx_H) (n : Int), mx_ex d 62 68 [l0] [] S h n = mx_ex d 62 69 [l0] [(0, (-1))] S h n) ∧
  (∀ (d : Nat) (x : Int) (l0 : Option mx_V) (S h : mx_H) (n : Int), mx_ex d 62 69 [l0] [(0, x)] S h n = some (some (0, x), S, h, n)) :=
  ⟨by intros; exact rfl,
   by intros; exact eq_ld rfl rfl,
   by intros; exact eq_push rfl,
   by intros; exact eq_cv rfl (Nat.le_of_ble_eq_true rfl) rfl rfl rfl (Nat.le_of_ble_eq_true rfl),
   by intros; exact eq_if0 rfl,
   by intros; exact eq_push rfl,
   by intros; exact eq_ret rfl,
   by intros; exact eq_ld rfl rfl,
   by intros; exact eq_push rfl,
   by intros; exact eq_cv rfl (Nat.le_of_ble_eq_true rfl) rfl rfl rfl (Nat.le_of_ble_eq_true rfl),
   by intros; exact eq_if0 rfl,
   by intros; exact eq_push rfl,
   by intros; exact eq_ret rfl,
   by intros; exact eq_ld rfl rfl,
   by intros; exact eq_push rfl,
   by intros; exact eq_cv rfl (Nat.le_of_ble_eq_true rfl) rfl rfl rfl (Nat.le_of_ble_eq_true rfl),
   by intros; exact eq_if0 rfl,
   by intros; exact eq_push rfl,
   by intros; exact eq_ret rfl,
   by intros; exact eq_ld rfl rfl,
   by intros; exact eq_push rfl,
   by intros; exact eq_cv rfl (Nat.le_of_ble_eq_true rfl) rfl rfl rfl (Nat.le_of_ble_eq_true rfl),
   by intros; exact eq_if0 rfl,
   by intros; exact eq_push rfl,
   by intros; exact eq_ret rfl,
   by intros; exact eq_ld rfl rfl,
   by intros; exact eq_push rfl,
   by intros; exact eq_cv rfl (Nat.le_of_ble_eq_true rfl) rfl rfl rfl (Nat.le_of_ble_eq_true rfl),
   by intros; exact eq_if0 rfl,
   by intros; exact eq_push rfl,
   by intros; exact eq_ret rfl,
   by intros; exact eq_ld rfl rfl,
   by intros; exact eq_push rfl,
   by intros; exact eq_cv rfl (Nat.le_of_ble_eq_true rfl) rfl rfl rfl (Nat.le_of_ble_eq_true rfl),
   by intros; exact eq_if0 rfl,
   by intros; exact eq_push rfl,
   by intros; exact eq_go rfl,
   by intros; exact eq_push rfl,
   by intros; exact eq_ret rfl⟩
theorem rw_X7_lineSortNamed :
  (∀ (d : Nat) (a0 : Int) (S h : mx_H) (n : Int), mx_M d 63 [(2, a0)] S h n = mx_ex d 63 0 [some (2, a0)] [] S h n) ∧
  (∀ (d : Nat) (x : Int) (S h : mx_H) (n : Int), mx_ex d 63 0 [some (2, x)] [] S h n = mx_ex d 63 1 [some (2, x)] [(2, x)] S h n) ∧
  (∀ (d : Nat) (l0 : Option mx_V) (v0 : mx_V) (S h : mx_H) (n : Int), mx_ex d 63 1 [l0] [v0] S h n = mx_ex d 63 3 [l0] [(2, (-17)), v0] S h n) ∧
  (∀ (d : Nat) (x0 a : Int) (l0 : Option mx_V) (S h : mx_H) (n : Int), mx_ex (d + 1) 63 3 [l0] [(2, x0), (2, a)] S h n = mx_cl (S a (-2) = 10) d 70 [(2, a), (2, x0)] 63 6 [l0] [] S h n) ∧
  (∀ (d : Nat) (a : Int) (l0 : Option mx_V) (S h : mx_H) (n : Int), mx_ex d 63 6 [l0] [(0, a)] S h n = mx_br (a = 0) d 63 11 9 [l0] [] S h n) ∧
  (∀ (d : Nat) (l0 : Option mx_V) (S h : mx_H) (n : Int), mx_ex d 63 9 [l0] [] S h n = mx_ex d 63 10 [l0] [(0, 0)] S h n) ∧
  (∀ (d : Nat) (x : Int) (l0 : Option mx_V) (S h : mx_H) (n : Int), mx_ex d 63 10 [l0] [(0, x)] S h n = some (some (0, x), S, h, n)) ∧
  (∀ (d : Nat) (x : Int) (S h : mx_H) (n : Int), mx_ex d 63 11 [some (2, x)] [] S h n = mx_ex d 63 12 [some (2, x)] [(2, x)] S h n) ∧
  (∀ (d : Nat) (l0 : Option mx_V) (v0 : mx_V) (S h : mx_H) (n : Int), mx_ex d 63 12 [l0] [v0] S h n = mx_ex d 63 14 [l0] [(2, (-18)), v0] S h n) ∧
  (∀ (d : Nat) (x0 a : Int) (l0 : Option mx_V) (S h : mx_H) (n : Int), mx_ex (d + 1) 63 14 [l0] [(2, x0), (2, a)] S h n = mx_cl (S a (-2) = 10) d 70 [(2, a), (2, x0)] 63 17 [l0] [] S h n) ∧
  (∀ (d : Nat) (a : Int) (l0 : Option mx_V) (S h : mx_H) (n : Int), mx_ex d 63 17 [l0] [(0, a)] S h n = mx_br (a = 0) d 63 22 20 [l0] [] S h n) ∧
  (∀ (d : Nat) (l0 : Option mx_V) (S h : mx_H) (n : Int), mx_ex d 63 20 [l0] [] S h n = mx_ex d 63 21 [l0] [(0, 1)] S h n) ∧
  (∀ (d : Nat) (x : Int) (l0 : Option mx_V) (S h : mx_H) (n : Int), mx_ex d 63 21 [l0] [(0, x)] S h n = some (some (0, x), S, h, n)) ∧
  (∀ (d : Nat) (x : Int) (S h : mx_H) (n : Int), mx_ex d 63 22 [some (2, x)] [] S h n = mx_ex d 63 23 [some (2, x)] [(2, x)] S h n) ∧
  (∀ (d : Nat) (l0 : Option mx_V) (v0 : mx_V) (S h : mx_H) (n : Int), mx_ex d 63 23 [l0] [v0] S h n = mx_ex d 63 25 [l0] [(2, (-19)), v0] S h n) ∧
  (∀ (d : Nat) (x0 a : Int) (l0 : Option mx_V) (S h : mx_H) (n : Int), mx_ex (d + 1) 63 25 [l0] [(2, x0), (2, a)] S h n = mx_cl (S a (-2) = 10) d 70 [(2, a), (2, x0)] 63 28 [l0] [] S h n) ∧
  (∀ (d : Nat) (a : Int) (l0 : Option mx_V) (S h : mx_H) (n : Int), mx_ex d 63 28 [l0] [(0, a)] S h n = mx_br (a = 0) d 63 33 31 [l0] [] S h n) ∧
  (∀ (d : Nat) (l0 : Option mx_V) (S h : mx_H) (n : Int), mx_ex d 63 31 [l0] [] S h n = mx_ex d 63 32 [l0] [(0, 2)] S h n) ∧
  (∀ (d : Nat) (x : Int) (l0 : Option mx_V) (S h : mx_H) (n : Int), mx_ex d 63 32 [l0] [(0, x)] S h n = some (some (0, x), S, h, n)) ∧
  (∀ (d : Nat) (x : Int) (S h : mx_H) (n : Int), mx_ex d 63 33 [some (2, x)] [] S h n = mx_ex d 63 34 [some (2, x)] [(2, x)] S h n) ∧
  (∀ (d : Nat) (l0 : Option mx_V) (v0 : mx_V) (S h : mx_H) (n : Int), mx_ex d 63 34 [l0] [v0] S h n = mx_ex d 63 36 [l0] [(2, (-20)), v0] S h n) ∧
  (∀ (d : Nat) (x0 a : Int) (l0 : Option mx_V) (S h : mx_H) (n : Int), mx_ex (d + 1) 63 36 [l0] [(2, x0), (2, a)] S h n = mx_cl (S a (-2) = 10) d 70 [(2, a), (2, x0)] 63 39 [l0] [] S h n) ∧
  (∀ (d : Nat) (a : Int) (l0 : Option mx_V) (S h : mx_H) (n : Int), mx_ex d 63 39 [l0] [(0, a)] S h n = mx_br (a = 0) d 63 46 42 [l0] [] S h n) ∧
  (∀ (d : Nat) (l0 : Option mx_V) (S h : mx_H) (n : Int), mx_ex d 63 42 [l0] [] S h n = mx_ex d 63 43 [l0] [(0, 3)] S h n) ∧
  (∀ (d : Nat) (l0 : Option mx_V) (v0 : mx_V) (S h : mx_H) (n : Int), mx_ex d 63 43 [l0] [v0] S h n = mx_ex d 63 47 [l0] [v0] S h n) ∧
  (∀ (d : Nat) (l0 : Option mx_V) (S h : mx_H) (n : Int), mx_ex d 63 46 [l0] [] S h n = mx_ex d 63 47 [l0] [(0, (-1))] S h n) ∧
  (∀ (d : Nat) (x : Int) (l0 : Option mx_V) (S h : mx_H) (n : Int), mx_ex d 63 47 [l0] [(0, x)] S h n = some (some (0, x), S, h, n)) :=
  ⟨by intros; exact rfl,
   by intros; exact eq_ld rfl rfl,
   by intros; exact eq_push rfl,
   by intros; exact eq_cv rfl (Nat.le_of_ble_eq_true rfl) rfl rfl rfl (Nat.le_of_ble_eq_true rfl),
   by intros; exact eq_if0 rfl,
   by intros; exact eq_push rfl,
   by intros; exact eq_ret rfl,
   by intros; exact eq_ld rfl rfl,
   by intros; exact eq_push rfl,
   by intros; exact eq_cv rfl (Nat.le_of_ble_eq_true rfl) rfl rfl rfl (Nat.le_of_ble_eq_true rfl),
   by intros; exact eq_if0 rfl,
   by intros; exact eq_push rfl,
   by intros; exact eq_ret rfl,
   by intros; exact eq_ld rfl rfl,
   by intros; exact eq_push rfl,
   by intros; exact eq_cv rfl (Nat.le_of_ble_eq_true rfl) rfl rfl rfl (Nat.le_of_ble_eq_true rfl),
   by intros; exact eq_if0 rfl,
   by intros; exact eq_push rfl,
   by intros; exact eq_ret rfl,
   by intros; exact eq_ld rfl rfl,
   by intros; exact eq_push rfl,
   by intros; exact eq_cv rfl (Nat.le_of_ble_eq_true rfl) rfl rfl rfl (Nat.le_of_ble_eq_true rfl),
   by intros; exact eq_if0 rfl,
   by intros; exact eq_push rfl,
   by intros; exact eq_go rfl,
   by intros; exact eq_push rfl,
   by intros; exact eq_ret rfl⟩
theorem rw_X7_noteTold :
  (∀ (d : Nat) (a0 a1 : Int) (S h : mx_H) (n : Int), mx_M d 64 [(2, a0), (0, a1)] S h n = mx_ex d 64 0 [some (2, a0), some (0, a1), none, none, none, none] [] S h n) ∧
  (∀ (d : Nat) (x : Int) (l1 l2 l3 l4 l5 : Option mx_V) (S h : mx_H) (n : Int), mx_ex d 64 0 [some (2, x), l1, l2, l3, l4, l5] [] S h n = mx_ex d 64 1 [some (2, x), l1, l2, l3, l4, l5] [(2, x)] S h n) ∧
  (∀ (d : Nat) (a : Int) (l0 l1 l2 l3 l4 l5 : Option mx_V) (S h : mx_H) (n : Int), mx_ex d 64 1 [l0, l1, l2, l3, l4, l5] [(2, a)] S h n = mx_gd (10 ≤ S a (-2) ∧ S a (-2) ≤ 10) d 64 4 [l0, l1, l2, l3, l4, l5] [(2, S a 0)] S h n) ∧
  (∀ (d : Nat) (a : Int) (l0 l1 l2 l3 l4 l5 : Option mx_V) (S h : mx_H) (n : Int), mx_ex d 64 4 [l0, l1, l2, l3, l4, l5] [(2, a)] S h n = mx_gd (8 ≤ S a (-2) ∧ S a (-2) ≤ 8) d 64 7 [l0, l1, l2, l3, l4, l5] [(0, h a 3)] S h n) ∧
  (∀ (d : Nat) (l0 l1 l2 l3 l4 l5 : Option mx_V) (v0 : mx_V) (S h : mx_H) (n : Int), mx_ex d 64 7 [l0, l1, l2, l3, l4, l5] [v0] S h n = mx_ex d 64 9 [l0, l1, l2, l3, l4, l5] [(0, 6), v0] S h n) ∧
  (∀ (d : Nat) (b a : Int) (l0 l1 l2 l3 l4 l5 : Option mx_V) (S h : mx_H) (n : Int), mx_ex d 64 9 [l0, l1, l2, l3, l4, l5] [(0, b), (0, a)] S h n = mx_br (a < b) d 64 14 12 [l0, l1, l2, l3, l4, l5] [] S h n) ∧
  (∀ (d : Nat) (l0 l1 l2 l3 l4 l5 : Option mx_V) (S h : mx_H) (n : Int), mx_ex d 64 12 [l0, l1, l2, l3, l4, l5] [] S h n = mx_ex d 64 13 [l0, l1, l2, l3, l4, l5] [(0, 0)] S h n) ∧
  (∀ (d : Nat) (x : Int) (l0 l1 l2 l3 l4 l5 : Option mx_V) (S h : mx_H) (n : Int), mx_ex d 64 13 [l0, l1, l2, l3, l4, l5] [(0, x)] S h n = mx_re (0 ≤ x ∧ x ≤ 1) (some (0, x)) S h n) ∧
  (∀ (d : Nat) (x : Int) (l1 l2 l3 l4 l5 : Option mx_V) (S h : mx_H) (n : Int), mx_ex d 64 14 [some (2, x), l1, l2, l3, l4, l5] [] S h n = mx_ex d 64 15 [some (2, x), l1, l2, l3, l4, l5] [(2, x)] S h n) ∧
  (∀ (d : Nat) (a : Int) (l0 l1 l2 l3 l4 l5 : Option mx_V) (S h : mx_H) (n : Int), mx_ex (d + 1) 64 15 [l0, l1, l2, l3, l4, l5] [(2, a)] S h n = mx_cl (S a (-2) = 10) d 71 [(2, a)] 64 18 [l0, l1, l2, l3, l4, l5] [] S h n) ∧
  (∀ (d : Nat) (x : Int) (l1 l2 l3 l4 l5 : Option mx_V) (S h : mx_H) (n : Int), mx_ex d 64 18 [some (2, x), l1, l2, l3, l4, l5] [] S h n = mx_ex d 64 19 [some (2, x), l1, l2, l3, l4, l5] [(2, x)] S h n) ∧
  (∀ (d : Nat) (l0 l1 l2 l3 l4 l5 : Option mx_V) (v0 : mx_V) (S h : mx_H) (n : Int), mx_ex d 64 19 [l0, l1, l2, l3, l4, l5] [v0] S h n = mx_ex d 64 20 [l0, l1, l2, l3, l4, l5] [(0, 0), v0] S h n) ∧
  (∀ (d : Nat) (l0 l1 l2 l3 l4 l5 : Option mx_V) (v0 v1 : mx_V) (S h : mx_H) (n : Int), mx_ex d 64 20 [l0, l1, l2, l3, l4, l5] [v0, v1] S h n = mx_ex d 64 21 [l0, l1, l2, l3, l4, l5] [(0, 2), v0, v1] S h n) ∧
  (∀ (d : Nat) (x0 x1 a : Int) (l0 l1 l2 l3 l4 l5 : Option mx_V) (S h : mx_H) (n : Int), mx_ex (d + 1) 64 21 [l0, l1, l2, l3, l4, l5] [(0, x0), (0, x1), (2, a)] S h n = mx_cl (S a (-2) = 10) d 68 [(2, a), (0, x1), (0, x0)] 64 24 [l0, l1, l2, l3, l4, l5] [] S h n) ∧
  (∀ (d : Nat) (x : Int) (l0 l1 l2 l3 l4 l5 : Option mx_V) (S h : mx_H) (n : Int), mx_ex d 64 24 [l0, l1, l2, l3, l4, l5] [(0, x)] S h n = mx_ex d 64 25 [l0, mx_nl l1, some (0, x), l3, l4, l5] [] S h n) ∧
  (∀ (d : Nat) (x : Int) (l0 l1 l3 l4 l5 : Option mx_V) (S h : mx_H) (n : Int), mx_ex d 64 25 [l0, l1, some (0, x), l3, l4, l5] [] S h n = mx_ex d 64 26 [l0, l1, some (0, x), l3, l4, l5] [(0, x)] S h n) ∧
  (∀ (d : Nat) (a : Int) (l0 l1 l2 l3 l4 l5 : Option mx_V) (S h : mx_H) (n : Int), mx_ex d 64 26 [l0, l1, l2, l3, l4, l5] [(0, a)] S h n = mx_br (a < 0) d 64 29 31 [l0, l1, l2, l3, l4, l5] [] S h n) ∧
  (∀ (d : Nat) (l0 l1 l2 l3 l4 l5 : Option mx_V) (S h : mx_H) (n : Int), mx_ex d 64 29 [l0, l1, l2, l3, l4, l5] [] S h n = mx_ex d 64 30 [l0, l1, l2, l3, l4, l5] [(0, 0)] S h n) ∧
  (∀ (d : Nat) (x : Int) (l0 l1 l2 l3 l4 l5 : Option mx_V) (S h : mx_H) (n : Int), mx_ex d 64 30 [l0, l1, l2, l3, l4, l5] [(0, x)] S h n = mx_re (0 ≤ x ∧ x ≤ 1) (some (0, x)) S h n) ∧
  (∀ (d : Nat) (l0 l1 l2 l3 l4 l5 : Option mx_V) (S h : mx_H) (n : Int), mx_ex d 64 31 [l0, l1, l2, l3, l4, l5] [] S h n = mx_ex d 64 32 [l0, l1, l2, l3, l4, l5] [(0, 0)] S h n) ∧
  (∀ (d : Nat) (x : Int) (l0 l1 l2 l3 l4 l5 : Option mx_V) (S h : mx_H) (n : Int), mx_ex d 64 32 [l0, l1, l2, l3, l4, l5] [(0, x)] S h n = mx_ex d 64 33 [l0, l1, mx_nl l2, some (0, x), l4, l5] [] S h n) ∧
  (∀ (d : Nat) (x : Int) (l1 l2 l3 l4 l5 : Option mx_V) (S h : mx_H) (n : Int), mx_ex d 64 33 [some (2, x), l1, l2, l3, l4, l5] [] S h n = mx_ex d 64 34 [some (2, x), l1, l2, l3, l4, l5] [(2, x)] S h n) ∧
  (∀ (d : Nat) (l0 l1 l2 l3 l4 l5 : Option mx_V) (v0 : mx_V) (S h : mx_H) (n : Int), mx_ex d 64 34 [l0, l1, l2, l3, l4, l5] [v0] S h n = mx_ex d 64 36 [l0, l1, l2, l3, l4, l5] [(2, (-21)), v0] S h n) ∧
  (∀ (d : Nat) (x0 a : Int) (l0 l1 l2 l3 l4 l5 : Option mx_V) (S h : mx_H) (n : Int), mx_ex (d + 1) 64 36 [l0, l1, l2, l3, l4, l5] [(2, x0), (2, a)] S h n = mx_cl (S a (-2) = 10) d 70 [(2, a), (2, x0)] 64 39 [l0, l1, l2, l3, l4, l5] [] S h n) ∧
  (∀ (d : Nat) (a : Int) (l0 l1 l2 l3 l4 l5 : Option mx_V) (S h : mx_H) (n : Int), mx_ex d 64 39 [l0, l1, l2, l3, l4, l5] [(0, a)] S h n = mx_br (a = 0) d 64 54 42 [l0, l1, l2, l3, l4, l5] [] S h n) ∧
  (∀ (d : Nat) (x : Int) (l1 l2 l3 l4 l5 : Option mx_V) (S h : mx_H) (n : Int), mx_ex d 64 42 [some (2, x), l1, l2, l3, l4, l5] [] S h n = mx_ex d 64 43 [some (2, x), l1, l2, l3, l4, l5] [(2, x)] S h n) ∧
  (∀ (d : Nat) (a : Int) (l0 l1 l2 l3 l4 l5 : Option mx_V) (S h : mx_H) (n : Int), mx_ex (d + 1) 64 43 [l0, l1, l2, l3, l4, l5] [(2, a)] S h n = mx_cl (S a (-2) = 10) d 71 [(2, a)] 64 46 [l0, l1, l2, l3, l4, l5] [] S h n) ∧
  (∀ (d : Nat) (x : Int) (l1 l2 l3 l4 l5 : Option mx_V) (S h : mx_H) (n : Int), mx_ex d 64 46 [some (2, x), l1, l2, l3, l4, l5] [] S h n = mx_ex d 64 47 [some (2, x), l1, l2, l3, l4, l5] [(2, x)] S h n) ∧
  (∀ (d : Nat) (l0 l1 l2 l3 l4 l5 : Option mx_V) (v0 : mx_V) (S h : mx_H) (n : Int), mx_ex d 64 47 [l0, l1, l2, l3, l4, l5] [v0] S h n = mx_ex d 64 48 [l0, l1, l2, l3, l4, l5] [(0, 0), v0] S h n) ∧
  (∀ (d : Nat) (l0 l1 l2 l3 l4 l5 : Option mx_V) (v0 v1 : mx_V) (S h : mx_H) (n : Int), mx_ex d 64 48 [l0, l1, l2, l3, l4, l5] [v0, v1] S h n = mx_ex d 64 50 [l0, l1, l2, l3, l4, l5] [(0, 6), v0, v1] S h n) ∧
  (∀ (d : Nat) (x0 x1 a : Int) (l0 l1 l2 l3 l4 l5 : Option mx_V) (S h : mx_H) (n : Int), mx_ex (d + 1) 64 50 [l0, l1, l2, l3, l4, l5] [(0, x0), (0, x1), (2, a)] S h n = mx_cl (S a (-2) = 10) d 68 [(2, a), (0, x1), (0, x0)] 64 53 [l0, l1, l2, l3, l4, l5] [] S h n) ∧
  (∀ (d : Nat) (x : Int) (l0 l1 l2 l3 l4 l5 : Option mx_V) (S h : mx_H) (n : Int), mx_ex d 64 53 [l0, l1, l2, l3, l4, l5] [(0, x)] S h n = mx_ex d 64 54 [l0, l1, mx_nl l2, some (0, x), l4, l5] [] S h n) ∧
  (∀ (d : Nat) (x : Int) (l0 l1 l2 l4 l5 : Option mx_V) (S h : mx_H) (n : Int), mx_ex d 64 54 [l0, l1, l2, some (0, x), l4, l5] [] S h n = mx_ex d 64 55 [l0, l1, l2, some (0, x), l4, l5] [(0, x)] S h n) ∧
  (∀ (d : Nat) (a : Int) (l0 l1 l2 l3 l4 l5 : Option mx_V) (S h : mx_H) (n : Int), mx_ex d 64 55 [l0, l1, l2, l3, l4, l5] [(0, a)] S h n = mx_br (a < 0) d 64 67 58 [l0, l1, l2, l3, l4, l5] [] S h n) ∧
  (∀ (d : Nat) (x : Int) (l1 l2 l3 l4 l5 : Option mx_V) (S h : mx_H) (n : Int), mx_ex d 64 58 [some (2, x), l1, l2, l3, l4, l5] [] S h n = mx_ex d 64 59 [some (2, x), l1, l2, l3, l4, l5] [(2, x)] S h n) ∧
  (∀ (d : Nat) (l0 l1 l2 l3 l4 l5 : Option mx_V) (v0 : mx_V) (S h : mx_H) (n : Int), mx_ex d 64 59 [l0, l1, l2, l3, l4, l5] [v0] S h n = mx_ex d 64 61 [l0, l1, l2, l3, l4, l5] [(0, 58), v0] S h n) ∧
  (∀ (d : Nat) (x0 a : Int) (l0 l1 l2 l3 l4 l5 : Option mx_V) (S h : mx_H) (n : Int), mx_ex (d + 1) 64 61 [l0, l1, l2, l3, l4, l5] [(0, x0), (2, a)] S h n = mx_cl (S a (-2) = 10) d 69 [(2, a), (0, x0)] 64 64 [l0, l1, l2, l3, l4, l5] [] S h n) ∧
  (∀ (d : Nat) (a : Int) (l0 l1 l2 l3 l4 l5 : Option mx_V) (S h : mx_H) (n : Int), mx_ex d 64 64 [l0, l1, l2, l3, l4, l5] [(0, a)] S h n = mx_br (a = 0) d 64 67 69 [l0, l1, l2, l3, l4, l5] [] S h n) ∧
  (∀ (d : Nat) (l0 l1 l2 l3 l4 l5 : Option mx_V) (S h : mx_H) (n : Int), mx_ex d 64 67 [l0, l1, l2, l3, l4, l5] [] S h n = mx_ex d 64 68 [l0, l1, l2, l3, l4, l5] [(0, 0)] S h n) ∧
  (∀ (d : Nat) (x : Int) (l0 l1 l2 l3 l4 l5 : Option mx_V) (S h : mx_H) (n : Int), mx_ex d 64 68 [l0, l1, l2, l3, l4, l5] [(0, x)] S h n = mx_re (0 ≤ x ∧ x ≤ 1) (some (0, x)) S h n) ∧
  (∀ (d : Nat) (x : Int) (l1 l2 l3 l4 l5 : Option mx_V) (S h : mx_H) (n : Int), mx_ex d 64 69 [some (2, x), l1, l2, l3, l4, l5] [] S h n = mx_ex d 64 70 [some (2, x), l1, l2, l3, l4, l5] [(2, x)] S h n) ∧
  (∀ (d : Nat) (a : Int) (l0 l1 l2 l3 l4 l5 : Option mx_V) (S h : mx_H) (n : Int), mx_ex (d + 1) 64 70 [l0, l1, l2, l3, l4, l5] [(2, a)] S h n = mx_cl (S a (-2) = 10) d 65 [(2, a)] 64 73 [l0, l1, l2, l3, l4, l5] [] S h n) ∧
  (∀ (d : Nat) (x : Int) (l0 l1 l2 l3 l4 l5 : Option mx_V) (S h : mx_H) (n : Int), mx_ex d 64 73 [l0, l1, l2, l3, l4, l5] [(0, x)] S h n = mx_ex d 64 75 [l0, l1, l2, mx_nl l3, some (0, x), l5] [] S h n) ∧
  (∀ (d : Nat) (x : Int) (l0 l1 l2 l3 l5 : Option mx_V) (S h : mx_H) (n : Int), mx_ex d 64 75 [l0, l1, l2, l3, some (0, x), l5] [] S h n = mx_ex d 64 77 [l0, l1, l2, l3, some (0, x), l5] [(0, x)] S h n) ∧
  (∀ (d : Nat) (l0 l1 l2 l3 l4 l5 : Option mx_V) (v0 : mx_V) (S h : mx_H) (n : Int), mx_ex d 64 77 [l0, l1, l2, l3, l4, l5] [v0] S h n = mx_ex d 64 78 [l0, l1, l2, l3, l4, l5] [(0, 1), v0] S h n) ∧
  (∀ (d : Nat) (b a : Int) (l0 l1 l2 l3 l4 l5 : Option mx_V) (S h : mx_H) (n : Int), mx_ex d 64 78 [l0, l1, l2, l3, l4, l5] [(0, b), (0, a)] S h n = mx_br (a < b) d 64 90 81 [l0, l1, l2, l3, l4, l5] [] S h n) ∧
  (∀ (d : Nat) (x : Int) (l1 l2 l3 l4 l5 : Option mx_V) (S h : mx_H) (n : Int), mx_ex d 64 81 [some (2, x), l1, l2, l3, l4, l5] [] S h n = mx_ex d 64 82 [some (2, x), l1, l2, l3, l4, l5] [(2, x)] S h n) ∧
  (∀ (d : Nat) (l0 l1 l2 l3 l4 l5 : Option mx_V) (v0 : mx_V) (S h : mx_H) (n : Int), mx_ex d 64 82 [l0, l1, l2, l3, l4, l5] [v0] S h n = mx_ex d 64 84 [l0, l1, l2, l3, l4, l5] [(0, 59), v0] S h n) ∧
  (∀ (d : Nat) (x0 a : Int) (l0 l1 l2 l3 l4 l5 : Option mx_V) (S h : mx_H) (n : Int), mx_ex (d + 1) 64 84 [l0, l1, l2, l3, l4, l5] [(0, x0), (2, a)] S h n = mx_cl (S a (-2) = 10) d 69 [(2, a), (0, x0)] 64 87 [l0, l1, l2, l3, l4, l5] [] S h n) ∧
  (∀ (d : Nat) (a : Int) (l0 l1 l2 l3 l4 l5 : Option mx_V) (S h : mx_H) (n : Int), mx_ex d 64 87 [l0, l1, l2, l3, l4, l5] [(0, a)] S h n = mx_br (a = 0) d 64 90 92 [l0, l1, l2, l3, l4, l5] [] S h n) ∧
  (∀ (d : Nat) (l0 l1 l2 l3 l4 l5 : Option mx_V) (S h : mx_H) (n : Int), mx_ex d 64 90 [l0, l1, l2, l3, l4, l5] [] S h n = mx_ex d 64 91 [l0, l1, l2, l3, l4, l5] [(0, 0)] S h n) ∧
  (∀ (d : Nat) (x : Int) (l0 l1 l2 l3 l4 l5 : Option mx_V) (S h : mx_H) (n : Int), mx_ex d 64 91 [l0, l1, l2, l3, l4, l5] [(0, x)] S h n = mx_re (0 ≤ x ∧ x ≤ 1) (some (0, x)) S h n) ∧
  (∀ (d : Nat) (x : Int) (l0 l1 l2 l3 l5 : Option mx_V) (S h : mx_H) (n : Int), mx_ex d 64 92 [l0, l1, l2, l3, some (0, x), l5] [] S h n = mx_ex d 64 94 [l0, l1, l2, l3, some (0, x), l5] [(0, x)] S h n) ∧
  (∀ (d : Nat) (x : Int) (l0 l1 l2 l3 l4 l5 : Option mx_V) (S h : mx_H) (n : Int), mx_ex d 64 94 [l0, l1, l2, l3, l4, l5] [(0, x)] S h n = mx_gd (0 ≤ x ∧ x ≤ 300) d 64 96 [l0, l1, l2, l3, l4, l5] [(2, n)] (mx_t S n 20 x) (mx_z h n) (n + 1)) ∧
  (∀ (d : Nat) (x : Int) (l0 l1 l2 l3 l4 l5 : Option mx_V) (S h : mx_H) (n : Int), mx_ex d 64 96 [l0, l1, l2, l3, l4, l5] [(2, x)] S h n = mx_ex d 64 98 [l0, l1, l2, l3, mx_nl l4, some (2, x)] [] S h n) ∧
  (∀ (d : Nat) (x : Int) (l1 l2 l3 l4 l5 : Option mx_V) (S h : mx_H) (n : Int), mx_ex d 64 98 [some (2, x), l1, l2, l3, l4, l5] [] S h n = mx_ex d 64 99 [some (2, x), l1, l2, l3, l4, l5] [(2, x)] S h n) ∧
  (∀ (d : Nat) (a : Int) (l0 l1 l2 l3 l4 l5 : Option mx_V) (S h : mx_H) (n : Int), mx_ex d 64 99 [l0, l1, l2, l3, l4, l5] [(2, a)] S h n = mx_gd (10 ≤ S a (-2) ∧ S a (-2) ≤ 10) d 64 102 [l0, l1, l2, l3, l4, l5] [(2, S a 2)] S h n) ∧
  (∀ (d : Nat) (l0 l1 l2 l3 l4 l5 : Option mx_V) (v0 : mx_V) (S h : mx_H) (n : Int), mx_ex d 64 102 [l0, l1, l2, l3, l4, l5] [v0] S h n = mx_ex d 64 103 [l0, l1, l2, l3, l4, l5] [(0, 0), v0] S h n) ∧
  (∀ (d : Nat) (x : Int) (l0 l1 l2 l3 l4 : Option mx_V) (v0 v1 : mx_V) (S h : mx_H) (n : Int), mx_ex d 64 103 [l0, l1, l2, l3, l4, some (2, x)] [v0, v1] S h n = mx_ex d 64 105 [l0, l1, l2, l3, l4, some (2, x)] [(2, x), v0, v1] S h n) ∧
  (∀ (d : Nat) (l0 l1 l2 l3 l4 l5 : Option mx_V) (v0 v1 v2 : mx_V) (S h : mx_H) (n : Int), mx_ex d 64 105 [l0, l1, l2, l3, l4, l5] [v0, v1, v2] S h n = mx_ex d 64 106 [l0, l1, l2, l3, l4, l5] [(0, 0), v0, v1, v2] S h n) ∧
  (∀ (d : Nat) (x : Int) (l0 l1 l2 l3 l5 : Option mx_V) (v0 v1 v2 v3 : mx_V) (S h : mx_H) (n : Int), mx_ex d 64 106 [l0, l1, l2, l3, some (0, x), l5] [v0, v1, v2, v3] S h n = mx_ex d 64 108 [l0, l1, l2, l3, some (0, x), l5] [(0, x), v0, v1, v2, v3] S h n) ∧
  (∀ (d : Nat) (x j b i a : Int) (l0 l1 l2 l3 l4 l5 : Option mx_V) (S h : mx_H) (n : Int), mx_ex d 64 108 [l0, l1, l2, l3, l4, l5] [(0, x), (0, j), (2, b), (0, i), (2, a)] S h n = mx_gd (S a (-2) = 20 ∧ S b (-2) = 20 ∧ 0 ≤ x ∧ 0 ≤ i ∧ 0 ≤ j ∧ i + x ≤ S a (-1) ∧ j + x ≤ S b (-1)) d 64 111 [l0, l1, l2, l3, l4, l5] [] S (mx_y h a i b j x) n) ∧
  (∀ (d : Nat) (x : Int) (l1 l2 l3 l4 l5 : Option mx_V) (S h : mx_H) (n : Int), mx_ex d 64 111 [some (2, x), l1, l2, l3, l4, l5] [] S h n = mx_ex d 64 112 [some (2, x), l1, l2, l3, l4, l5] [(2, x)] S h n) ∧
  (∀ (d : Nat) (a : Int) (l0 l1 l2 l3 l4 l5 : Option mx_V) (S h : mx_H) (n : Int), mx_ex d 64 112 [l0, l1, l2, l3, l4, l5] [(2, a)] S h n = mx_gd (10 ≤ S a (-2) ∧ S a (-2) ≤ 10) d 64 115 [l0, l1, l2, l3, l4, l5] [(2, S a 0)] S h n) ∧
  (∀ (d : Nat) (x : Int) (l0 l2 l3 l4 l5 : Option mx_V) (v0 : mx_V) (S h : mx_H) (n : Int), mx_ex d 64 115 [l0, some (0, x), l2, l3, l4, l5] [v0] S h n = mx_ex d 64 116 [l0, some (0, x), l2, l3, l4, l5] [(0, x), v0] S h n) ∧
  (∀ (d : Nat) (x : Int) (l0 l1 l3 l4 l5 : Option mx_V) (v0 v1 : mx_V) (S h : mx_H) (n : Int), mx_ex d 64 116 [l0, l1, some (0, x), l3, l4, l5] [v0, v1] S h n = mx_ex d 64 117 [l0, l1, some (0, x), l3, l4, l5] [(0, x), v0, v1] S h n) ∧
  (∀ (d : Nat) (x : Int) (l0 l1 l2 l4 l5 : Option mx_V) (v0 v1 v2 : mx_V) (S h : mx_H) (n : Int), mx_ex d 64 117 [l0, l1, l2, some (0, x), l4, l5] [v0, v1, v2] S h n = mx_ex d 64 118 [l0, l1, l2, some (0, x), l4, l5] [(0, x), v0, v1, v2] S h n) ∧
  (∀ (d : Nat) (x : Int) (l0 l1 l2 l3 l4 : Option mx_V) (v0 v1 v2 v3 : mx_V) (S h : mx_H) (n : Int), mx_ex d 64 118 [l0, l1, l2, l3, l4, some (2, x)] [v0, v1, v2, v3] S h n = mx_ex d 64 120 [l0, l1, l2, l3, l4, some (2, x)] [(2, x), v0, v1, v2, v3] S h n) ∧
  (∀ (d : Nat) (x0 x1 x2 x3 a : Int) (l0 l1 l2 l3 l4 l5 : Option mx_V) (S h : mx_H) (n : Int), mx_ex (d + 1) 64 120 [l0, l1, l2, l3, l4, l5] [(2, x0), (0, x1), (0, x2), (0, x3), (2, a)] S h n = mx_cl (S a (-2) = 8) d 92 [(2, a), (0, x3), (0, x2), (0, x1), (2, x0)] 64 123 [l0, l1, l2, l3, l4, l5] [] S h n) ∧
  (∀ (d : Nat) (a : Int) (l0 l1 l2 l3 l4 l5 : Option mx_V) (S h : mx_H) (n : Int), mx_ex d 64 123 [l0, l1, l2, l3, l4, l5] [(0, a)] S h n = mx_ex d 64 124 [l0, l1, l2, l3, l4, l5] [] S h n) :=
  ⟨by intros; exact rfl,
   by intros; exact eq_ld rfl rfl,
   by intros; exact eq_gr rfl,
   by intros; exact eq_gi rfl,
   by intros; exact eq_push rfl,
   by intros; exact eq_ic2 rfl,
   by intros; exact eq_push rfl,
   by intros; exact eq_rr rfl,
   by intros; exact eq_ld rfl rfl,
   by intros; exact eq_cv rfl (Nat.le_of_ble_eq_true rfl) rfl rfl rfl (Nat.le_of_ble_eq_true rfl),
   by intros; exact eq_ld rfl rfl,
   by intros; exact eq_push rfl,
   by intros; exact eq_push rfl,
   by intros; exact eq_cv rfl (Nat.le_of_ble_eq_true rfl) rfl rfl rfl (Nat.le_of_ble_eq_true rfl),
   by intros; exact eq_st rfl (by decide) (Nat.le_of_ble_eq_true rfl) rfl,
   by intros; exact eq_ld rfl rfl,
   by intros; exact eq_if3 rfl,
   by intros; exact eq_push rfl,
   by intros; exact eq_rr rfl,
   by intros; exact eq_push rfl,
   by intros; exact eq_st rfl (by decide) (Nat.le_of_ble_eq_true rfl) rfl,
   by intros; exact eq_ld rfl rfl,
   by intros; exact eq_push rfl,
   by intros; exact eq_cv rfl (Nat.le_of_ble_eq_true rfl) rfl rfl rfl (Nat.le_of_ble_eq_true rfl),
   by intros; exact eq_if0 rfl,
   by intros; exact eq_ld rfl rfl,
   by intros; exact eq_cv rfl (Nat.le_of_ble_eq_true rfl) rfl rfl rfl (Nat.le_of_ble_eq_true rfl),
   by intros; exact eq_ld rfl rfl,
   by intros; exact eq_push rfl,
   by intros; exact eq_push rfl,
   by intros; exact eq_cv rfl (Nat.le_of_ble_eq_true rfl) rfl rfl rfl (Nat.le_of_ble_eq_true rfl),
   by intros; exact eq_st rfl (by decide) (Nat.le_of_ble_eq_true rfl) rfl,
   by intros; exact eq_ld rfl rfl,
   by intros; exact eq_if2 rfl,
   by intros; exact eq_ld rfl rfl,
   by intros; exact eq_push rfl,
   by intros; exact eq_cv rfl (Nat.le_of_ble_eq_true rfl) rfl rfl rfl (Nat.le_of_ble_eq_true rfl),
   by intros; exact eq_if1 rfl,
   by intros; exact eq_push rfl,
   by intros; exact eq_rr rfl,
   by intros; exact eq_ld rfl rfl,
   by intros; exact eq_cv rfl (Nat.le_of_ble_eq_true rfl) rfl rfl rfl (Nat.le_of_ble_eq_true rfl),
   by intros; exact eq_st rfl (by decide) (Nat.le_of_ble_eq_true rfl) rfl,
   by intros; exact eq_ld rfl rfl,
   by intros; exact eq_push rfl,
   by intros; exact eq_ic2 rfl,
   by intros; exact eq_ld rfl rfl,
   by intros; exact eq_push rfl,
   by intros; exact eq_cv rfl (Nat.le_of_ble_eq_true rfl) rfl rfl rfl (Nat.le_of_ble_eq_true rfl),
   by intros; exact eq_if1 rfl,
   by intros; exact eq_push rfl,
   by intros; exact eq_rr rfl,
   by intros; exact eq_ld rfl rfl,
   by intros; exact eq_newa rfl,
   by intros; exact eq_st rfl (by decide) (Nat.le_of_ble_eq_true rfl) rfl,
   by intros; exact eq_ld rfl rfl,
   by intros; exact eq_gr rfl,
   by intros; exact eq_push rfl,
   by intros; exact eq_ld rfl rfl,
   by intros; exact eq_push rfl,
   by intros; exact eq_ld rfl rfl,
   by intros; exact eq_copy rfl (Nat.le_of_ble_eq_true rfl),
   by intros; exact eq_ld rfl rfl,
   by intros; exact eq_gr rfl,
   by intros; exact eq_ld rfl rfl,
   by intros; exact eq_ld rfl rfl,
   by intros; exact eq_ld rfl rfl,
   by intros; exact eq_ld rfl rfl,
   by intros; exact eq_cv rfl (Nat.le_of_ble_eq_true rfl) rfl rfl rfl (Nat.le_of_ble_eq_true rfl),
   by intros; exact eq_pop rfl (by decide)⟩
theorem rw_X7_noteTold_1 :
  (∀ (d : Nat) (l0 l1 l2 l3 l4 l5 : Option mx_V) (S h : mx_H) (n : Int), mx_ex d 64 124 [l0, l1, l2, l3, l4, l5] [] S h n = mx_ex d 64 125 [l0, l1, l2, l3, l4, l5] [(0, 1)] S h n) ∧
  (∀ (d : Nat) (x : Int) (l0 l1 l2 l3 l4 l5 : Option mx_V) (S h : mx_H) (n : Int), mx_ex d 64 125 [l0, l1, l2, l3, l4, l5] [(0, x)] S h n = mx_re (0 ≤ x ∧ x ≤ 1) (some (0, x)) S h n) :=
  ⟨by intros; exact eq_push rfl,
   by intros; exact eq_rr rfl⟩
theorem rh_X7_marksTold_2 : ∀ (d : Nat) (x : Int) (l0 : Option mx_V) (S h : mx_H) (n : Int), mx_ex d 65 2 [l0, some (0, x)] [] S h n = mx_ex d 65 3 [l0, some (0, x)] [(0, x)] S h n := by intros; exact eq_ld rfl rfl
theorem rw_X7_marksTold :
  (∀ (d : Nat) (a0 : Int) (S h : mx_H) (n : Int), mx_M d 65 [(2, a0)] S h n = mx_ex d 65 0 [some (2, a0), none] [] S h n) ∧
  (∀ (d : Nat) (l0 l1 : Option mx_V) (S h : mx_H) (n : Int), mx_ex d 65 0 [l0, l1] [] S h n = mx_ex d 65 1 [l0, l1] [(0, 0)] S h n) ∧
  (∀ (d : Nat) (x : Int) (l0 l1 : Option mx_V) (S h : mx_H) (n : Int), mx_ex d 65 1 [l0, l1] [(0, x)] S h n = mx_ex d 65 2 [mx_nl l0, some (0, x)] [] S h n) ∧
  (∀ (d : Nat) (l0 l1 : Option mx_V) (v0 : mx_V) (S h : mx_H) (n : Int), mx_ex d 65 3 [l0, l1] [v0] S h n = mx_ex d 65 5 [l0, l1] [(0, 6), v0] S h n) ∧
  (∀ (d : Nat) (b a : Int) (l0 l1 : Option mx_V) (S h : mx_H) (n : Int), mx_ex d 65 5 [l0, l1] [(0, b), (0, a)] S h n = mx_br (a < b) d 65 8 51 [l0, l1] [] S h n) ∧
  (∀ (d : Nat) (x : Int) (l1 : Option mx_V) (S h : mx_H) (n : Int), mx_ex d 65 8 [some (2, x), l1] [] S h n = mx_ex d 65 9 [some (2, x), l1] [(2, x)] S h n) ∧
  (∀ (d : Nat) (a : Int) (l0 l1 : Option mx_V) (S h : mx_H) (n : Int), mx_ex d 65 9 [l0, l1] [(2, a)] S h n = mx_gd (10 ≤ S a (-2) ∧ S a (-2) ≤ 10) d 65 12 [l0, l1] [(2, S a 2)] S h n) ∧
  (∀ (d : Nat) (x : Int) (l0 : Option mx_V) (v0 : mx_V) (S h : mx_H) (n : Int), mx_ex d 65 12 [l0, some (0, x)] [v0] S h n = mx_ex d 65 13 [l0, some (0, x)] [(0, x), v0] S h n) ∧
  (∀ (d : Nat) (x : Int) (l1 : Option mx_V) (v0 v1 : mx_V) (S h : mx_H) (n : Int), mx_ex d 65 13 [some (2, x), l1] [v0, v1] S h n = mx_ex d 65 14 [some (2, x), l1] [(2, x), v0, v1] S h n) ∧
  (∀ (d : Nat) (l0 l1 : Option mx_V) (v0 v1 v2 : mx_V) (S h : mx_H) (n : Int), mx_ex d 65 14 [l0, l1] [v0, v1, v2] S h n = mx_ex d 65 15 [l0, l1] [(0, 0), v0, v1, v2] S h n) ∧
  (∀ (d : Nat) (l0 l1 : Option mx_V) (v0 v1 v2 v3 : mx_V) (S h : mx_H) (n : Int), mx_ex d 65 15 [l0, l1] [v0, v1, v2, v3] S h n = mx_ex d 65 17 [l0, l1] [(0, 15), v0, v1, v2, v3] S h n) ∧
  (∀ (d : Nat) (x0 x1 a : Int) (l0 l1 : Option mx_V) (v3 v4 : mx_V) (S h : mx_H) (n : Int), mx_ex (d + 1) 65 17 [l0, l1] [(0, x0), (0, x1), (2, a), v3, v4] S h n = mx_cl (S a (-2) = 10) d 68 [(2, a), (0, x1), (0, x0)] 65 20 [l0, l1] [v3, v4] S h n) ∧
  (∀ (d : Nat) (v i a : Int) (l0 l1 : Option mx_V) (S h : mx_H) (n : Int), mx_ex d 65 20 [l0, l1] [(0, v), (0, i), (2, a)] S h n = mx_gd (S a (-2) = 20 ∧ 0 ≤ i ∧ i < S a (-1)) d 65 21 [l0, l1] [] S (mx_u h a i v) n) ∧
  (∀ (d : Nat) (x : Int) (l1 : Option mx_V) (S h : mx_H) (n : Int), mx_ex d 65 21 [some (2, x), l1] [] S h n = mx_ex d 65 22 [some (2, x), l1] [(2, x)] S h n) ∧
  (∀ (d : Nat) (a : Int) (l0 l1 : Option mx_V) (S h : mx_H) (n : Int), mx_ex d 65 22 [l0, l1] [(2, a)] S h n = mx_gd (10 ≤ S a (-2) ∧ S a (-2) ≤ 10) d 65 25 [l0, l1] [(2, S a 2)] S h n) ∧
  (∀ (d : Nat) (x : Int) (l0 : Option mx_V) (v0 : mx_V) (S h : mx_H) (n : Int), mx_ex d 65 25 [l0, some (0, x)] [v0] S h n = mx_ex d 65 26 [l0, some (0, x)] [(0, x), v0] S h n) ∧
  (∀ (d : Nat) (i a : Int) (l0 l1 : Option mx_V) (S h : mx_H) (n : Int), mx_ex d 65 26 [l0, l1] [(0, i), (2, a)] S h n = mx_gd ((S a (-2) = 20 ∨ S a (-2) = 24) ∧ 0 ≤ i ∧ i < S a (-1)) d 65 27 [l0, l1] [(0, h a i)] S h n) ∧
  (∀ (d : Nat) (a : Int) (l0 l1 : Option mx_V) (S h : mx_H) (n : Int), mx_ex d 65 27 [l0, l1] [(0, a)] S h n = mx_br (a < 0) d 65 30 32 [l0, l1] [] S h n) ∧
  (∀ (d : Nat) (l0 l1 : Option mx_V) (S h : mx_H) (n : Int), mx_ex d 65 30 [l0, l1] [] S h n = mx_ex d 65 31 [l0, l1] [(0, 0)] S h n) ∧
  (∀ (d : Nat) (x : Int) (l0 l1 : Option mx_V) (S h : mx_H) (n : Int), mx_ex d 65 31 [l0, l1] [(0, x)] S h n = some (some (0, x), S, h, n)) ∧
  (∀ (d : Nat) (x : Int) (l1 : Option mx_V) (S h : mx_H) (n : Int), mx_ex d 65 32 [some (2, x), l1] [] S h n = mx_ex d 65 33 [some (2, x), l1] [(2, x)] S h n) ∧
  (∀ (d : Nat) (l0 l1 : Option mx_V) (v0 : mx_V) (S h : mx_H) (n : Int), mx_ex d 65 33 [l0, l1] [v0] S h n = mx_ex d 65 35 [l0, l1] [(0, 44), v0] S h n) ∧
  (∀ (d : Nat) (x0 a : Int) (l0 l1 : Option mx_V) (S h : mx_H) (n : Int), mx_ex (d + 1) 65 35 [l0, l1] [(0, x0), (2, a)] S h n = mx_cl (S a (-2) = 10) d 69 [(2, a), (0, x0)] 65 38 [l0, l1] [] S h n) ∧
  (∀ (d : Nat) (a : Int) (l0 l1 : Option mx_V) (S h : mx_H) (n : Int), mx_ex d 65 38 [l0, l1] [(0, a)] S h n = mx_br (a = 0) d 65 41 45 [l0, l1] [] S h n) ∧
  (∀ (d : Nat) (x : Int) (l0 : Option mx_V) (S h : mx_H) (n : Int), mx_ex d 65 41 [l0, some (0, x)] [] S h n = mx_ex d 65 42 [l0, some (0, x)] [(0, x)] S h n) ∧
  (∀ (d : Nat) (l0 l1 : Option mx_V) (v0 : mx_V) (S h : mx_H) (n : Int), mx_ex d 65 42 [l0, l1] [v0] S h n = mx_ex d 65 43 [l0, l1] [(0, 1), v0] S h n) ∧
  (∀ (d : Nat) (b a : Int) (l0 l1 : Option mx_V) (S h : mx_H) (n : Int), mx_ex d 65 43 [l0, l1] [(0, b), (0, a)] S h n = mx_ex d 65 44 [l0, l1] [(0, mx_w (a + b))] S h n) ∧
  (∀ (d : Nat) (x : Int) (l0 l1 : Option mx_V) (S h : mx_H) (n : Int), mx_ex d 65 44 [l0, l1] [(0, x)] S h n = some (some (0, x), S, h, n)) ∧
  (∀ (d : Nat) (x : Int) (l0 : Option mx_V) (S h : mx_H) (n : Int), mx_ex d 65 45 [l0, some (0, x)] [] S h n = mx_ex d 65 48 [mx_nl l0, some (0, mx_w (x + 1))] [] S h n) ∧
  (∀ (d : Nat) (l0 l1 : Option mx_V) (S h : mx_H) (n : Int), mx_ex d 65 48 [l0, l1] [] S h n = mx_ex d 65 2 [l0, l1] [] S h n) ∧
  (∀ (d : Nat) (l0 l1 : Option mx_V) (S h : mx_H) (n : Int), mx_ex d 65 51 [l0, l1] [] S h n = mx_ex d 65 52 [l0, l1] [(0, 0)] S h n) ∧
  (∀ (d : Nat) (x : Int) (l0 l1 : Option mx_V) (S h : mx_H) (n : Int), mx_ex d 65 52 [l0, l1] [(0, x)] S h n = some (some (0, x), S, h, n)) :=
  ⟨by intros; exact rfl,
   by intros; exact eq_push rfl,
   by intros; exact eq_st rfl (by decide) (Nat.le_of_ble_eq_true rfl) rfl,
   by intros; exact eq_push rfl,
   by intros; exact eq_ic3 rfl,
   by intros; exact eq_ld rfl rfl,
   by intros; exact eq_gr rfl,
   by intros; exact eq_ld rfl rfl,
   by intros; exact eq_ld rfl rfl,
   by intros; exact eq_push rfl,
   by intros; exact eq_push rfl,
   by intros; exact eq_cv rfl (Nat.le_of_ble_eq_true rfl) rfl rfl rfl (Nat.le_of_ble_eq_true rfl),
   by intros; exact eq_iast rfl,
   by intros; exact eq_ld rfl rfl,
   by intros; exact eq_gr rfl,
   by intros; exact eq_ld rfl rfl,
   by intros; exact eq_iald rfl,
   by intros; exact eq_if3 rfl,
   by intros; exact eq_push rfl,
   by intros; exact eq_ret rfl,
   by intros; exact eq_ld rfl rfl,
   by intros; exact eq_push rfl,
   by intros; exact eq_cv rfl (Nat.le_of_ble_eq_true rfl) rfl rfl rfl (Nat.le_of_ble_eq_true rfl),
   by intros; exact eq_if1 rfl,
   by intros; exact eq_ld rfl rfl,
   by intros; exact eq_push rfl,
   by intros; exact eq_i2 (o := mx_add) rfl,
   by intros; exact eq_ret rfl,
   by intros; exact eq_inc rfl rfl rfl,
   by intros; exact eq_go rfl,
   by intros; exact eq_push rfl,
   by intros; exact eq_ret rfl⟩
theorem rw_X7_eveningTold :
  (∀ (d : Nat) (a0 : Int) (S h : mx_H) (n : Int), mx_M d 66 [(2, a0)] S h n = mx_ex d 66 0 [some (2, a0), none, none, none] [] S h n) ∧
  (∀ (d : Nat) (x : Int) (l1 l2 l3 : Option mx_V) (S h : mx_H) (n : Int), mx_ex d 66 0 [some (2, x), l1, l2, l3] [] S h n = mx_ex d 66 1 [some (2, x), l1, l2, l3] [(2, x)] S h n) ∧
  (∀ (d : Nat) (a : Int) (l0 l1 l2 l3 : Option mx_V) (S h : mx_H) (n : Int), mx_ex (d + 1) 66 1 [l0, l1, l2, l3] [(2, a)] S h n = mx_cl (S a (-2) = 10) d 71 [(2, a)] 66 4 [l0, l1, l2, l3] [] S h n) ∧
  (∀ (d : Nat) (x : Int) (l1 l2 l3 : Option mx_V) (S h : mx_H) (n : Int), mx_ex d 66 4 [some (2, x), l1, l2, l3] [] S h n = mx_ex d 66 5 [some (2, x), l1, l2, l3] [(2, x)] S h n) ∧
  (∀ (d : Nat) (l0 l1 l2 l3 : Option mx_V) (v0 : mx_V) (S h : mx_H) (n : Int), mx_ex d 66 5 [l0, l1, l2, l3] [v0] S h n = mx_ex d 66 6 [l0, l1, l2, l3] [(0, 0), v0] S h n) ∧
  (∀ (d : Nat) (l0 l1 l2 l3 : Option mx_V) (v0 v1 : mx_V) (S h : mx_H) (n : Int), mx_ex d 66 6 [l0, l1, l2, l3] [v0, v1] S h n = mx_ex d 66 7 [l0, l1, l2, l3] [(0, 2), v0, v1] S h n) ∧
  (∀ (d : Nat) (x0 x1 a : Int) (l0 l1 l2 l3 : Option mx_V) (S h : mx_H) (n : Int), mx_ex (d + 1) 66 7 [l0, l1, l2, l3] [(0, x0), (0, x1), (2, a)] S h n = mx_cl (S a (-2) = 10) d 68 [(2, a), (0, x1), (0, x0)] 66 10 [l0, l1, l2, l3] [] S h n) ∧
  (∀ (d : Nat) (x : Int) (l0 l1 l2 l3 : Option mx_V) (S h : mx_H) (n : Int), mx_ex d 66 10 [l0, l1, l2, l3] [(0, x)] S h n = mx_ex d 66 11 [mx_nl l0, some (0, x), l2, l3] [] S h n) ∧
  (∀ (d : Nat) (x : Int) (l0 l2 l3 : Option mx_V) (S h : mx_H) (n : Int), mx_ex d 66 11 [l0, some (0, x), l2, l3] [] S h n = mx_ex d 66 12 [l0, some (0, x), l2, l3] [(0, x)] S h n) ∧
  (∀ (d : Nat) (a : Int) (l0 l1 l2 l3 : Option mx_V) (S h : mx_H) (n : Int), mx_ex d 66 12 [l0, l1, l2, l3] [(0, a)] S h n = mx_br (a < 0) d 66 15 17 [l0, l1, l2, l3] [] S h n) ∧
  (∀ (d : Nat) (l0 l1 l2 l3 : Option mx_V) (S h : mx_H) (n : Int), mx_ex d 66 15 [l0, l1, l2, l3] [] S h n = mx_ex d 66 16 [l0, l1, l2, l3] [(0, 0)] S h n) ∧
  (∀ (d : Nat) (x : Int) (l0 l1 l2 l3 : Option mx_V) (S h : mx_H) (n : Int), mx_ex d 66 16 [l0, l1, l2, l3] [(0, x)] S h n = mx_re (0 ≤ x ∧ x ≤ 1) (some (0, x)) S h n) ∧
  (∀ (d : Nat) (x : Int) (l1 l2 l3 : Option mx_V) (S h : mx_H) (n : Int), mx_ex d 66 17 [some (2, x), l1, l2, l3] [] S h n = mx_ex d 66 18 [some (2, x), l1, l2, l3] [(2, x)] S h n) ∧
  (∀ (d : Nat) (l0 l1 l2 l3 : Option mx_V) (v0 : mx_V) (S h : mx_H) (n : Int), mx_ex d 66 18 [l0, l1, l2, l3] [v0] S h n = mx_ex d 66 19 [l0, l1, l2, l3] [(0, 2), v0] S h n) ∧
  (∀ (d : Nat) (l0 l1 l2 l3 : Option mx_V) (v0 v1 : mx_V) (S h : mx_H) (n : Int), mx_ex d 66 19 [l0, l1, l2, l3] [v0, v1] S h n = mx_ex d 66 21 [l0, l1, l2, l3] [(0, 16), v0, v1] S h n) ∧
  (∀ (d : Nat) (x0 x1 a : Int) (l0 l1 l2 l3 : Option mx_V) (S h : mx_H) (n : Int), mx_ex (d + 1) 66 21 [l0, l1, l2, l3] [(0, x0), (0, x1), (2, a)] S h n = mx_cl (S a (-2) = 10) d 68 [(2, a), (0, x1), (0, x0)] 66 24 [l0, l1, l2, l3] [] S h n) ∧
  (∀ (d : Nat) (x : Int) (l0 l1 l2 l3 : Option mx_V) (S h : mx_H) (n : Int), mx_ex d 66 24 [l0, l1, l2, l3] [(0, x)] S h n = mx_ex d 66 25 [l0, mx_nl l1, some (0, x), l3] [] S h n) ∧
  (∀ (d : Nat) (x : Int) (l0 l1 l3 : Option mx_V) (S h : mx_H) (n : Int), mx_ex d 66 25 [l0, l1, some (0, x), l3] [] S h n = mx_ex d 66 26 [l0, l1, some (0, x), l3] [(0, x)] S h n) ∧
  (∀ (d : Nat) (a : Int) (l0 l1 l2 l3 : Option mx_V) (S h : mx_H) (n : Int), mx_ex d 66 26 [l0, l1, l2, l3] [(0, a)] S h n = mx_br (a < 0) d 66 29 31 [l0, l1, l2, l3] [] S h n) ∧
  (∀ (d : Nat) (l0 l1 l2 l3 : Option mx_V) (S h : mx_H) (n : Int), mx_ex d 66 29 [l0, l1, l2, l3] [] S h n = mx_ex d 66 30 [l0, l1, l2, l3] [(0, 0)] S h n) ∧
  (∀ (d : Nat) (x : Int) (l0 l1 l2 l3 : Option mx_V) (S h : mx_H) (n : Int), mx_ex d 66 30 [l0, l1, l2, l3] [(0, x)] S h n = mx_re (0 ≤ x ∧ x ≤ 1) (some (0, x)) S h n) ∧
  (∀ (d : Nat) (x : Int) (l1 l2 l3 : Option mx_V) (S h : mx_H) (n : Int), mx_ex d 66 31 [some (2, x), l1, l2, l3] [] S h n = mx_ex d 66 32 [some (2, x), l1, l2, l3] [(2, x)] S h n) ∧
  (∀ (d : Nat) (x : Int) (l0 l1 l3 : Option mx_V) (v0 : mx_V) (S h : mx_H) (n : Int), mx_ex d 66 32 [l0, l1, some (0, x), l3] [v0] S h n = mx_ex d 66 33 [l0, l1, some (0, x), l3] [(0, x), v0] S h n) ∧
  (∀ (d : Nat) (l0 l1 l2 l3 : Option mx_V) (v0 v1 : mx_V) (S h : mx_H) (n : Int), mx_ex d 66 33 [l0, l1, l2, l3] [v0, v1] S h n = mx_ex d 66 35 [l0, l1, l2, l3] [(0, 16), v0, v1] S h n) ∧
  (∀ (d : Nat) (x0 x1 a : Int) (l0 l1 l2 l3 : Option mx_V) (S h : mx_H) (n : Int), mx_ex (d + 1) 66 35 [l0, l1, l2, l3] [(0, x0), (0, x1), (2, a)] S h n = mx_cl (S a (-2) = 10) d 68 [(2, a), (0, x1), (0, x0)] 66 38 [l0, l1, l2, l3] [] S h n) ∧
  (∀ (d : Nat) (x : Int) (l0 l1 l2 l3 : Option mx_V) (S h : mx_H) (n : Int), mx_ex d 66 38 [l0, l1, l2, l3] [(0, x)] S h n = mx_ex d 66 39 [l0, l1, mx_nl l2, some (0, x)] [] S h n) ∧
  (∀ (d : Nat) (x : Int) (l0 l1 l2 : Option mx_V) (S h : mx_H) (n : Int), mx_ex d 66 39 [l0, l1, l2, some (0, x)] [] S h n = mx_ex d 66 40 [l0, l1, l2, some (0, x)] [(0, x)] S h n) ∧
  (∀ (d : Nat) (a : Int) (l0 l1 l2 l3 : Option mx_V) (S h : mx_H) (n : Int), mx_ex d 66 40 [l0, l1, l2, l3] [(0, a)] S h n = mx_br (a < 0) d 66 52 43 [l0, l1, l2, l3] [] S h n) ∧
  (∀ (d : Nat) (x : Int) (l1 l2 l3 : Option mx_V) (S h : mx_H) (n : Int), mx_ex d 66 43 [some (2, x), l1, l2, l3] [] S h n = mx_ex d 66 44 [some (2, x), l1, l2, l3] [(2, x)] S h n) ∧
  (∀ (d : Nat) (l0 l1 l2 l3 : Option mx_V) (v0 : mx_V) (S h : mx_H) (n : Int), mx_ex d 66 44 [l0, l1, l2, l3] [v0] S h n = mx_ex d 66 46 [l0, l1, l2, l3] [(0, 59), v0] S h n) ∧
  (∀ (d : Nat) (x0 a : Int) (l0 l1 l2 l3 : Option mx_V) (S h : mx_H) (n : Int), mx_ex (d + 1) 66 46 [l0, l1, l2, l3] [(0, x0), (2, a)] S h n = mx_cl (S a (-2) = 10) d 69 [(2, a), (0, x0)] 66 49 [l0, l1, l2, l3] [] S h n) ∧
  (∀ (d : Nat) (a : Int) (l0 l1 l2 l3 : Option mx_V) (S h : mx_H) (n : Int), mx_ex d 66 49 [l0, l1, l2, l3] [(0, a)] S h n = mx_br (a = 0) d 66 52 54 [l0, l1, l2, l3] [] S h n) ∧
  (∀ (d : Nat) (l0 l1 l2 l3 : Option mx_V) (S h : mx_H) (n : Int), mx_ex d 66 52 [l0, l1, l2, l3] [] S h n = mx_ex d 66 53 [l0, l1, l2, l3] [(0, 0)] S h n) ∧
  (∀ (d : Nat) (x : Int) (l0 l1 l2 l3 : Option mx_V) (S h : mx_H) (n : Int), mx_ex d 66 53 [l0, l1, l2, l3] [(0, x)] S h n = mx_re (0 ≤ x ∧ x ≤ 1) (some (0, x)) S h n) ∧
  (∀ (d : Nat) (x : Int) (l1 l2 l3 : Option mx_V) (S h : mx_H) (n : Int), mx_ex d 66 54 [some (2, x), l1, l2, l3] [] S h n = mx_ex d 66 55 [some (2, x), l1, l2, l3] [(2, x)] S h n) ∧
  (∀ (d : Nat) (a : Int) (l0 l1 l2 l3 : Option mx_V) (S h : mx_H) (n : Int), mx_ex d 66 55 [l0, l1, l2, l3] [(2, a)] S h n = mx_gd (10 ≤ S a (-2) ∧ S a (-2) ≤ 10) d 66 58 [l0, l1, l2, l3] [(2, S a 0)] S h n) ∧
  (∀ (d : Nat) (x : Int) (l0 l2 l3 : Option mx_V) (v0 : mx_V) (S h : mx_H) (n : Int), mx_ex d 66 58 [l0, some (0, x), l2, l3] [v0] S h n = mx_ex d 66 59 [l0, some (0, x), l2, l3] [(0, x), v0] S h n) ∧
  (∀ (d : Nat) (x : Int) (l0 l1 l3 : Option mx_V) (v0 v1 : mx_V) (S h : mx_H) (n : Int), mx_ex d 66 59 [l0, l1, some (0, x), l3] [v0, v1] S h n = mx_ex d 66 60 [l0, l1, some (0, x), l3] [(0, x), v0, v1] S h n) ∧
  (∀ (d : Nat) (x : Int) (l0 l1 l2 : Option mx_V) (v0 v1 v2 : mx_V) (S h : mx_H) (n : Int), mx_ex d 66 60 [l0, l1, l2, some (0, x)] [v0, v1, v2] S h n = mx_ex d 66 61 [l0, l1, l2, some (0, x)] [(0, x), v0, v1, v2] S h n) ∧
  (∀ (d : Nat) (x0 x1 x2 a : Int) (l0 l1 l2 l3 : Option mx_V) (S h : mx_H) (n : Int), mx_ex (d + 1) 66 61 [l0, l1, l2, l3] [(0, x0), (0, x1), (0, x2), (2, a)] S h n = mx_cl (S a (-2) = 8) d 88 [(2, a), (0, x2), (0, x1), (0, x0)] 66 64 [l0, l1, l2, l3] [] S h n) ∧
  (∀ (d : Nat) (l0 l1 l2 l3 : Option mx_V) (S h : mx_H) (n : Int), mx_ex d 66 64 [l0, l1, l2, l3] [] S h n = mx_ex d 66 65 [l0, l1, l2, l3] [(0, 1)] S h n) ∧
  (∀ (d : Nat) (x : Int) (l0 l1 l2 l3 : Option mx_V) (S h : mx_H) (n : Int), mx_ex d 66 65 [l0, l1, l2, l3] [(0, x)] S h n = mx_re (0 ≤ x ∧ x ≤ 1) (some (0, x)) S h n) :=
  ⟨by intros; exact rfl,
   by intros; exact eq_ld rfl rfl,
   by intros; exact eq_cv rfl (Nat.le_of_ble_eq_true rfl) rfl rfl rfl (Nat.le_of_ble_eq_true rfl),
   by intros; exact eq_ld rfl rfl,
   by intros; exact eq_push rfl,
   by intros; exact eq_push rfl,
   by intros; exact eq_cv rfl (Nat.le_of_ble_eq_true rfl) rfl rfl rfl (Nat.le_of_ble_eq_true rfl),
   by intros; exact eq_st rfl (by decide) (Nat.le_of_ble_eq_true rfl) rfl,
   by intros; exact eq_ld rfl rfl,
   by intros; exact eq_if3 rfl,
   by intros; exact eq_push rfl,
   by intros; exact eq_rr rfl,
   by intros; exact eq_ld rfl rfl,
   by intros; exact eq_push rfl,
   by intros; exact eq_push rfl,
   by intros; exact eq_cv rfl (Nat.le_of_ble_eq_true rfl) rfl rfl rfl (Nat.le_of_ble_eq_true rfl),
   by intros; exact eq_st rfl (by decide) (Nat.le_of_ble_eq_true rfl) rfl,
   by intros; exact eq_ld rfl rfl,
   by intros; exact eq_if3 rfl,
   by intros; exact eq_push rfl,
   by intros; exact eq_rr rfl,
   by intros; exact eq_ld rfl rfl,
   by intros; exact eq_ld rfl rfl,
   by intros; exact eq_push rfl,
   by intros; exact eq_cv rfl (Nat.le_of_ble_eq_true rfl) rfl rfl rfl (Nat.le_of_ble_eq_true rfl),
   by intros; exact eq_st rfl (by decide) (Nat.le_of_ble_eq_true rfl) rfl,
   by intros; exact eq_ld rfl rfl,
   by intros; exact eq_if2 rfl,
   by intros; exact eq_ld rfl rfl,
   by intros; exact eq_push rfl,
   by intros; exact eq_cv rfl (Nat.le_of_ble_eq_true rfl) rfl rfl rfl (Nat.le_of_ble_eq_true rfl),
   by intros; exact eq_if1 rfl,
   by intros; exact eq_push rfl,
   by intros; exact eq_rr rfl,
   by intros; exact eq_ld rfl rfl,
   by intros; exact eq_gr rfl,
   by intros; exact eq_ld rfl rfl,
   by intros; exact eq_ld rfl rfl,
   by intros; exact eq_ld rfl rfl,
   by intros; exact eq_cv rfl (Nat.le_of_ble_eq_true rfl) rfl rfl rfl (Nat.le_of_ble_eq_true rfl),
   by intros; exact eq_push rfl,
   by intros; exact eq_rr rfl⟩
theorem rw_X7_lineTold :
  (∀ (d : Nat) (a0 a1 : Int) (S h : mx_H) (n : Int), mx_M d 67 [(2, a0), (0, a1)] S h n = mx_ex d 67 0 [some (2, a0), some (0, a1), none, none, none, none] [] S h n) ∧
  (∀ (d : Nat) (x : Int) (l1 l2 l3 l4 l5 : Option mx_V) (S h : mx_H) (n : Int), mx_ex d 67 0 [some (2, x), l1, l2, l3, l4, l5] [] S h n = mx_ex d 67 1 [some (2, x), l1, l2, l3, l4, l5] [(2, x)] S h n) ∧
  (∀ (d : Nat) (a : Int) (l0 l1 l2 l3 l4 l5 : Option mx_V) (S h : mx_H) (n : Int), mx_ex d 67 1 [l0, l1, l2, l3, l4, l5] [(2, a)] S h n = mx_gd (10 ≤ S a (-2) ∧ S a (-2) ≤ 10) d 67 4 [l0, l1, l2, l3, l4, l5] [(2, S a 0)] S h n) ∧
  (∀ (d : Nat) (a : Int) (l0 l1 l2 l3 l4 l5 : Option mx_V) (S h : mx_H) (n : Int), mx_ex d 67 4 [l0, l1, l2, l3, l4, l5] [(2, a)] S h n = mx_gd (8 ≤ S a (-2) ∧ S a (-2) ≤ 8) d 67 7 [l0, l1, l2, l3, l4, l5] [(0, h a 4)] S h n) ∧
  (∀ (d : Nat) (l0 l1 l2 l3 l4 l5 : Option mx_V) (v0 : mx_V) (S h : mx_H) (n : Int), mx_ex d 67 7 [l0, l1, l2, l3, l4, l5] [v0] S h n = mx_ex d 67 9 [l0, l1, l2, l3, l4, l5] [(0, 6), v0] S h n) ∧
  (∀ (d : Nat) (b a : Int) (l0 l1 l2 l3 l4 l5 : Option mx_V) (S h : mx_H) (n : Int), mx_ex d 67 9 [l0, l1, l2, l3, l4, l5] [(0, b), (0, a)] S h n = mx_br (a < b) d 67 14 12 [l0, l1, l2, l3, l4, l5] [] S h n) ∧
  (∀ (d : Nat) (l0 l1 l2 l3 l4 l5 : Option mx_V) (S h : mx_H) (n : Int), mx_ex d 67 12 [l0, l1, l2, l3, l4, l5] [] S h n = mx_ex d 67 13 [l0, l1, l2, l3, l4, l5] [(0, 0)] S h n) ∧
  (∀ (d : Nat) (x : Int) (l0 l1 l2 l3 l4 l5 : Option mx_V) (S h : mx_H) (n : Int), mx_ex d 67 13 [l0, l1, l2, l3, l4, l5] [(0, x)] S h n = mx_re (0 ≤ x ∧ x ≤ 1) (some (0, x)) S h n) ∧
  (∀ (d : Nat) (x : Int) (l1 l2 l3 l4 l5 : Option mx_V) (S h : mx_H) (n : Int), mx_ex d 67 14 [some (2, x), l1, l2, l3, l4, l5] [] S h n = mx_ex d 67 15 [some (2, x), l1, l2, l3, l4, l5] [(2, x)] S h n) ∧
  (∀ (d : Nat) (a : Int) (l0 l1 l2 l3 l4 l5 : Option mx_V) (S h : mx_H) (n : Int), mx_ex (d + 1) 67 15 [l0, l1, l2, l3, l4, l5] [(2, a)] S h n = mx_cl (S a (-2) = 10) d 71 [(2, a)] 67 18 [l0, l1, l2, l3, l4, l5] [] S h n) ∧
  (∀ (d : Nat) (x : Int) (l1 l2 l3 l4 l5 : Option mx_V) (S h : mx_H) (n : Int), mx_ex d 67 18 [some (2, x), l1, l2, l3, l4, l5] [] S h n = mx_ex d 67 19 [some (2, x), l1, l2, l3, l4, l5] [(2, x)] S h n) ∧
  (∀ (d : Nat) (a : Int) (l0 l1 l2 l3 l4 l5 : Option mx_V) (S h : mx_H) (n : Int), mx_ex d 67 19 [l0, l1, l2, l3, l4, l5] [(2, a)] S h n = mx_gd (10 ≤ S a (-2) ∧ S a (-2) ≤ 10) d 67 22 [l0, l1, l2, l3, l4, l5] [(2, S a 0)] S h n) ∧
  (∀ (d : Nat) (a : Int) (l0 l1 l2 l3 l4 l5 : Option mx_V) (S h : mx_H) (n : Int), mx_ex d 67 22 [l0, l1, l2, l3, l4, l5] [(2, a)] S h n = mx_gd (8 ≤ S a (-2) ∧ S a (-2) ≤ 8) d 67 25 [l0, l1, l2, l3, l4, l5] [(0, h a 3)] S h n) ∧
  (∀ (d : Nat) (l0 l1 l2 l3 l4 l5 : Option mx_V) (v0 : mx_V) (S h : mx_H) (n : Int), mx_ex d 67 25 [l0, l1, l2, l3, l4, l5] [v0] S h n = mx_ex d 67 26 [l0, l1, l2, l3, l4, l5] [(0, 1), v0] S h n) ∧
  (∀ (d : Nat) (b a : Int) (l0 l1 l2 l3 l4 l5 : Option mx_V) (S h : mx_H) (n : Int), mx_ex d 67 26 [l0, l1, l2, l3, l4, l5] [(0, b), (0, a)] S h n = mx_ex d 67 27 [l0, l1, l2, l3, l4, l5] [(0, mx_w (a - b))] S h n) ∧
  (∀ (d : Nat) (x : Int) (l0 l1 l2 l3 l4 l5 : Option mx_V) (S h : mx_H) (n : Int), mx_ex d 67 27 [l0, l1, l2, l3, l4, l5] [(0, x)] S h n = mx_ex d 67 28 [l0, mx_nl l1, some (0, x), l3, l4, l5] [] S h n) ∧
  (∀ (d : Nat) (x : Int) (l1 l2 l3 l4 l5 : Option mx_V) (S h : mx_H) (n : Int), mx_ex d 67 28 [some (2, x), l1, l2, l3, l4, l5] [] S h n = mx_ex d 67 29 [some (2, x), l1, l2, l3, l4, l5] [(2, x)] S h n) ∧
  (∀ (d : Nat) (l0 l1 l2 l3 l4 l5 : Option mx_V) (v0 : mx_V) (S h : mx_H) (n : Int), mx_ex d 67 29 [l0, l1, l2, l3, l4, l5] [v0] S h n = mx_ex d 67 30 [l0, l1, l2, l3, l4, l5] [(0, 0), v0] S h n) ∧
  (∀ (d : Nat) (x : Int) (l0 l1 l3 l4 l5 : Option mx_V) (v0 v1 : mx_V) (S h : mx_H) (n : Int), mx_ex d 67 30 [l0, l1, some (0, x), l3, l4, l5] [v0, v1] S h n = mx_ex d 67 31 [l0, l1, some (0, x), l3, l4, l5] [(0, x), v0, v1] S h n) ∧
  (∀ (d : Nat) (x0 x1 a : Int) (l0 l1 l2 l3 l4 l5 : Option mx_V) (S h : mx_H) (n : Int), mx_ex (d + 1) 67 31 [l0, l1, l2, l3, l4, l5] [(0, x0), (0, x1), (2, a)] S h n = mx_cl (S a (-2) = 10) d 68 [(2, a), (0, x1), (0, x0)] 67 34 [l0, l1, l2, l3, l4, l5] [] S h n) ∧
  (∀ (d : Nat) (x : Int) (l0 l1 l2 l3 l4 l5 : Option mx_V) (S h : mx_H) (n : Int), mx_ex d 67 34 [l0, l1, l2, l3, l4, l5] [(0, x)] S h n = mx_ex d 67 35 [l0, l1, mx_nl l2, some (0, x), l4, l5] [] S h n) ∧
  (∀ (d : Nat) (x : Int) (l0 l1 l2 l4 l5 : Option mx_V) (S h : mx_H) (n : Int), mx_ex d 67 35 [l0, l1, l2, some (0, x), l4, l5] [] S h n = mx_ex d 67 36 [l0, l1, l2, some (0, x), l4, l5] [(0, x)] S h n) ∧
  (∀ (d : Nat) (a : Int) (l0 l1 l2 l3 l4 l5 : Option mx_V) (S h : mx_H) (n : Int), mx_ex d 67 36 [l0, l1, l2, l3, l4, l5] [(0, a)] S h n = mx_br (a < 0) d 67 39 41 [l0, l1, l2, l3, l4, l5] [] S h n) ∧
  (∀ (d : Nat) (l0 l1 l2 l3 l4 l5 : Option mx_V) (S h : mx_H) (n : Int), mx_ex d 67 39 [l0, l1, l2, l3, l4, l5] [] S h n = mx_ex d 67 40 [l0, l1, l2, l3, l4, l5] [(0, 0)] S h n) ∧
  (∀ (d : Nat) (x : Int) (l0 l1 l2 l3 l4 l5 : Option mx_V) (S h : mx_H) (n : Int), mx_ex d 67 40 [l0, l1, l2, l3, l4, l5] [(0, x)] S h n = mx_re (0 ≤ x ∧ x ≤ 1) (some (0, x)) S h n) ∧
  (∀ (d : Nat) (x : Int) (l0 l2 l3 l4 l5 : Option mx_V) (S h : mx_H) (n : Int), mx_ex d 67 41 [l0, some (0, x), l2, l3, l4, l5] [] S h n = mx_ex d 67 42 [l0, some (0, x), l2, l3, l4, l5] [(0, x)] S h n) ∧
  (∀ (d : Nat) (l0 l1 l2 l3 l4 l5 : Option mx_V) (v0 : mx_V) (S h : mx_H) (n : Int), mx_ex d 67 42 [l0, l1, l2, l3, l4, l5] [v0] S h n = mx_ex d 67 43 [l0, l1, l2, l3, l4, l5] [(0, 3), v0] S h n) ∧
  (∀ (d : Nat) (b a : Int) (l0 l1 l2 l3 l4 l5 : Option mx_V) (S h : mx_H) (n : Int), mx_ex d 67 43 [l0, l1, l2, l3, l4, l5] [(0, b), (0, a)] S h n = mx_br (a = b) d 67 46 50 [l0, l1, l2, l3, l4, l5] [] S h n) ∧
  (∀ (d : Nat) (l0 l1 l2 l3 l4 l5 : Option mx_V) (S h : mx_H) (n : Int), mx_ex d 67 46 [l0, l1, l2, l3, l4, l5] [] S h n = mx_ex d 67 47 [l0, l1, l2, l3, l4, l5] [(0, 0)] S h n) ∧
  (∀ (d : Nat) (l0 l1 l2 l3 l4 l5 : Option mx_V) (v0 : mx_V) (S h : mx_H) (n : Int), mx_ex d 67 47 [l0, l1, l2, l3, l4, l5] [v0] S h n = mx_ex d 67 56 [l0, l1, l2, l3, l4, l5] [v0] S h n) ∧
  (∀ (d : Nat) (x : Int) (l1 l2 l3 l4 l5 : Option mx_V) (S h : mx_H) (n : Int), mx_ex d 67 50 [some (2, x), l1, l2, l3, l4, l5] [] S h n = mx_ex d 67 51 [some (2, x), l1, l2, l3, l4, l5] [(2, x)] S h n) ∧
  (∀ (d : Nat) (l0 l1 l2 l3 l4 l5 : Option mx_V) (v0 : mx_V) (S h : mx_H) (n : Int), mx_ex d 67 51 [l0, l1, l2, l3, l4, l5] [v0] S h n = mx_ex d 67 52 [l0, l1, l2, l3, l4, l5] [(0, 0), v0] S h n) ∧
  (∀ (d : Nat) (x : Int) (l0 l1 l3 l4 l5 : Option mx_V) (v0 v1 : mx_V) (S h : mx_H) (n : Int), mx_ex d 67 52 [l0, l1, some (0, x), l3, l4, l5] [v0, v1] S h n = mx_ex d 67 53 [l0, l1, some (0, x), l3, l4, l5] [(0, x), v0, v1] S h n) ∧
  (∀ (d : Nat) (x0 x1 a : Int) (l0 l1 l2 l3 l4 l5 : Option mx_V) (S h : mx_H) (n : Int), mx_ex (d + 1) 67 53 [l0, l1, l2, l3, l4, l5] [(0, x0), (0, x1), (2, a)] S h n = mx_cl (S a (-2) = 10) d 68 [(2, a), (0, x1), (0, x0)] 67 56 [l0, l1, l2, l3, l4, l5] [] S h n) ∧
  (∀ (d : Nat) (x : Int) (l0 l1 l2 l3 l4 l5 : Option mx_V) (S h : mx_H) (n : Int), mx_ex d 67 56 [l0, l1, l2, l3, l4, l5] [(0, x)] S h n = mx_ex d 67 58 [l0, l1, l2, mx_nl l3, some (0, x), l5] [] S h n) ∧
  (∀ (d : Nat) (x : Int) (l0 l1 l2 l3 l5 : Option mx_V) (S h : mx_H) (n : Int), mx_ex d 67 58 [l0, l1, l2, l3, some (0, x), l5] [] S h n = mx_ex d 67 60 [l0, l1, l2, l3, some (0, x), l5] [(0, x)] S h n) ∧
  (∀ (d : Nat) (a : Int) (l0 l1 l2 l3 l4 l5 : Option mx_V) (S h : mx_H) (n : Int), mx_ex d 67 60 [l0, l1, l2, l3, l4, l5] [(0, a)] S h n = mx_br (a < 0) d 67 63 65 [l0, l1, l2, l3, l4, l5] [] S h n) ∧
  (∀ (d : Nat) (l0 l1 l2 l3 l4 l5 : Option mx_V) (S h : mx_H) (n : Int), mx_ex d 67 63 [l0, l1, l2, l3, l4, l5] [] S h n = mx_ex d 67 64 [l0, l1, l2, l3, l4, l5] [(0, 0)] S h n) ∧
  (∀ (d : Nat) (x : Int) (l0 l1 l2 l3 l4 l5 : Option mx_V) (S h : mx_H) (n : Int), mx_ex d 67 64 [l0, l1, l2, l3, l4, l5] [(0, x)] S h n = mx_re (0 ≤ x ∧ x ≤ 1) (some (0, x)) S h n) ∧
  (∀ (d : Nat) (l0 l1 l2 l3 l4 l5 : Option mx_V) (S h : mx_H) (n : Int), mx_ex d 67 65 [l0, l1, l2, l3, l4, l5] [] S h n = mx_ex d 67 66 [l0, l1, l2, l3, l4, l5] [(0, 0)] S h n) ∧
  (∀ (d : Nat) (x : Int) (l0 l1 l2 l3 l4 l5 : Option mx_V) (S h : mx_H) (n : Int), mx_ex d 67 66 [l0, l1, l2, l3, l4, l5] [(0, x)] S h n = mx_ex d 67 68 [l0, l1, l2, l3, mx_nl l4, some (0, x)] [] S h n) ∧
  (∀ (d : Nat) (x : Int) (l0 l2 l3 l4 l5 : Option mx_V) (S h : mx_H) (n : Int), mx_ex d 67 68 [l0, some (0, x), l2, l3, l4, l5] [] S h n = mx_ex d 67 69 [l0, some (0, x), l2, l3, l4, l5] [(0, x)] S h n) ∧
  (∀ (d : Nat) (l0 l1 l2 l3 l4 l5 : Option mx_V) (v0 : mx_V) (S h : mx_H) (n : Int), mx_ex d 67 69 [l0, l1, l2, l3, l4, l5] [v0] S h n = mx_ex d 67 70 [l0, l1, l2, l3, l4, l5] [(0, 2), v0] S h n) ∧
  (∀ (d : Nat) (b a : Int) (l0 l1 l2 l3 l4 l5 : Option mx_V) (S h : mx_H) (n : Int), mx_ex d 67 70 [l0, l1, l2, l3, l4, l5] [(0, b), (0, a)] S h n = mx_br (a = b) d 67 73 81 [l0, l1, l2, l3, l4, l5] [] S h n) ∧
  (∀ (d : Nat) (x : Int) (l1 l2 l3 l4 l5 : Option mx_V) (S h : mx_H) (n : Int), mx_ex d 67 73 [some (2, x), l1, l2, l3, l4, l5] [] S h n = mx_ex d 67 74 [some (2, x), l1, l2, l3, l4, l5] [(2, x)] S h n) ∧
  (∀ (d : Nat) (l0 l1 l2 l3 l4 l5 : Option mx_V) (v0 : mx_V) (S h : mx_H) (n : Int), mx_ex d 67 74 [l0, l1, l2, l3, l4, l5] [v0] S h n = mx_ex d 67 75 [l0, l1, l2, l3, l4, l5] [(0, 0), v0] S h n) ∧
  (∀ (d : Nat) (x : Int) (l0 l1 l3 l4 l5 : Option mx_V) (v0 v1 : mx_V) (S h : mx_H) (n : Int), mx_ex d 67 75 [l0, l1, some (0, x), l3, l4, l5] [v0, v1] S h n = mx_ex d 67 76 [l0, l1, some (0, x), l3, l4, l5] [(0, x), v0, v1] S h n) ∧
  (∀ (d : Nat) (x0 x1 a : Int) (l0 l1 l2 l3 l4 l5 : Option mx_V) (S h : mx_H) (n : Int), mx_ex (d + 1) 67 76 [l0, l1, l2, l3, l4, l5] [(0, x0), (0, x1), (2, a)] S h n = mx_cl (S a (-2) = 10) d 68 [(2, a), (0, x1), (0, x0)] 67 79 [l0, l1, l2, l3, l4, l5] [] S h n) ∧
  (∀ (d : Nat) (x : Int) (l0 l1 l2 l3 l4 l5 : Option mx_V) (S h : mx_H) (n : Int), mx_ex d 67 79 [l0, l1, l2, l3, l4, l5] [(0, x)] S h n = mx_ex d 67 81 [l0, l1, l2, l3, mx_nl l4, some (0, x)] [] S h n) ∧
  (∀ (d : Nat) (x : Int) (l0 l2 l3 l4 l5 : Option mx_V) (S h : mx_H) (n : Int), mx_ex d 67 81 [l0, some (0, x), l2, l3, l4, l5] [] S h n = mx_ex d 67 82 [l0, some (0, x), l2, l3, l4, l5] [(0, x)] S h n) ∧
  (∀ (d : Nat) (l0 l1 l2 l3 l4 l5 : Option mx_V) (v0 : mx_V) (S h : mx_H) (n : Int), mx_ex d 67 82 [l0, l1, l2, l3, l4, l5] [v0] S h n = mx_ex d 67 83 [l0, l1, l2, l3, l4, l5] [(0, 3), v0] S h n) ∧
  (∀ (d : Nat) (b a : Int) (l0 l1 l2 l3 l4 l5 : Option mx_V) (S h : mx_H) (n : Int), mx_ex d 67 83 [l0, l1, l2, l3, l4, l5] [(0, b), (0, a)] S h n = mx_br (a = b) d 67 86 95 [l0, l1, l2, l3, l4, l5] [] S h n) ∧
  (∀ (d : Nat) (x : Int) (l1 l2 l3 l4 l5 : Option mx_V) (S h : mx_H) (n : Int), mx_ex d 67 86 [some (2, x), l1, l2, l3, l4, l5] [] S h n = mx_ex d 67 87 [some (2, x), l1, l2, l3, l4, l5] [(2, x)] S h n) ∧
  (∀ (d : Nat) (l0 l1 l2 l3 l4 l5 : Option mx_V) (v0 : mx_V) (S h : mx_H) (n : Int), mx_ex d 67 87 [l0, l1, l2, l3, l4, l5] [v0] S h n = mx_ex d 67 88 [l0, l1, l2, l3, l4, l5] [(0, 1), v0] S h n) ∧
  (∀ (d : Nat) (l0 l1 l2 l3 l4 l5 : Option mx_V) (v0 v1 : mx_V) (S h : mx_H) (n : Int), mx_ex d 67 88 [l0, l1, l2, l3, l4, l5] [v0, v1] S h n = mx_ex d 67 90 [l0, l1, l2, l3, l4, l5] [(0, 99), v0, v1] S h n) ∧
  (∀ (d : Nat) (x0 x1 a : Int) (l0 l1 l2 l3 l4 l5 : Option mx_V) (S h : mx_H) (n : Int), mx_ex (d + 1) 67 90 [l0, l1, l2, l3, l4, l5] [(0, x0), (0, x1), (2, a)] S h n = mx_cl (S a (-2) = 10) d 68 [(2, a), (0, x1), (0, x0)] 67 93 [l0, l1, l2, l3, l4, l5] [] S h n) ∧
  (∀ (d : Nat) (x : Int) (l0 l1 l2 l3 l4 l5 : Option mx_V) (S h : mx_H) (n : Int), mx_ex d 67 93 [l0, l1, l2, l3, l4, l5] [(0, x)] S h n = mx_ex d 67 95 [l0, l1, l2, l3, mx_nl l4, some (0, x)] [] S h n) ∧
  (∀ (d : Nat) (x : Int) (l0 l1 l2 l3 l4 : Option mx_V) (S h : mx_H) (n : Int), mx_ex d 67 95 [l0, l1, l2, l3, l4, some (0, x)] [] S h n = mx_ex d 67 97 [l0, l1, l2, l3, l4, some (0, x)] [(0, x)] S h n) ∧
  (∀ (d : Nat) (a : Int) (l0 l1 l2 l3 l4 l5 : Option mx_V) (S h : mx_H) (n : Int), mx_ex d 67 97 [l0, l1, l2, l3, l4, l5] [(0, a)] S h n = mx_br (a < 0) d 67 109 100 [l0, l1, l2, l3, l4, l5] [] S h n) ∧
  (∀ (d : Nat) (x : Int) (l1 l2 l3 l4 l5 : Option mx_V) (S h : mx_H) (n : Int), mx_ex d 67 100 [some (2, x), l1, l2, l3, l4, l5] [] S h n = mx_ex d 67 101 [some (2, x), l1, l2, l3, l4, l5] [(2, x)] S h n) ∧
  (∀ (d : Nat) (l0 l1 l2 l3 l4 l5 : Option mx_V) (v0 : mx_V) (S h : mx_H) (n : Int), mx_ex d 67 101 [l0, l1, l2, l3, l4, l5] [v0] S h n = mx_ex d 67 103 [l0, l1, l2, l3, l4, l5] [(0, 59), v0] S h n) ∧
  (∀ (d : Nat) (x0 a : Int) (l0 l1 l2 l3 l4 l5 : Option mx_V) (S h : mx_H) (n : Int), mx_ex (d + 1) 67 103 [l0, l1, l2, l3, l4, l5] [(0, x0), (2, a)] S h n = mx_cl (S a (-2) = 10) d 69 [(2, a), (0, x0)] 67 106 [l0, l1, l2, l3, l4, l5] [] S h n) ∧
  (∀ (d : Nat) (a : Int) (l0 l1 l2 l3 l4 l5 : Option mx_V) (S h : mx_H) (n : Int), mx_ex d 67 106 [l0, l1, l2, l3, l4, l5] [(0, a)] S h n = mx_br (a = 0) d 67 109 111 [l0, l1, l2, l3, l4, l5] [] S h n) ∧
  (∀ (d : Nat) (l0 l1 l2 l3 l4 l5 : Option mx_V) (S h : mx_H) (n : Int), mx_ex d 67 109 [l0, l1, l2, l3, l4, l5] [] S h n = mx_ex d 67 110 [l0, l1, l2, l3, l4, l5] [(0, 0)] S h n) ∧
  (∀ (d : Nat) (x : Int) (l0 l1 l2 l3 l4 l5 : Option mx_V) (S h : mx_H) (n : Int), mx_ex d 67 110 [l0, l1, l2, l3, l4, l5] [(0, x)] S h n = mx_re (0 ≤ x ∧ x ≤ 1) (some (0, x)) S h n) ∧
  (∀ (d : Nat) (x : Int) (l1 l2 l3 l4 l5 : Option mx_V) (S h : mx_H) (n : Int), mx_ex d 67 111 [some (2, x), l1, l2, l3, l4, l5] [] S h n = mx_ex d 67 112 [some (2, x), l1, l2, l3, l4, l5] [(2, x)] S h n) ∧
  (∀ (d : Nat) (a : Int) (l0 l1 l2 l3 l4 l5 : Option mx_V) (S h : mx_H) (n : Int), mx_ex d 67 112 [l0, l1, l2, l3, l4, l5] [(2, a)] S h n = mx_gd (10 ≤ S a (-2) ∧ S a (-2) ≤ 10) d 67 115 [l0, l1, l2, l3, l4, l5] [(2, S a 0)] S h n) ∧
  (∀ (d : Nat) (x : Int) (l0 l2 l3 l4 l5 : Option mx_V) (v0 : mx_V) (S h : mx_H) (n : Int), mx_ex d 67 115 [l0, some (0, x), l2, l3, l4, l5] [v0] S h n = mx_ex d 67 116 [l0, some (0, x), l2, l3, l4, l5] [(0, x), v0] S h n) ∧
  (∀ (d : Nat) (x : Int) (l0 l1 l2 l4 l5 : Option mx_V) (v0 v1 : mx_V) (S h : mx_H) (n : Int), mx_ex d 67 116 [l0, l1, l2, some (0, x), l4, l5] [v0, v1] S h n = mx_ex d 67 117 [l0, l1, l2, some (0, x), l4, l5] [(0, x), v0, v1] S h n) ∧
  (∀ (d : Nat) (x : Int) (l0 l1 l2 l3 l5 : Option mx_V) (v0 v1 v2 : mx_V) (S h : mx_H) (n : Int), mx_ex d 67 117 [l0, l1, l2, l3, some (0, x), l5] [v0, v1, v2] S h n = mx_ex d 67 119 [l0, l1, l2, l3, some (0, x), l5] [(0, x), v0, v1, v2] S h n) :=
  ⟨by intros; exact rfl,
   by intros; exact eq_ld rfl rfl,
   by intros; exact eq_gr rfl,
   by intros; exact eq_gi rfl,
   by intros; exact eq_push rfl,
   by intros; exact eq_ic2 rfl,
   by intros; exact eq_push rfl,
   by intros; exact eq_rr rfl,
   by intros; exact eq_ld rfl rfl,
   by intros; exact eq_cv rfl (Nat.le_of_ble_eq_true rfl) rfl rfl rfl (Nat.le_of_ble_eq_true rfl),
   by intros; exact eq_ld rfl rfl,
   by intros; exact eq_gr rfl,
   by intros; exact eq_gi rfl,
   by intros; exact eq_push rfl,
   by intros; exact eq_i2 (o := mx_sub) rfl,
   by intros; exact eq_st rfl (by decide) (Nat.le_of_ble_eq_true rfl) rfl,
   by intros; exact eq_ld rfl rfl,
   by intros; exact eq_push rfl,
   by intros; exact eq_ld rfl rfl,
   by intros; exact eq_cv rfl (Nat.le_of_ble_eq_true rfl) rfl rfl rfl (Nat.le_of_ble_eq_true rfl),
   by intros; exact eq_st rfl (by decide) (Nat.le_of_ble_eq_true rfl) rfl,
   by intros; exact eq_ld rfl rfl,
   by intros; exact eq_if3 rfl,
   by intros; exact eq_push rfl,
   by intros; exact eq_rr rfl,
   by intros; exact eq_ld rfl rfl,
   by intros; exact eq_push rfl,
   by intros; exact eq_ic1 rfl,
   by intros; exact eq_push rfl,
   by intros; exact eq_go rfl,
   by intros; exact eq_ld rfl rfl,
   by intros; exact eq_push rfl,
   by intros; exact eq_ld rfl rfl,
   by intros; exact eq_cv rfl (Nat.le_of_ble_eq_true rfl) rfl rfl rfl (Nat.le_of_ble_eq_true rfl),
   by intros; exact eq_st rfl (by decide) (Nat.le_of_ble_eq_true rfl) rfl,
   by intros; exact eq_ld rfl rfl,
   by intros; exact eq_if3 rfl,
   by intros; exact eq_push rfl,
   by intros; exact eq_rr rfl,
   by intros; exact eq_push rfl,
   by intros; exact eq_st rfl (by decide) (Nat.le_of_ble_eq_true rfl) rfl,
   by intros; exact eq_ld rfl rfl,
   by intros; exact eq_push rfl,
   by intros; exact eq_ic1 rfl,
   by intros; exact eq_ld rfl rfl,
   by intros; exact eq_push rfl,
   by intros; exact eq_ld rfl rfl,
   by intros; exact eq_cv rfl (Nat.le_of_ble_eq_true rfl) rfl rfl rfl (Nat.le_of_ble_eq_true rfl),
   by intros; exact eq_st rfl (by decide) (Nat.le_of_ble_eq_true rfl) rfl,
   by intros; exact eq_ld rfl rfl,
   by intros; exact eq_push rfl,
   by intros; exact eq_ic1 rfl,
   by intros; exact eq_ld rfl rfl,
   by intros; exact eq_push rfl,
   by intros; exact eq_push rfl,
   by intros; exact eq_cv rfl (Nat.le_of_ble_eq_true rfl) rfl rfl rfl (Nat.le_of_ble_eq_true rfl),
   by intros; exact eq_st rfl (by decide) (Nat.le_of_ble_eq_true rfl) rfl,
   by intros; exact eq_ld rfl rfl,
   by intros; exact eq_if2 rfl,
   by intros; exact eq_ld rfl rfl,
   by intros; exact eq_push rfl,
   by intros; exact eq_cv rfl (Nat.le_of_ble_eq_true rfl) rfl rfl rfl (Nat.le_of_ble_eq_true rfl),
   by intros; exact eq_if1 rfl,
   by intros; exact eq_push rfl,
   by intros; exact eq_rr rfl,
   by intros; exact eq_ld rfl rfl,
   by intros; exact eq_gr rfl,
   by intros; exact eq_ld rfl rfl,
   by intros; exact eq_ld rfl rfl,
   by intros; exact eq_ld rfl rfl⟩
theorem rw_X7_lineTold_1 :
  (∀ (d : Nat) (x : Int) (l0 l1 l2 l3 l4 : Option mx_V) (v0 v1 v2 v3 : mx_V) (S h : mx_H) (n : Int), mx_ex d 67 119 [l0, l1, l2, l3, l4, some (0, x)] [v0, v1, v2, v3] S h n = mx_ex d 67 121 [l0, l1, l2, l3, l4, some (0, x)] [(0, x), v0, v1, v2, v3] S h n) ∧
  (∀ (d : Nat) (x0 x1 x2 x3 a : Int) (l0 l1 l2 l3 l4 l5 : Option mx_V) (S h : mx_H) (n : Int), mx_ex (d + 1) 67 121 [l0, l1, l2, l3, l4, l5] [(0, x0), (0, x1), (0, x2), (0, x3), (2, a)] S h n = mx_cl (S a (-2) = 8) d 94 [(2, a), (0, x3), (0, x2), (0, x1), (0, x0)] 67 124 [l0, l1, l2, l3, l4, l5] [] S h n) ∧
  (∀ (d : Nat) (a : Int) (l0 l1 l2 l3 l4 l5 : Option mx_V) (S h : mx_H) (n : Int), mx_ex d 67 124 [l0, l1, l2, l3, l4, l5] [(0, a)] S h n = mx_ex d 67 125 [l0, l1, l2, l3, l4, l5] [] S h n) ∧
  (∀ (d : Nat) (l0 l1 l2 l3 l4 l5 : Option mx_V) (S h : mx_H) (n : Int), mx_ex d 67 125 [l0, l1, l2, l3, l4, l5] [] S h n = mx_ex d 67 126 [l0, l1, l2, l3, l4, l5] [(0, 1)] S h n) ∧
  (∀ (d : Nat) (x : Int) (l0 l1 l2 l3 l4 l5 : Option mx_V) (S h : mx_H) (n : Int), mx_ex d 67 126 [l0, l1, l2, l3, l4, l5] [(0, x)] S h n = mx_re (0 ≤ x ∧ x ≤ 1) (some (0, x)) S h n) :=
  ⟨by intros; exact eq_ld rfl rfl,
   by intros; exact eq_cv rfl (Nat.le_of_ble_eq_true rfl) rfl rfl rfl (Nat.le_of_ble_eq_true rfl),
   by intros; exact eq_pop rfl (by decide),
   by intros; exact eq_push rfl,
   by intros; exact eq_rr rfl⟩
theorem rw_X7_number :
  (∀ (d : Nat) (a0 a1 a2 : Int) (S h : mx_H) (n : Int), mx_M d 68 [(2, a0), (0, a1), (0, a2)] S h n = mx_ex d 68 0 [some (2, a0), some (0, a1), some (0, a2), none] [] S h n) ∧
  (∀ (d : Nat) (x : Int) (l1 l2 l3 : Option mx_V) (S h : mx_H) (n : Int), mx_ex d 68 0 [some (2, x), l1, l2, l3] [] S h n = mx_ex d 68 1 [some (2, x), l1, l2, l3] [(2, x)] S h n) ∧
  (∀ (d : Nat) (a : Int) (l0 l1 l2 l3 : Option mx_V) (S h : mx_H) (n : Int), mx_ex d 68 1 [l0, l1, l2, l3] [(2, a)] S h n = mx_gd (10 ≤ S a (-2) ∧ S a (-2) ≤ 10) d 68 4 [l0, l1, l2, l3] [(0, h a 6)] S h n) ∧
  (∀ (d : Nat) (l0 l1 l2 l3 : Option mx_V) (v0 : mx_V) (S h : mx_H) (n : Int), mx_ex d 68 4 [l0, l1, l2, l3] [v0] S h n = mx_ex d 68 5 [l0, l1, l2, l3] [(0, 2), v0] S h n) ∧
  (∀ (d : Nat) (b a : Int) (l0 l1 l2 l3 : Option mx_V) (S h : mx_H) (n : Int), mx_ex d 68 5 [l0, l1, l2, l3] [(0, b), (0, a)] S h n = mx_br (a = b) d 68 8 24 [l0, l1, l2, l3] [] S h n) ∧
  (∀ (d : Nat) (x : Int) (l1 l2 l3 : Option mx_V) (S h : mx_H) (n : Int), mx_ex d 68 8 [some (2, x), l1, l2, l3] [] S h n = mx_ex d 68 9 [some (2, x), l1, l2, l3] [(2, x)] S h n) ∧
  (∀ (d : Nat) (a : Int) (l0 l1 l2 l3 : Option mx_V) (S h : mx_H) (n : Int), mx_ex d 68 9 [l0, l1, l2, l3] [(2, a)] S h n = mx_gd (10 ≤ S a (-2) ∧ S a (-2) ≤ 10) d 68 12 [l0, l1, l2, l3] [(0, h a 7)] S h n) ∧
  (∀ (d : Nat) (x : Int) (l0 l2 l3 : Option mx_V) (v0 : mx_V) (S h : mx_H) (n : Int), mx_ex d 68 12 [l0, some (0, x), l2, l3] [v0] S h n = mx_ex d 68 13 [l0, some (0, x), l2, l3] [(0, x), v0] S h n) ∧
  (∀ (d : Nat) (b a : Int) (l0 l1 l2 l3 : Option mx_V) (S h : mx_H) (n : Int), mx_ex d 68 13 [l0, l1, l2, l3] [(0, b), (0, a)] S h n = mx_br (a < b) d 68 24 16 [l0, l1, l2, l3] [] S h n) ∧
  (∀ (d : Nat) (x : Int) (l1 l2 l3 : Option mx_V) (S h : mx_H) (n : Int), mx_ex d 68 16 [some (2, x), l1, l2, l3] [] S h n = mx_ex d 68 17 [some (2, x), l1, l2, l3] [(2, x)] S h n) ∧
  (∀ (d : Nat) (a : Int) (l0 l1 l2 l3 : Option mx_V) (S h : mx_H) (n : Int), mx_ex d 68 17 [l0, l1, l2, l3] [(2, a)] S h n = mx_gd (10 ≤ S a (-2) ∧ S a (-2) ≤ 10) d 68 20 [l0, l1, l2, l3] [(0, h a 7)] S h n) ∧
  (∀ (d : Nat) (x : Int) (l0 l1 l3 : Option mx_V) (v0 : mx_V) (S h : mx_H) (n : Int), mx_ex d 68 20 [l0, l1, some (0, x), l3] [v0] S h n = mx_ex d 68 21 [l0, l1, some (0, x), l3] [(0, x), v0] S h n) ∧
  (∀ (d : Nat) (b a : Int) (l0 l1 l2 l3 : Option mx_V) (S h : mx_H) (n : Int), mx_ex d 68 21 [l0, l1, l2, l3] [(0, b), (0, a)] S h n = mx_br (b < a) d 68 24 26 [l0, l1, l2, l3] [] S h n) ∧
  (∀ (d : Nat) (l0 l1 l2 l3 : Option mx_V) (S h : mx_H) (n : Int), mx_ex d 68 24 [l0, l1, l2, l3] [] S h n = mx_ex d 68 25 [l0, l1, l2, l3] [(0, (-1))] S h n) ∧
  (∀ (d : Nat) (x : Int) (l0 l1 l2 l3 : Option mx_V) (S h : mx_H) (n : Int), mx_ex d 68 25 [l0, l1, l2, l3] [(0, x)] S h n = some (some (0, x), S, h, n)) ∧
  (∀ (d : Nat) (x : Int) (l1 l2 l3 : Option mx_V) (S h : mx_H) (n : Int), mx_ex d 68 26 [some (2, x), l1, l2, l3] [] S h n = mx_ex d 68 27 [some (2, x), l1, l2, l3] [(2, x)] S h n) ∧
  (∀ (d : Nat) (a : Int) (l0 l1 l2 l3 : Option mx_V) (S h : mx_H) (n : Int), mx_ex d 68 27 [l0, l1, l2, l3] [(2, a)] S h n = mx_gd (10 ≤ S a (-2) ∧ S a (-2) ≤ 10) d 68 30 [l0, l1, l2, l3] [(0, h a 7)] S h n) ∧
  (∀ (d : Nat) (x : Int) (l0 l1 l2 l3 : Option mx_V) (S h : mx_H) (n : Int), mx_ex d 68 30 [l0, l1, l2, l3] [(0, x)] S h n = mx_ex d 68 31 [l0, l1, mx_nl l2, some (0, x)] [] S h n) ∧
  (∀ (d : Nat) (x : Int) (l1 l2 l3 : Option mx_V) (S h : mx_H) (n : Int), mx_ex d 68 31 [some (2, x), l1, l2, l3] [] S h n = mx_ex d 68 32 [some (2, x), l1, l2, l3] [(2, x)] S h n) ∧
  (∀ (d : Nat) (a : Int) (l0 l1 l2 l3 : Option mx_V) (S h : mx_H) (n : Int), mx_ex (d + 1) 68 32 [l0, l1, l2, l3] [(2, a)] S h n = mx_cl (S a (-2) = 10) d 71 [(2, a)] 68 35 [l0, l1, l2, l3] [] S h n) ∧
  (∀ (d : Nat) (x : Int) (l0 l1 l2 : Option mx_V) (S h : mx_H) (n : Int), mx_ex d 68 35 [l0, l1, l2, some (0, x)] [] S h n = mx_ex d 68 36 [l0, l1, l2, some (0, x)] [(0, x)] S h n) ∧
  (∀ (d : Nat) (x : Int) (l0 l1 l2 l3 : Option mx_V) (S h : mx_H) (n : Int), mx_ex d 68 36 [l0, l1, l2, l3] [(0, x)] S h n = some (some (0, x), S, h, n)) :=
  ⟨by intros; exact rfl,
   by intros; exact eq_ld rfl rfl,
   by intros; exact eq_gi rfl,
   by intros; exact eq_push rfl,
   by intros; exact eq_ic1 rfl,
   by intros; exact eq_ld rfl rfl,
   by intros; exact eq_gi rfl,
   by intros; exact eq_ld rfl rfl,
   by intros; exact eq_ic2 rfl,
   by intros; exact eq_ld rfl rfl,
   by intros; exact eq_gi rfl,
   by intros; exact eq_ld rfl rfl,
   by intros; exact eq_ic5 rfl,
   by intros; exact eq_push rfl,
   by intros; exact eq_ret rfl,
   by intros; exact eq_ld rfl rfl,
   by intros; exact eq_gi rfl,
   by intros; exact eq_st rfl (by decide) (Nat.le_of_ble_eq_true rfl) rfl,
   by intros; exact eq_ld rfl rfl,
   by intros; exact eq_cv rfl (Nat.le_of_ble_eq_true rfl) rfl rfl rfl (Nat.le_of_ble_eq_true rfl),
   by intros; exact eq_ld rfl rfl,
   by intros; exact eq_ret rfl⟩
theorem rw_X7_takes :
  (∀ (d : Nat) (a0 a1 : Int) (S h : mx_H) (n : Int), mx_M d 69 [(2, a0), (0, a1)] S h n = mx_ex d 69 0 [some (2, a0), some (0, a1)] [] S h n) ∧
  (∀ (d : Nat) (x : Int) (l1 : Option mx_V) (S h : mx_H) (n : Int), mx_ex d 69 0 [some (2, x), l1] [] S h n = mx_ex d 69 1 [some (2, x), l1] [(2, x)] S h n) ∧
  (∀ (d : Nat) (a : Int) (l0 l1 : Option mx_V) (S h : mx_H) (n : Int), mx_ex d 69 1 [l0, l1] [(2, a)] S h n = mx_gd (10 ≤ S a (-2) ∧ S a (-2) ≤ 10) d 69 4 [l0, l1] [(0, h a 6)] S h n) ∧
  (∀ (d : Nat) (l0 l1 : Option mx_V) (v0 : mx_V) (S h : mx_H) (n : Int), mx_ex d 69 4 [l0, l1] [v0] S h n = mx_ex d 69 5 [l0, l1] [(0, 3), v0] S h n) ∧
  (∀ (d : Nat) (b a : Int) (l0 l1 : Option mx_V) (S h : mx_H) (n : Int), mx_ex d 69 5 [l0, l1] [(0, b), (0, a)] S h n = mx_br (a = b) d 69 8 16 [l0, l1] [] S h n) ∧
  (∀ (d : Nat) (x : Int) (l1 : Option mx_V) (S h : mx_H) (n : Int), mx_ex d 69 8 [some (2, x), l1] [] S h n = mx_ex d 69 9 [some (2, x), l1] [(2, x)] S h n) ∧
  (∀ (d : Nat) (a : Int) (l0 l1 : Option mx_V) (S h : mx_H) (n : Int), mx_ex d 69 9 [l0, l1] [(2, a)] S h n = mx_gd (10 ≤ S a (-2) ∧ S a (-2) ≤ 10) d 69 12 [l0, l1] [(0, h a 7)] S h n) ∧
  (∀ (d : Nat) (x : Int) (l0 : Option mx_V) (v0 : mx_V) (S h : mx_H) (n : Int), mx_ex d 69 12 [l0, some (0, x)] [v0] S h n = mx_ex d 69 13 [l0, some (0, x)] [(0, x), v0] S h n) ∧
  (∀ (d : Nat) (b a : Int) (l0 l1 : Option mx_V) (S h : mx_H) (n : Int), mx_ex d 69 13 [l0, l1] [(0, b), (0, a)] S h n = mx_br (a = b) d 69 18 16 [l0, l1] [] S h n) ∧
  (∀ (d : Nat) (l0 l1 : Option mx_V) (S h : mx_H) (n : Int), mx_ex d 69 16 [l0, l1] [] S h n = mx_ex d 69 17 [l0, l1] [(0, 0)] S h n) ∧
  (∀ (d : Nat) (x : Int) (l0 l1 : Option mx_V) (S h : mx_H) (n : Int), mx_ex d 69 17 [l0, l1] [(0, x)] S h n = mx_re (0 ≤ x ∧ x ≤ 1) (some (0, x)) S h n) ∧
  (∀ (d : Nat) (x : Int) (l1 : Option mx_V) (S h : mx_H) (n : Int), mx_ex d 69 18 [some (2, x), l1] [] S h n = mx_ex d 69 19 [some (2, x), l1] [(2, x)] S h n) ∧
  (∀ (d : Nat) (a : Int) (l0 l1 : Option mx_V) (S h : mx_H) (n : Int), mx_ex (d + 1) 69 19 [l0, l1] [(2, a)] S h n = mx_cl (S a (-2) = 10) d 71 [(2, a)] 69 22 [l0, l1] [] S h n) ∧
  (∀ (d : Nat) (l0 l1 : Option mx_V) (S h : mx_H) (n : Int), mx_ex d 69 22 [l0, l1] [] S h n = mx_ex d 69 23 [l0, l1] [(0, 1)] S h n) ∧
  (∀ (d : Nat) (x : Int) (l0 l1 : Option mx_V) (S h : mx_H) (n : Int), mx_ex d 69 23 [l0, l1] [(0, x)] S h n = mx_re (0 ≤ x ∧ x ≤ 1) (some (0, x)) S h n) :=
  ⟨by intros; exact rfl,
   by intros; exact eq_ld rfl rfl,
   by intros; exact eq_gi rfl,
   by intros; exact eq_push rfl,
   by intros; exact eq_ic1 rfl,
   by intros; exact eq_ld rfl rfl,
   by intros; exact eq_gi rfl,
   by intros; exact eq_ld rfl rfl,
   by intros; exact eq_ic0 rfl,
   by intros; exact eq_push rfl,
   by intros; exact eq_rr rfl,
   by intros; exact eq_ld rfl rfl,
   by intros; exact eq_cv rfl (Nat.le_of_ble_eq_true rfl) rfl rfl rfl (Nat.le_of_ble_eq_true rfl),
   by intros; exact eq_push rfl,
   by intros; exact eq_rr rfl⟩
theorem rh_X7_isName_28 : ∀ (d : Nat) (x : Int) (l0 l1 : Option mx_V) (S h : mx_H) (n : Int), mx_ex d 70 28 [l0, l1, some (0, x)] [] S h n = mx_ex d 70 29 [l0, l1, some (0, x)] [(0, x)] S h n := by intros; exact eq_ld rfl rfl
theorem rw_X7_isName :
  (∀ (d : Nat) (a0 a1 : Int) (S h : mx_H) (n : Int), mx_M d 70 [(2, a0), (2, a1)] S h n = mx_ex d 70 0 [some (2, a0), some (2, a1), none] [] S h n) ∧
  (∀ (d : Nat) (x : Int) (l1 l2 : Option mx_V) (S h : mx_H) (n : Int), mx_ex d 70 0 [some (2, x), l1, l2] [] S h n = mx_ex d 70 1 [some (2, x), l1, l2] [(2, x)] S h n) ∧
  (∀ (d : Nat) (a : Int) (l0 l1 l2 : Option mx_V) (S h : mx_H) (n : Int), mx_ex d 70 1 [l0, l1, l2] [(2, a)] S h n = mx_gd (10 ≤ S a (-2) ∧ S a (-2) ≤ 10) d 70 4 [l0, l1, l2] [(0, h a 6)] S h n) ∧
  (∀ (d : Nat) (l0 l1 l2 : Option mx_V) (v0 : mx_V) (S h : mx_H) (n : Int), mx_ex d 70 4 [l0, l1, l2] [v0] S h n = mx_ex d 70 5 [l0, l1, l2] [(0, 1), v0] S h n) ∧
  (∀ (d : Nat) (b a : Int) (l0 l1 l2 : Option mx_V) (S h : mx_H) (n : Int), mx_ex d 70 5 [l0, l1, l2] [(0, b), (0, a)] S h n = mx_br (a = b) d 70 8 24 [l0, l1, l2] [] S h n) ∧
  (∀ (d : Nat) (x : Int) (l1 l2 : Option mx_V) (S h : mx_H) (n : Int), mx_ex d 70 8 [some (2, x), l1, l2] [] S h n = mx_ex d 70 9 [some (2, x), l1, l2] [(2, x)] S h n) ∧
  (∀ (d : Nat) (a : Int) (l0 l1 l2 : Option mx_V) (S h : mx_H) (n : Int), mx_ex d 70 9 [l0, l1, l2] [(2, a)] S h n = mx_gd (10 ≤ S a (-2) ∧ S a (-2) ≤ 10) d 70 12 [l0, l1, l2] [(0, h a 5)] S h n) ∧
  (∀ (d : Nat) (x : Int) (l1 l2 : Option mx_V) (v0 : mx_V) (S h : mx_H) (n : Int), mx_ex d 70 12 [some (2, x), l1, l2] [v0] S h n = mx_ex d 70 13 [some (2, x), l1, l2] [(2, x), v0] S h n) ∧
  (∀ (d : Nat) (a : Int) (l0 l1 l2 : Option mx_V) (v1 : mx_V) (S h : mx_H) (n : Int), mx_ex d 70 13 [l0, l1, l2] [(2, a), v1] S h n = mx_gd (10 ≤ S a (-2) ∧ S a (-2) ≤ 10) d 70 16 [l0, l1, l2] [(0, h a 1), v1] S h n) ∧
  (∀ (d : Nat) (b a : Int) (l0 l1 l2 : Option mx_V) (S h : mx_H) (n : Int), mx_ex d 70 16 [l0, l1, l2] [(0, b), (0, a)] S h n = mx_ex d 70 17 [l0, l1, l2] [(0, mx_w (a - b))] S h n) ∧
  (∀ (d : Nat) (x : Int) (l0 l2 : Option mx_V) (v0 : mx_V) (S h : mx_H) (n : Int), mx_ex d 70 17 [l0, some (2, x), l2] [v0] S h n = mx_ex d 70 18 [l0, some (2, x), l2] [(2, x), v0] S h n) ∧
  (∀ (d : Nat) (a : Int) (l0 l1 l2 : Option mx_V) (v1 : mx_V) (S h : mx_H) (n : Int), mx_ex (d + 1) 70 18 [l0, l1, l2] [(2, a), v1] S h n = mx_cl (S a (-2) = 30) d 251 [(2, a)] 70 21 [l0, l1, l2] [v1] S h n) ∧
  (∀ (d : Nat) (b a : Int) (l0 l1 l2 : Option mx_V) (S h : mx_H) (n : Int), mx_ex d 70 21 [l0, l1, l2] [(0, b), (0, a)] S h n = mx_br (a = b) d 70 26 24 [l0, l1, l2] [] S h n) ∧
  (∀ (d : Nat) (l0 l1 l2 : Option mx_V) (S h : mx_H) (n : Int), mx_ex d 70 24 [l0, l1, l2] [] S h n = mx_ex d 70 25 [l0, l1, l2] [(0, 0)] S h n) ∧
  (∀ (d : Nat) (x : Int) (l0 l1 l2 : Option mx_V) (S h : mx_H) (n : Int), mx_ex d 70 25 [l0, l1, l2] [(0, x)] S h n = mx_re (0 ≤ x ∧ x ≤ 1) (some (0, x)) S h n) ∧
  (∀ (d : Nat) (l0 l1 l2 : Option mx_V) (S h : mx_H) (n : Int), mx_ex d 70 26 [l0, l1, l2] [] S h n = mx_ex d 70 27 [l0, l1, l2] [(0, 0)] S h n) ∧
  (∀ (d : Nat) (x : Int) (l0 l1 l2 : Option mx_V) (S h : mx_H) (n : Int), mx_ex d 70 27 [l0, l1, l2] [(0, x)] S h n = mx_ex d 70 28 [l0, mx_nl l1, some (0, x)] [] S h n) ∧
  (∀ (d : Nat) (x : Int) (l0 l2 : Option mx_V) (v0 : mx_V) (S h : mx_H) (n : Int), mx_ex d 70 29 [l0, some (2, x), l2] [v0] S h n = mx_ex d 70 30 [l0, some (2, x), l2] [(2, x), v0] S h n) ∧
  (∀ (d : Nat) (a : Int) (l0 l1 l2 : Option mx_V) (v1 : mx_V) (S h : mx_H) (n : Int), mx_ex (d + 1) 70 30 [l0, l1, l2] [(2, a), v1] S h n = mx_cl (S a (-2) = 30) d 251 [(2, a)] 70 33 [l0, l1, l2] [v1] S h n) ∧
  (∀ (d : Nat) (b a : Int) (l0 l1 l2 : Option mx_V) (S h : mx_H) (n : Int), mx_ex d 70 33 [l0, l1, l2] [(0, b), (0, a)] S h n = mx_br (a < b) d 70 36 63 [l0, l1, l2] [] S h n) ∧
  (∀ (d : Nat) (x : Int) (l1 l2 : Option mx_V) (S h : mx_H) (n : Int), mx_ex d 70 36 [some (2, x), l1, l2] [] S h n = mx_ex d 70 37 [some (2, x), l1, l2] [(2, x)] S h n) ∧
  (∀ (d : Nat) (a : Int) (l0 l1 l2 : Option mx_V) (S h : mx_H) (n : Int), mx_ex d 70 37 [l0, l1, l2] [(2, a)] S h n = mx_gd (10 ≤ S a (-2) ∧ S a (-2) ≤ 10) d 70 40 [l0, l1, l2] [(2, S a 3)] S h n) ∧
  (∀ (d : Nat) (x : Int) (l1 l2 : Option mx_V) (v0 : mx_V) (S h : mx_H) (n : Int), mx_ex d 70 40 [some (2, x), l1, l2] [v0] S h n = mx_ex d 70 41 [some (2, x), l1, l2] [(2, x), v0] S h n) ∧
  (∀ (d : Nat) (a : Int) (l0 l1 l2 : Option mx_V) (v1 : mx_V) (S h : mx_H) (n : Int), mx_ex d 70 41 [l0, l1, l2] [(2, a), v1] S h n = mx_gd (10 ≤ S a (-2) ∧ S a (-2) ≤ 10) d 70 44 [l0, l1, l2] [(0, h a 1), v1] S h n) ∧
  (∀ (d : Nat) (x : Int) (l0 l1 : Option mx_V) (v0 v1 : mx_V) (S h : mx_H) (n : Int), mx_ex d 70 44 [l0, l1, some (0, x)] [v0, v1] S h n = mx_ex d 70 45 [l0, l1, some (0, x)] [(0, x), v0, v1] S h n) ∧
  (∀ (d : Nat) (b a : Int) (l0 l1 l2 : Option mx_V) (v2 : mx_V) (S h : mx_H) (n : Int), mx_ex d 70 45 [l0, l1, l2] [(0, b), (0, a), v2] S h n = mx_ex d 70 46 [l0, l1, l2] [(0, mx_w (a + b)), v2] S h n) ∧
  (∀ (d : Nat) (i a : Int) (l0 l1 l2 : Option mx_V) (S h : mx_H) (n : Int), mx_ex d 70 46 [l0, l1, l2] [(0, i), (2, a)] S h n = mx_gd ((S a (-2) = 20 ∨ S a (-2) = 24) ∧ 0 ≤ i ∧ i < S a (-1)) d 70 47 [l0, l1, l2] [(0, h a i)] S h n) ∧
  (∀ (d : Nat) (x : Int) (l0 l2 : Option mx_V) (v0 : mx_V) (S h : mx_H) (n : Int), mx_ex d 70 47 [l0, some (2, x), l2] [v0] S h n = mx_ex d 70 48 [l0, some (2, x), l2] [(2, x), v0] S h n) ∧
  (∀ (d : Nat) (x : Int) (l0 l1 : Option mx_V) (v0 v1 : mx_V) (S h : mx_H) (n : Int), mx_ex d 70 48 [l0, l1, some (0, x)] [v0, v1] S h n = mx_ex d 70 49 [l0, l1, some (0, x)] [(0, x), v0, v1] S h n) ∧
  (∀ (d : Nat) (x0 a : Int) (l0 l1 l2 : Option mx_V) (v2 : mx_V) (S h : mx_H) (n : Int), mx_ex (d + 1) 70 49 [l0, l1, l2] [(0, x0), (2, a), v2] S h n = mx_cl (S a (-2) = 30) d 252 [(2, a), (0, x0)] 70 52 [l0, l1, l2] [v2] S h n) ∧
  (∀ (d : Nat) (b a : Int) (l0 l1 l2 : Option mx_V) (S h : mx_H) (n : Int), mx_ex d 70 52 [l0, l1, l2] [(0, b), (0, a)] S h n = mx_br (a = b) d 70 57 55 [l0, l1, l2] [] S h n) ∧
  (∀ (d : Nat) (l0 l1 l2 : Option mx_V) (S h : mx_H) (n : Int), mx_ex d 70 55 [l0, l1, l2] [] S h n = mx_ex d 70 56 [l0, l1, l2] [(0, 0)] S h n) ∧
  (∀ (d : Nat) (x : Int) (l0 l1 l2 : Option mx_V) (S h : mx_H) (n : Int), mx_ex d 70 56 [l0, l1, l2] [(0, x)] S h n = mx_re (0 ≤ x ∧ x ≤ 1) (some (0, x)) S h n) ∧
  (∀ (d : Nat) (x : Int) (l0 l1 : Option mx_V) (S h : mx_H) (n : Int), mx_ex d 70 57 [l0, l1, some (0, x)] [] S h n = mx_ex d 70 60 [l0, mx_nl l1, some (0, mx_w (x + 1))] [] S h n) ∧
  (∀ (d : Nat) (l0 l1 l2 : Option mx_V) (S h : mx_H) (n : Int), mx_ex d 70 60 [l0, l1, l2] [] S h n = mx_ex d 70 28 [l0, l1, l2] [] S h n) ∧
  (∀ (d : Nat) (l0 l1 l2 : Option mx_V) (S h : mx_H) (n : Int), mx_ex d 70 63 [l0, l1, l2] [] S h n = mx_ex d 70 64 [l0, l1, l2] [(0, 1)] S h n) ∧
  (∀ (d : Nat) (x : Int) (l0 l1 l2 : Option mx_V) (S h : mx_H) (n : Int), mx_ex d 70 64 [l0, l1, l2] [(0, x)] S h n = mx_re (0 ≤ x ∧ x ≤ 1) (some (0, x)) S h n) :=
  ⟨by intros; exact rfl,
   by intros; exact eq_ld rfl rfl,
   by intros; exact eq_gi rfl,
   by intros; exact eq_push rfl,
   by intros; exact eq_ic1 rfl,
   by intros; exact eq_ld rfl rfl,
   by intros; exact eq_gi rfl,
   by intros; exact eq_ld rfl rfl,
   by intros; exact eq_gi rfl,
   by intros; exact eq_i2 (o := mx_sub) rfl,
   by intros; exact eq_ld rfl rfl,
   by intros; exact eq_cv rfl (Nat.le_of_ble_eq_true rfl) rfl rfl rfl (Nat.le_of_ble_eq_true rfl),
   by intros; exact eq_ic0 rfl,
   by intros; exact eq_push rfl,
   by intros; exact eq_rr rfl,
   by intros; exact eq_push rfl,
   by intros; exact eq_st rfl (by decide) (Nat.le_of_ble_eq_true rfl) rfl,
   by intros; exact eq_ld rfl rfl,
   by intros; exact eq_cv rfl (Nat.le_of_ble_eq_true rfl) rfl rfl rfl (Nat.le_of_ble_eq_true rfl),
   by intros; exact eq_ic3 rfl,
   by intros; exact eq_ld rfl rfl,
   by intros; exact eq_gr rfl,
   by intros; exact eq_ld rfl rfl,
   by intros; exact eq_gi rfl,
   by intros; exact eq_ld rfl rfl,
   by intros; exact eq_i2 (o := mx_add) rfl,
   by intros; exact eq_iald rfl,
   by intros; exact eq_ld rfl rfl,
   by intros; exact eq_ld rfl rfl,
   by intros; exact eq_cv rfl (Nat.le_of_ble_eq_true rfl) rfl rfl rfl (Nat.le_of_ble_eq_true rfl),
   by intros; exact eq_ic0 rfl,
   by intros; exact eq_push rfl,
   by intros; exact eq_rr rfl,
   by intros; exact eq_inc rfl rfl rfl,
   by intros; exact eq_go rfl,
   by intros; exact eq_push rfl,
   by intros; exact eq_rr rfl⟩
theorem rh_X7_next_0 : ∀ (d : Nat) (x : Int) (S h : mx_H) (n : Int), mx_ex d 71 0 [some (2, x)] [] S h n = mx_ex d 71 1 [some (2, x)] [(2, x)] S h n := by intros; exact eq_ld rfl rfl
theorem rh_X7_next_90 : ∀ (d : Nat) (x : Int) (S h : mx_H) (n : Int), mx_ex d 71 90 [some (2, x)] [] S h n = mx_ex d 71 91 [some (2, x)] [(2, x)] S h n := by intros; exact eq_ld rfl rfl
theorem rh_X7_next_149 : ∀ (d : Nat) (x : Int) (S h : mx_H) (n : Int), mx_ex d 71 149 [some (2, x)] [] S h n = mx_ex d 71 150 [some (2, x)] [(2, x)] S h n := by intros; exact eq_ld rfl rfl
theorem rw_X7_next :
  (∀ (d : Nat) (a0 : Int) (S h : mx_H) (n : Int), mx_M d 71 [(2, a0)] S h n = mx_ex d 71 0 [some (2, a0)] [] S h n) ∧
  (∀ (d : Nat) (a : Int) (l0 : Option mx_V) (S h : mx_H) (n : Int), mx_ex d 71 1 [l0] [(2, a)] S h n = mx_gd (10 ≤ S a (-2) ∧ S a (-2) ≤ 10) d 71 4 [l0] [(0, h a 5)] S h n) ∧
  (∀ (d : Nat) (x : Int) (v0 : mx_V) (S h : mx_H) (n : Int), mx_ex d 71 4 [some (2, x)] [v0] S h n = mx_ex d 71 5 [some (2, x)] [(2, x), v0] S h n) ∧
  (∀ (d : Nat) (a : Int) (l0 : Option mx_V) (v1 : mx_V) (S h : mx_H) (n : Int), mx_ex d 71 5 [l0] [(2, a), v1] S h n = mx_gd (10 ≤ S a (-2) ∧ S a (-2) ≤ 10) d 71 8 [l0] [(0, h a 4), v1] S h n) ∧
  (∀ (d : Nat) (b a : Int) (l0 : Option mx_V) (S h : mx_H) (n : Int), mx_ex d 71 8 [l0] [(0, b), (0, a)] S h n = mx_br (a < b) d 71 11 38 [l0] [] S h n) ∧
  (∀ (d : Nat) (x : Int) (S h : mx_H) (n : Int), mx_ex d 71 11 [some (2, x)] [] S h n = mx_ex d 71 12 [some (2, x)] [(2, x)] S h n) ∧
  (∀ (d : Nat) (a : Int) (l0 : Option mx_V) (S h : mx_H) (n : Int), mx_ex d 71 12 [l0] [(2, a)] S h n = mx_gd (10 ≤ S a (-2) ∧ S a (-2) ≤ 10) d 71 15 [l0] [(2, S a 3)] S h n) ∧
  (∀ (d : Nat) (x : Int) (v0 : mx_V) (S h : mx_H) (n : Int), mx_ex d 71 15 [some (2, x)] [v0] S h n = mx_ex d 71 16 [some (2, x)] [(2, x), v0] S h n) ∧
  (∀ (d : Nat) (a : Int) (l0 : Option mx_V) (v1 : mx_V) (S h : mx_H) (n : Int), mx_ex d 71 16 [l0] [(2, a), v1] S h n = mx_gd (10 ≤ S a (-2) ∧ S a (-2) ≤ 10) d 71 19 [l0] [(0, h a 5), v1] S h n) ∧
  (∀ (d : Nat) (i a : Int) (l0 : Option mx_V) (S h : mx_H) (n : Int), mx_ex d 71 19 [l0] [(0, i), (2, a)] S h n = mx_gd ((S a (-2) = 20 ∨ S a (-2) = 24) ∧ 0 ≤ i ∧ i < S a (-1)) d 71 20 [l0] [(0, h a i)] S h n) ∧
  (∀ (d : Nat) (l0 : Option mx_V) (v0 : mx_V) (S h : mx_H) (n : Int), mx_ex d 71 20 [l0] [v0] S h n = mx_ex d 71 22 [l0] [(0, 32), v0] S h n) ∧
  (∀ (d : Nat) (b a : Int) (l0 : Option mx_V) (S h : mx_H) (n : Int), mx_ex d 71 22 [l0] [(0, b), (0, a)] S h n = mx_br (a = b) d 71 25 38 [l0] [] S h n) ∧
  (∀ (d : Nat) (x : Int) (S h : mx_H) (n : Int), mx_ex d 71 25 [some (2, x)] [] S h n = mx_ex d 71 26 [some (2, x)] [(2, x)] S h n) ∧
  (∀ (d : Nat) (a : Int) (l0 : Option mx_V) (S h : mx_H) (n : Int), mx_ex d 71 26 [l0] [(2, a)] S h n = mx_ex d 71 27 [l0] [(2, a), (2, a)] S h n) ∧
  (∀ (d : Nat) (a : Int) (l0 : Option mx_V) (v1 : mx_V) (S h : mx_H) (n : Int), mx_ex d 71 27 [l0] [(2, a), v1] S h n = mx_gd (10 ≤ S a (-2) ∧ S a (-2) ≤ 10) d 71 30 [l0] [(0, h a 5), v1] S h n) ∧
  (∀ (d : Nat) (l0 : Option mx_V) (v0 v1 : mx_V) (S h : mx_H) (n : Int), mx_ex d 71 30 [l0] [v0, v1] S h n = mx_ex d 71 31 [l0] [(0, 1), v0, v1] S h n) ∧
  (∀ (d : Nat) (b a : Int) (l0 : Option mx_V) (v2 : mx_V) (S h : mx_H) (n : Int), mx_ex d 71 31 [l0] [(0, b), (0, a), v2] S h n = mx_ex d 71 32 [l0] [(0, mx_w (a + b)), v2] S h n) ∧
  (∀ (d : Nat) (v a : Int) (l0 : Option mx_V) (S h : mx_H) (n : Int), mx_ex d 71 32 [l0] [(0, v), (2, a)] S h n = mx_gd (10 ≤ S a (-2) ∧ S a (-2) ≤ 10) d 71 35 [l0] [] S (mx_u h a 5 v) n) ∧
  (∀ (d : Nat) (l0 : Option mx_V) (S h : mx_H) (n : Int), mx_ex d 71 35 [l0] [] S h n = mx_ex d 71 0 [l0] [] S h n) ∧
  (∀ (d : Nat) (x : Int) (S h : mx_H) (n : Int), mx_ex d 71 38 [some (2, x)] [] S h n = mx_ex d 71 39 [some (2, x)] [(2, x)] S h n) ∧
  (∀ (d : Nat) (x : Int) (v0 : mx_V) (S h : mx_H) (n : Int), mx_ex d 71 39 [some (2, x)] [v0] S h n = mx_ex d 71 40 [some (2, x)] [(2, x), v0] S h n) ∧
  (∀ (d : Nat) (a : Int) (l0 : Option mx_V) (v1 : mx_V) (S h : mx_H) (n : Int), mx_ex d 71 40 [l0] [(2, a), v1] S h n = mx_gd (10 ≤ S a (-2) ∧ S a (-2) ≤ 10) d 71 43 [l0] [(0, h a 5), v1] S h n) ∧
  (∀ (d : Nat) (v a : Int) (l0 : Option mx_V) (S h : mx_H) (n : Int), mx_ex d 71 43 [l0] [(0, v), (2, a)] S h n = mx_gd (10 ≤ S a (-2) ∧ S a (-2) ≤ 10) d 71 46 [l0] [] S (mx_u h a 1 v) n) ∧
  (∀ (d : Nat) (x : Int) (S h : mx_H) (n : Int), mx_ex d 71 46 [some (2, x)] [] S h n = mx_ex d 71 47 [some (2, x)] [(2, x)] S h n) ∧
  (∀ (d : Nat) (l0 : Option mx_V) (v0 : mx_V) (S h : mx_H) (n : Int), mx_ex d 71 47 [l0] [v0] S h n = mx_ex d 71 48 [l0] [(0, (-1)), v0] S h n) ∧
  (∀ (d : Nat) (v a : Int) (l0 : Option mx_V) (S h : mx_H) (n : Int), mx_ex d 71 48 [l0] [(0, v), (2, a)] S h n = mx_gd (10 ≤ S a (-2) ∧ S a (-2) ≤ 10) d 71 51 [l0] [] S (mx_u h a 7 v) n) ∧
  (∀ (d : Nat) (x : Int) (S h : mx_H) (n : Int), mx_ex d 71 51 [some (2, x)] [] S h n = mx_ex d 71 52 [some (2, x)] [(2, x)] S h n) ∧
  (∀ (d : Nat) (a : Int) (l0 : Option mx_V) (S h : mx_H) (n : Int), mx_ex d 71 52 [l0] [(2, a)] S h n = mx_gd (10 ≤ S a (-2) ∧ S a (-2) ≤ 10) d 71 55 [l0] [(0, h a 5)] S h n) ∧
  (∀ (d : Nat) (x : Int) (v0 : mx_V) (S h : mx_H) (n : Int), mx_ex d 71 55 [some (2, x)] [v0] S h n = mx_ex d 71 56 [some (2, x)] [(2, x), v0] S h n) ∧
  (∀ (d : Nat) (a : Int) (l0 : Option mx_V) (v1 : mx_V) (S h : mx_H) (n : Int), mx_ex d 71 56 [l0] [(2, a), v1] S h n = mx_gd (10 ≤ S a (-2) ∧ S a (-2) ≤ 10) d 71 59 [l0] [(0, h a 4), v1] S h n) ∧
  (∀ (d : Nat) (b a : Int) (l0 : Option mx_V) (S h : mx_H) (n : Int), mx_ex d 71 59 [l0] [(0, b), (0, a)] S h n = mx_br (a < b) d 71 70 62 [l0] [] S h n) ∧
  (∀ (d : Nat) (x : Int) (S h : mx_H) (n : Int), mx_ex d 71 62 [some (2, x)] [] S h n = mx_ex d 71 63 [some (2, x)] [(2, x)] S h n) ∧
  (∀ (d : Nat) (l0 : Option mx_V) (v0 : mx_V) (S h : mx_H) (n : Int), mx_ex d 71 63 [l0] [v0] S h n = mx_ex d 71 64 [l0] [(0, 0), v0] S h n) ∧
  (∀ (d : Nat) (v a : Int) (l0 : Option mx_V) (S h : mx_H) (n : Int), mx_ex d 71 64 [l0] [(0, v), (2, a)] S h n = mx_gd (10 ≤ S a (-2) ∧ S a (-2) ≤ 10) d 71 67 [l0] [] S (mx_u h a 6 v) n) ∧
  (∀ (d : Nat) (l0 : Option mx_V) (S h : mx_H) (n : Int), mx_ex d 71 67 [l0] [] S h n = mx_ex d 71 240 [l0] [] S h n) ∧
  (∀ (d : Nat) (x : Int) (S h : mx_H) (n : Int), mx_ex d 71 70 [some (2, x)] [] S h n = mx_ex d 71 71 [some (2, x)] [(2, x)] S h n) ∧
  (∀ (d : Nat) (a : Int) (l0 : Option mx_V) (S h : mx_H) (n : Int), mx_ex d 71 71 [l0] [(2, a)] S h n = mx_gd (10 ≤ S a (-2) ∧ S a (-2) ≤ 10) d 71 74 [l0] [(2, S a 3)] S h n) ∧
  (∀ (d : Nat) (x : Int) (v0 : mx_V) (S h : mx_H) (n : Int), mx_ex d 71 74 [some (2, x)] [v0] S h n = mx_ex d 71 75 [some (2, x)] [(2, x), v0] S h n) ∧
  (∀ (d : Nat) (a : Int) (l0 : Option mx_V) (v1 : mx_V) (S h : mx_H) (n : Int), mx_ex d 71 75 [l0] [(2, a), v1] S h n = mx_gd (10 ≤ S a (-2) ∧ S a (-2) ≤ 10) d 71 78 [l0] [(0, h a 5), v1] S h n) ∧
  (∀ (d : Nat) (i a : Int) (l0 : Option mx_V) (S h : mx_H) (n : Int), mx_ex d 71 78 [l0] [(0, i), (2, a)] S h n = mx_gd ((S a (-2) = 20 ∨ S a (-2) = 24) ∧ 0 ≤ i ∧ i < S a (-1)) d 71 79 [l0] [(0, h a i)] S h n) ∧
  (∀ (d : Nat) (x0 : Int) (l0 : Option mx_V) (S h : mx_H) (n : Int), mx_ex (d + 1) 71 79 [l0] [(0, x0)] S h n = mx_rt (mx_M d 73 [(0, x0)] S h n) (d + 1) 71 82 [l0] []) ∧
  (∀ (d : Nat) (a : Int) (l0 : Option mx_V) (S h : mx_H) (n : Int), mx_ex d 71 82 [l0] [(0, a)] S h n = mx_br (a = 0) d 71 129 85 [l0] [] S h n) ∧
  (∀ (d : Nat) (x : Int) (S h : mx_H) (n : Int), mx_ex d 71 85 [some (2, x)] [] S h n = mx_ex d 71 86 [some (2, x)] [(2, x)] S h n) ∧
  (∀ (d : Nat) (l0 : Option mx_V) (v0 : mx_V) (S h : mx_H) (n : Int), mx_ex d 71 86 [l0] [v0] S h n = mx_ex d 71 87 [l0] [(0, 1), v0] S h n) ∧
  (∀ (d : Nat) (v a : Int) (l0 : Option mx_V) (S h : mx_H) (n : Int), mx_ex d 71 87 [l0] [(0, v), (2, a)] S h n = mx_gd (10 ≤ S a (-2) ∧ S a (-2) ≤ 10) d 71 90 [l0] [] S (mx_u h a 6 v) n) ∧
  (∀ (d : Nat) (a : Int) (l0 : Option mx_V) (S h : mx_H) (n : Int), mx_ex d 71 91 [l0] [(2, a)] S h n = mx_gd (10 ≤ S a (-2) ∧ S a (-2) ≤ 10) d 71 94 [l0] [(0, h a 5)] S h n) ∧
  (∀ (d : Nat) (x : Int) (v0 : mx_V) (S h : mx_H) (n : Int), mx_ex d 71 94 [some (2, x)] [v0] S h n = mx_ex d 71 95 [some (2, x)] [(2, x), v0] S h n) ∧
  (∀ (d : Nat) (a : Int) (l0 : Option mx_V) (v1 : mx_V) (S h : mx_H) (n : Int), mx_ex d 71 95 [l0] [(2, a), v1] S h n = mx_gd (10 ≤ S a (-2) ∧ S a (-2) ≤ 10) d 71 98 [l0] [(0, h a 4), v1] S h n) ∧
  (∀ (d : Nat) (b a : Int) (l0 : Option mx_V) (S h : mx_H) (n : Int), mx_ex d 71 98 [l0] [(0, b), (0, a)] S h n = mx_br (a < b) d 71 101 240 [l0] [] S h n) ∧
  (∀ (d : Nat) (x : Int) (S h : mx_H) (n : Int), mx_ex d 71 101 [some (2, x)] [] S h n = mx_ex d 71 102 [some (2, x)] [(2, x)] S h n) ∧
  (∀ (d : Nat) (a : Int) (l0 : Option mx_V) (S h : mx_H) (n : Int), mx_ex d 71 102 [l0] [(2, a)] S h n = mx_gd (10 ≤ S a (-2) ∧ S a (-2) ≤ 10) d 71 105 [l0] [(2, S a 3)] S h n) ∧
  (∀ (d : Nat) (x : Int) (v0 : mx_V) (S h : mx_H) (n : Int), mx_ex d 71 105 [some (2, x)] [v0] S h n = mx_ex d 71 106 [some (2, x)] [(2, x), v0] S h n) ∧
  (∀ (d : Nat) (a : Int) (l0 : Option mx_V) (v1 : mx_V) (S h : mx_H) (n : Int), mx_ex d 71 106 [l0] [(2, a), v1] S h n = mx_gd (10 ≤ S a (-2) ∧ S a (-2) ≤ 10) d 71 109 [l0] [(0, h a 5), v1] S h n) ∧
  (∀ (d : Nat) (i a : Int) (l0 : Option mx_V) (S h : mx_H) (n : Int), mx_ex d 71 109 [l0] [(0, i), (2, a)] S h n = mx_gd ((S a (-2) = 20 ∨ S a (-2) = 24) ∧ 0 ≤ i ∧ i < S a (-1)) d 71 110 [l0] [(0, h a i)] S h n) ∧
  (∀ (d : Nat) (x0 : Int) (l0 : Option mx_V) (S h : mx_H) (n : Int), mx_ex (d + 1) 71 110 [l0] [(0, x0)] S h n = mx_rt (mx_M d 73 [(0, x0)] S h n) (d + 1) 71 113 [l0] []) ∧
  (∀ (d : Nat) (a : Int) (l0 : Option mx_V) (S h : mx_H) (n : Int), mx_ex d 71 113 [l0] [(0, a)] S h n = mx_br (a = 0) d 71 240 116 [l0] [] S h n) ∧
  (∀ (d : Nat) (x : Int) (S h : mx_H) (n : Int), mx_ex d 71 116 [some (2, x)] [] S h n = mx_ex d 71 117 [some (2, x)] [(2, x)] S h n) ∧
  (∀ (d : Nat) (a : Int) (l0 : Option mx_V) (S h : mx_H) (n : Int), mx_ex d 71 117 [l0] [(2, a)] S h n = mx_ex d 71 118 [l0] [(2, a), (2, a)] S h n) ∧
  (∀ (d : Nat) (a : Int) (l0 : Option mx_V) (v1 : mx_V) (S h : mx_H) (n : Int), mx_ex d 71 118 [l0] [(2, a), v1] S h n = mx_gd (10 ≤ S a (-2) ∧ S a (-2) ≤ 10) d 71 121 [l0] [(0, h a 5), v1] S h n) ∧
  (∀ (d : Nat) (l0 : Option mx_V) (v0 v1 : mx_V) (S h : mx_H) (n : Int), mx_ex d 71 121 [l0] [v0, v1] S h n = mx_ex d 71 122 [l0] [(0, 1), v0, v1] S h n) ∧
  (∀ (d : Nat) (b a : Int) (l0 : Option mx_V) (v2 : mx_V) (S h : mx_H) (n : Int), mx_ex d 71 122 [l0] [(0, b), (0, a), v2] S h n = mx_ex d 71 123 [l0] [(0, mx_w (a + b)), v2] S h n) ∧
  (∀ (d : Nat) (v a : Int) (l0 : Option mx_V) (S h : mx_H) (n : Int), mx_ex d 71 123 [l0] [(0, v), (2, a)] S h n = mx_gd (10 ≤ S a (-2) ∧ S a (-2) ≤ 10) d 71 126 [l0] [] S (mx_u h a 5 v) n) ∧
  (∀ (d : Nat) (l0 : Option mx_V) (S h : mx_H) (n : Int), mx_ex d 71 126 [l0] [] S h n = mx_ex d 71 90 [l0] [] S h n) ∧
  (∀ (d : Nat) (x : Int) (S h : mx_H) (n : Int), mx_ex d 71 129 [some (2, x)] [] S h n = mx_ex d 71 130 [some (2, x)] [(2, x)] S h n) ∧
  (∀ (d : Nat) (a : Int) (l0 : Option mx_V) (S h : mx_H) (n : Int), mx_ex d 71 130 [l0] [(2, a)] S h n = mx_gd (10 ≤ S a (-2) ∧ S a (-2) ≤ 10) d 71 133 [l0] [(2, S a 3)] S h n) ∧
  (∀ (d : Nat) (x : Int) (v0 : mx_V) (S h : mx_H) (n : Int), mx_ex d 71 133 [some (2, x)] [v0] S h n = mx_ex d 71 134 [some (2, x)] [(2, x), v0] S h n) ∧
  (∀ (d : Nat) (a : Int) (l0 : Option mx_V) (v1 : mx_V) (S h : mx_H) (n : Int), mx_ex d 71 134 [l0] [(2, a), v1] S h n = mx_gd (10 ≤ S a (-2) ∧ S a (-2) ≤ 10) d 71 137 [l0] [(0, h a 5), v1] S h n) ∧
  (∀ (d : Nat) (i a : Int) (l0 : Option mx_V) (S h : mx_H) (n : Int), mx_ex d 71 137 [l0] [(0, i), (2, a)] S h n = mx_gd ((S a (-2) = 20 ∨ S a (-2) = 24) ∧ 0 ≤ i ∧ i < S a (-1)) d 71 138 [l0] [(0, h a i)] S h n) ∧
  (∀ (d : Nat) (x0 : Int) (l0 : Option mx_V) (S h : mx_H) (n : Int), mx_ex (d + 1) 71 138 [l0] [(0, x0)] S h n = mx_rt (mx_M d 74 [(0, x0)] S h n) (d + 1) 71 141 [l0] []) ∧
  (∀ (d : Nat) (a : Int) (l0 : Option mx_V) (S h : mx_H) (n : Int), mx_ex d 71 141 [l0] [(0, a)] S h n = mx_br (a = 0) d 71 212 144 [l0] [] S h n) :=
  ⟨by intros; exact rfl,
   by intros; exact eq_gi rfl,
   by intros; exact eq_ld rfl rfl,
   by intros; exact eq_gi rfl,
   by intros; exact eq_ic3 rfl,
   by intros; exact eq_ld rfl rfl,
   by intros; exact eq_gr rfl,
   by intros; exact eq_ld rfl rfl,
   by intros; exact eq_gi rfl,
   by intros; exact eq_iald rfl,
   by intros; exact eq_push rfl,
   by intros; exact eq_ic1 rfl,
   by intros; exact eq_ld rfl rfl,
   by intros; exact eq_dup rfl (by decide),
   by intros; exact eq_gi rfl,
   by intros; exact eq_push rfl,
   by intros; exact eq_i2 (o := mx_add) rfl,
   by intros; exact eq_pi rfl,
   by intros; exact eq_go rfl,
   by intros; exact eq_ld rfl rfl,
   by intros; exact eq_ld rfl rfl,
   by intros; exact eq_gi rfl,
   by intros; exact eq_pi rfl,
   by intros; exact eq_ld rfl rfl,
   by intros; exact eq_push rfl,
   by intros; exact eq_pi rfl,
   by intros; exact eq_ld rfl rfl,
   by intros; exact eq_gi rfl,
   by intros; exact eq_ld rfl rfl,
   by intros; exact eq_gi rfl,
   by intros; exact eq_ic2 rfl,
   by intros; exact eq_ld rfl rfl,
   by intros; exact eq_push rfl,
   by intros; exact eq_pi rfl,
   by intros; exact eq_go rfl,
   by intros; exact eq_ld rfl rfl,
   by intros; exact eq_gr rfl,
   by intros; exact eq_ld rfl rfl,
   by intros; exact eq_gi rfl,
   by intros; exact eq_iald rfl,
   by intros; exact eq_cs rfl (Nat.le_of_ble_eq_true rfl) rfl rfl rfl (Nat.le_of_ble_eq_true rfl),
   by intros; exact eq_if0 rfl,
   by intros; exact eq_ld rfl rfl,
   by intros; exact eq_push rfl,
   by intros; exact eq_pi rfl,
   by intros; exact eq_gi rfl,
   by intros; exact eq_ld rfl rfl,
   by intros; exact eq_gi rfl,
   by intros; exact eq_ic3 rfl,
   by intros; exact eq_ld rfl rfl,
   by intros; exact eq_gr rfl,
   by intros; exact eq_ld rfl rfl,
   by intros; exact eq_gi rfl,
   by intros; exact eq_iald rfl,
   by intros; exact eq_cs rfl (Nat.le_of_ble_eq_true rfl) rfl rfl rfl (Nat.le_of_ble_eq_true rfl),
   by intros; exact eq_if0 rfl,
   by intros; exact eq_ld rfl rfl,
   by intros; exact eq_dup rfl (by decide),
   by intros; exact eq_gi rfl,
   by intros; exact eq_push rfl,
   by intros; exact eq_i2 (o := mx_add) rfl,
   by intros; exact eq_pi rfl,
   by intros; exact eq_go rfl,
   by intros; exact eq_ld rfl rfl,
   by intros; exact eq_gr rfl,
   by intros; exact eq_ld rfl rfl,
   by intros; exact eq_gi rfl,
   by intros; exact eq_iald rfl,
   by intros; exact eq_cs rfl (Nat.le_of_ble_eq_true rfl) rfl rfl rfl (Nat.le_of_ble_eq_true rfl),
   by intros; exact eq_if0 rfl⟩
theorem rw_X7_next_1 :
  (∀ (d : Nat) (x : Int) (S h : mx_H) (n : Int), mx_ex d 71 144 [some (2, x)] [] S h n = mx_ex d 71 145 [some (2, x)] [(2, x)] S h n) ∧
  (∀ (d : Nat) (l0 : Option mx_V) (v0 : mx_V) (S h : mx_H) (n : Int), mx_ex d 71 145 [l0] [v0] S h n = mx_ex d 71 146 [l0] [(0, 2), v0] S h n) ∧
  (∀ (d : Nat) (v a : Int) (l0 : Option mx_V) (S h : mx_H) (n : Int), mx_ex d 71 146 [l0] [(0, v), (2, a)] S h n = mx_gd (10 ≤ S a (-2) ∧ S a (-2) ≤ 10) d 71 149 [l0] [] S (mx_u h a 6 v) n) ∧
  (∀ (d : Nat) (a : Int) (l0 : Option mx_V) (S h : mx_H) (n : Int), mx_ex d 71 150 [l0] [(2, a)] S h n = mx_gd (10 ≤ S a (-2) ∧ S a (-2) ≤ 10) d 71 153 [l0] [(0, h a 5)] S h n) ∧
  (∀ (d : Nat) (x : Int) (v0 : mx_V) (S h : mx_H) (n : Int), mx_ex d 71 153 [some (2, x)] [v0] S h n = mx_ex d 71 154 [some (2, x)] [(2, x), v0] S h n) ∧
  (∀ (d : Nat) (a : Int) (l0 : Option mx_V) (v1 : mx_V) (S h : mx_H) (n : Int), mx_ex d 71 154 [l0] [(2, a), v1] S h n = mx_gd (10 ≤ S a (-2) ∧ S a (-2) ≤ 10) d 71 157 [l0] [(0, h a 4), v1] S h n) ∧
  (∀ (d : Nat) (b a : Int) (l0 : Option mx_V) (S h : mx_H) (n : Int), mx_ex d 71 157 [l0] [(0, b), (0, a)] S h n = mx_br (a < b) d 71 160 188 [l0] [] S h n) ∧
  (∀ (d : Nat) (x : Int) (S h : mx_H) (n : Int), mx_ex d 71 160 [some (2, x)] [] S h n = mx_ex d 71 161 [some (2, x)] [(2, x)] S h n) ∧
  (∀ (d : Nat) (a : Int) (l0 : Option mx_V) (S h : mx_H) (n : Int), mx_ex d 71 161 [l0] [(2, a)] S h n = mx_gd (10 ≤ S a (-2) ∧ S a (-2) ≤ 10) d 71 164 [l0] [(2, S a 3)] S h n) ∧
  (∀ (d : Nat) (x : Int) (v0 : mx_V) (S h : mx_H) (n : Int), mx_ex d 71 164 [some (2, x)] [v0] S h n = mx_ex d 71 165 [some (2, x)] [(2, x), v0] S h n) ∧
  (∀ (d : Nat) (a : Int) (l0 : Option mx_V) (v1 : mx_V) (S h : mx_H) (n : Int), mx_ex d 71 165 [l0] [(2, a), v1] S h n = mx_gd (10 ≤ S a (-2) ∧ S a (-2) ≤ 10) d 71 168 [l0] [(0, h a 5), v1] S h n) ∧
  (∀ (d : Nat) (i a : Int) (l0 : Option mx_V) (S h : mx_H) (n : Int), mx_ex d 71 168 [l0] [(0, i), (2, a)] S h n = mx_gd ((S a (-2) = 20 ∨ S a (-2) = 24) ∧ 0 ≤ i ∧ i < S a (-1)) d 71 169 [l0] [(0, h a i)] S h n) ∧
  (∀ (d : Nat) (x0 : Int) (l0 : Option mx_V) (S h : mx_H) (n : Int), mx_ex (d + 1) 71 169 [l0] [(0, x0)] S h n = mx_rt (mx_M d 74 [(0, x0)] S h n) (d + 1) 71 172 [l0] []) ∧
  (∀ (d : Nat) (a : Int) (l0 : Option mx_V) (S h : mx_H) (n : Int), mx_ex d 71 172 [l0] [(0, a)] S h n = mx_br (a = 0) d 71 188 175 [l0] [] S h n) ∧
  (∀ (d : Nat) (x : Int) (S h : mx_H) (n : Int), mx_ex d 71 175 [some (2, x)] [] S h n = mx_ex d 71 176 [some (2, x)] [(2, x)] S h n) ∧
  (∀ (d : Nat) (a : Int) (l0 : Option mx_V) (S h : mx_H) (n : Int), mx_ex d 71 176 [l0] [(2, a)] S h n = mx_ex d 71 177 [l0] [(2, a), (2, a)] S h n) ∧
  (∀ (d : Nat) (a : Int) (l0 : Option mx_V) (v1 : mx_V) (S h : mx_H) (n : Int), mx_ex d 71 177 [l0] [(2, a), v1] S h n = mx_gd (10 ≤ S a (-2) ∧ S a (-2) ≤ 10) d 71 180 [l0] [(0, h a 5), v1] S h n) ∧
  (∀ (d : Nat) (l0 : Option mx_V) (v0 v1 : mx_V) (S h : mx_H) (n : Int), mx_ex d 71 180 [l0] [v0, v1] S h n = mx_ex d 71 181 [l0] [(0, 1), v0, v1] S h n) ∧
  (∀ (d : Nat) (b a : Int) (l0 : Option mx_V) (v2 : mx_V) (S h : mx_H) (n : Int), mx_ex d 71 181 [l0] [(0, b), (0, a), v2] S h n = mx_ex d 71 182 [l0] [(0, mx_w (a + b)), v2] S h n) ∧
  (∀ (d : Nat) (v a : Int) (l0 : Option mx_V) (S h : mx_H) (n : Int), mx_ex d 71 182 [l0] [(0, v), (2, a)] S h n = mx_gd (10 ≤ S a (-2) ∧ S a (-2) ≤ 10) d 71 185 [l0] [] S (mx_u h a 5 v) n) ∧
  (∀ (d : Nat) (l0 : Option mx_V) (S h : mx_H) (n : Int), mx_ex d 71 185 [l0] [] S h n = mx_ex d 71 149 [l0] [] S h n) ∧
  (∀ (d : Nat) (x : Int) (S h : mx_H) (n : Int), mx_ex d 71 188 [some (2, x)] [] S h n = mx_ex d 71 189 [some (2, x)] [(2, x)] S h n) ∧
  (∀ (d : Nat) (a : Int) (l0 : Option mx_V) (S h : mx_H) (n : Int), mx_ex d 71 189 [l0] [(2, a)] S h n = mx_gd (10 ≤ S a (-2) ∧ S a (-2) ≤ 10) d 71 192 [l0] [(0, h a 5)] S h n) ∧
  (∀ (d : Nat) (x : Int) (v0 : mx_V) (S h : mx_H) (n : Int), mx_ex d 71 192 [some (2, x)] [v0] S h n = mx_ex d 71 193 [some (2, x)] [(2, x), v0] S h n) ∧
  (∀ (d : Nat) (a : Int) (l0 : Option mx_V) (v1 : mx_V) (S h : mx_H) (n : Int), mx_ex d 71 193 [l0] [(2, a), v1] S h n = mx_gd (10 ≤ S a (-2) ∧ S a (-2) ≤ 10) d 71 196 [l0] [(0, h a 1), v1] S h n) ∧
  (∀ (d : Nat) (b a : Int) (l0 : Option mx_V) (S h : mx_H) (n : Int), mx_ex d 71 196 [l0] [(0, b), (0, a)] S h n = mx_ex d 71 197 [l0] [(0, mx_w (a - b))] S h n) ∧
  (∀ (d : Nat) (l0 : Option mx_V) (v0 : mx_V) (S h : mx_H) (n : Int), mx_ex d 71 197 [l0] [v0] S h n = mx_ex d 71 198 [l0] [(0, 2), v0] S h n) ∧
  (∀ (d : Nat) (b a : Int) (l0 : Option mx_V) (S h : mx_H) (n : Int), mx_ex d 71 198 [l0] [(0, b), (0, a)] S h n = mx_br (b < a) d 71 240 201 [l0] [] S h n) ∧
  (∀ (d : Nat) (x : Int) (S h : mx_H) (n : Int), mx_ex d 71 201 [some (2, x)] [] S h n = mx_ex d 71 202 [some (2, x)] [(2, x)] S h n) ∧
  (∀ (d : Nat) (x : Int) (v0 : mx_V) (S h : mx_H) (n : Int), mx_ex d 71 202 [some (2, x)] [v0] S h n = mx_ex d 71 203 [some (2, x)] [(2, x), v0] S h n) ∧
  (∀ (d : Nat) (a : Int) (l0 : Option mx_V) (v1 : mx_V) (S h : mx_H) (n : Int), mx_ex (d + 1) 71 203 [l0] [(2, a), v1] S h n = mx_cl (S a (-2) = 10) d 72 [(2, a)] 71 206 [l0] [v1] S h n) ∧
  (∀ (d : Nat) (v a : Int) (l0 : Option mx_V) (S h : mx_H) (n : Int), mx_ex d 71 206 [l0] [(0, v), (2, a)] S h n = mx_gd (10 ≤ S a (-2) ∧ S a (-2) ≤ 10) d 71 209 [l0] [] S (mx_u h a 7 v) n) ∧
  (∀ (d : Nat) (l0 : Option mx_V) (S h : mx_H) (n : Int), mx_ex d 71 209 [l0] [] S h n = mx_ex d 71 240 [l0] [] S h n) ∧
  (∀ (d : Nat) (x : Int) (S h : mx_H) (n : Int), mx_ex d 71 212 [some (2, x)] [] S h n = mx_ex d 71 213 [some (2, x)] [(2, x)] S h n) ∧
  (∀ (d : Nat) (l0 : Option mx_V) (v0 : mx_V) (S h : mx_H) (n : Int), mx_ex d 71 213 [l0] [v0] S h n = mx_ex d 71 214 [l0] [(0, 3), v0] S h n) ∧
  (∀ (d : Nat) (v a : Int) (l0 : Option mx_V) (S h : mx_H) (n : Int), mx_ex d 71 214 [l0] [(0, v), (2, a)] S h n = mx_gd (10 ≤ S a (-2) ∧ S a (-2) ≤ 10) d 71 217 [l0] [] S (mx_u h a 6 v) n) ∧
  (∀ (d : Nat) (x : Int) (S h : mx_H) (n : Int), mx_ex d 71 217 [some (2, x)] [] S h n = mx_ex d 71 218 [some (2, x)] [(2, x)] S h n) ∧
  (∀ (d : Nat) (x : Int) (v0 : mx_V) (S h : mx_H) (n : Int), mx_ex d 71 218 [some (2, x)] [v0] S h n = mx_ex d 71 219 [some (2, x)] [(2, x), v0] S h n) ∧
  (∀ (d : Nat) (a : Int) (l0 : Option mx_V) (v1 : mx_V) (S h : mx_H) (n : Int), mx_ex d 71 219 [l0] [(2, a), v1] S h n = mx_gd (10 ≤ S a (-2) ∧ S a (-2) ≤ 10) d 71 222 [l0] [(2, S a 3), v1] S h n) ∧
  (∀ (d : Nat) (x : Int) (v0 v1 : mx_V) (S h : mx_H) (n : Int), mx_ex d 71 222 [some (2, x)] [v0, v1] S h n = mx_ex d 71 223 [some (2, x)] [(2, x), v0, v1] S h n) ∧
  (∀ (d : Nat) (a : Int) (l0 : Option mx_V) (v1 v2 : mx_V) (S h : mx_H) (n : Int), mx_ex d 71 223 [l0] [(2, a), v1, v2] S h n = mx_gd (10 ≤ S a (-2) ∧ S a (-2) ≤ 10) d 71 226 [l0] [(0, h a 5), v1, v2] S h n) ∧
  (∀ (d : Nat) (i a : Int) (l0 : Option mx_V) (v2 : mx_V) (S h : mx_H) (n : Int), mx_ex d 71 226 [l0] [(0, i), (2, a), v2] S h n = mx_gd ((S a (-2) = 20 ∨ S a (-2) = 24) ∧ 0 ≤ i ∧ i < S a (-1)) d 71 227 [l0] [(0, h a i), v2] S h n) ∧
  (∀ (d : Nat) (v a : Int) (l0 : Option mx_V) (S h : mx_H) (n : Int), mx_ex d 71 227 [l0] [(0, v), (2, a)] S h n = mx_gd (10 ≤ S a (-2) ∧ S a (-2) ≤ 10) d 71 230 [l0] [] S (mx_u h a 7 v) n) ∧
  (∀ (d : Nat) (x : Int) (S h : mx_H) (n : Int), mx_ex d 71 230 [some (2, x)] [] S h n = mx_ex d 71 231 [some (2, x)] [(2, x)] S h n) ∧
  (∀ (d : Nat) (a : Int) (l0 : Option mx_V) (S h : mx_H) (n : Int), mx_ex d 71 231 [l0] [(2, a)] S h n = mx_ex d 71 232 [l0] [(2, a), (2, a)] S h n) ∧
  (∀ (d : Nat) (a : Int) (l0 : Option mx_V) (v1 : mx_V) (S h : mx_H) (n : Int), mx_ex d 71 232 [l0] [(2, a), v1] S h n = mx_gd (10 ≤ S a (-2) ∧ S a (-2) ≤ 10) d 71 235 [l0] [(0, h a 5), v1] S h n) ∧
  (∀ (d : Nat) (l0 : Option mx_V) (v0 v1 : mx_V) (S h : mx_H) (n : Int), mx_ex d 71 235 [l0] [v0, v1] S h n = mx_ex d 71 236 [l0] [(0, 1), v0, v1] S h n) ∧
  (∀ (d : Nat) (b a : Int) (l0 : Option mx_V) (v2 : mx_V) (S h : mx_H) (n : Int), mx_ex d 71 236 [l0] [(0, b), (0, a), v2] S h n = mx_ex d 71 237 [l0] [(0, mx_w (a + b)), v2] S h n) ∧
  (∀ (d : Nat) (v a : Int) (l0 : Option mx_V) (S h : mx_H) (n : Int), mx_ex d 71 237 [l0] [(0, v), (2, a)] S h n = mx_gd (10 ≤ S a (-2) ∧ S a (-2) ≤ 10) d 71 240 [l0] [] S (mx_u h a 5 v) n) ∧
  (∀ (d : Nat) (l0 : Option mx_V) (S h : mx_H) (n : Int), mx_ex d 71 240 [l0] [] S h n = some (none, S, h, n)) :=
  ⟨by intros; exact eq_ld rfl rfl,
   by intros; exact eq_push rfl,
   by intros; exact eq_pi rfl,
   by intros; exact eq_gi rfl,
   by intros; exact eq_ld rfl rfl,
   by intros; exact eq_gi rfl,
   by intros; exact eq_ic3 rfl,
   by intros; exact eq_ld rfl rfl,
   by intros; exact eq_gr rfl,
   by intros; exact eq_ld rfl rfl,
   by intros; exact eq_gi rfl,
   by intros; exact eq_iald rfl,
   by intros; exact eq_cs rfl (Nat.le_of_ble_eq_true rfl) rfl rfl rfl (Nat.le_of_ble_eq_true rfl),
   by intros; exact eq_if0 rfl,
   by intros; exact eq_ld rfl rfl,
   by intros; exact eq_dup rfl (by decide),
   by intros; exact eq_gi rfl,
   by intros; exact eq_push rfl,
   by intros; exact eq_i2 (o := mx_add) rfl,
   by intros; exact eq_pi rfl,
   by intros; exact eq_go rfl,
   by intros; exact eq_ld rfl rfl,
   by intros; exact eq_gi rfl,
   by intros; exact eq_ld rfl rfl,
   by intros; exact eq_gi rfl,
   by intros; exact eq_i2 (o := mx_sub) rfl,
   by intros; exact eq_push rfl,
   by intros; exact eq_ic4 rfl,
   by intros; exact eq_ld rfl rfl,
   by intros; exact eq_ld rfl rfl,
   by intros; exact eq_cv rfl (Nat.le_of_ble_eq_true rfl) rfl rfl rfl (Nat.le_of_ble_eq_true rfl),
   by intros; exact eq_pi rfl,
   by intros; exact eq_go rfl,
   by intros; exact eq_ld rfl rfl,
   by intros; exact eq_push rfl,
   by intros; exact eq_pi rfl,
   by intros; exact eq_ld rfl rfl,
   by intros; exact eq_ld rfl rfl,
   by intros; exact eq_gr rfl,
   by intros; exact eq_ld rfl rfl,
   by intros; exact eq_gi rfl,
   by intros; exact eq_iald rfl,
   by intros; exact eq_pi rfl,
   by intros; exact eq_ld rfl rfl,
   by intros; exact eq_dup rfl (by decide),
   by intros; exact eq_gi rfl,
   by intros; exact eq_push rfl,
   by intros; exact eq_i2 (o := mx_add) rfl,
   by intros; exact eq_pi rfl,
   by intros; exact eq_retv rfl⟩
theorem rh_X7_digitsWorth_7 : ∀ (d : Nat) (x : Int) (l0 l1 : Option mx_V) (S h : mx_H) (n : Int), mx_ex d 72 7 [l0, l1, some (0, x)] [] S h n = mx_ex d 72 8 [l0, l1, some (0, x)] [(0, x)] S h n := by intros; exact eq_ld rfl rfl
theorem rw_X7_digitsWorth :
  (∀ (d : Nat) (a0 : Int) (S h : mx_H) (n : Int), mx_M d 72 [(2, a0)] S h n = mx_ex d 72 0 [some (2, a0), none, none] [] S h n) ∧
  (∀ (d : Nat) (l0 l1 l2 : Option mx_V) (S h : mx_H) (n : Int), mx_ex d 72 0 [l0, l1, l2] [] S h n = mx_ex d 72 1 [l0, l1, l2] [(0, 0)] S h n) ∧
  (∀ (d : Nat) (x : Int) (l0 l1 l2 : Option mx_V) (S h : mx_H) (n : Int), mx_ex d 72 1 [l0, l1, l2] [(0, x)] S h n = mx_ex d 72 2 [mx_nl l0, some (0, x), l2] [] S h n) ∧
  (∀ (d : Nat) (x : Int) (l1 l2 : Option mx_V) (S h : mx_H) (n : Int), mx_ex d 72 2 [some (2, x), l1, l2] [] S h n = mx_ex d 72 3 [some (2, x), l1, l2] [(2, x)] S h n) ∧
  (∀ (d : Nat) (a : Int) (l0 l1 l2 : Option mx_V) (S h : mx_H) (n : Int), mx_ex d 72 3 [l0, l1, l2] [(2, a)] S h n = mx_gd (10 ≤ S a (-2) ∧ S a (-2) ≤ 10) d 72 6 [l0, l1, l2] [(0, h a 1)] S h n) ∧
  (∀ (d : Nat) (x : Int) (l0 l1 l2 : Option mx_V) (S h : mx_H) (n : Int), mx_ex d 72 6 [l0, l1, l2] [(0, x)] S h n = mx_ex d 72 7 [l0, mx_nl l1, some (0, x)] [] S h n) ∧
  (∀ (d : Nat) (x : Int) (l1 l2 : Option mx_V) (v0 : mx_V) (S h : mx_H) (n : Int), mx_ex d 72 8 [some (2, x), l1, l2] [v0] S h n = mx_ex d 72 9 [some (2, x), l1, l2] [(2, x), v0] S h n) ∧
  (∀ (d : Nat) (a : Int) (l0 l1 l2 : Option mx_V) (v1 : mx_V) (S h : mx_H) (n : Int), mx_ex d 72 9 [l0, l1, l2] [(2, a), v1] S h n = mx_gd (10 ≤ S a (-2) ∧ S a (-2) ≤ 10) d 72 12 [l0, l1, l2] [(0, h a 5), v1] S h n) ∧
  (∀ (d : Nat) (b a : Int) (l0 l1 l2 : Option mx_V) (S h : mx_H) (n : Int), mx_ex d 72 12 [l0, l1, l2] [(0, b), (0, a)] S h n = mx_br (a < b) d 72 15 36 [l0, l1, l2] [] S h n) ∧
  (∀ (d : Nat) (x : Int) (l0 l2 : Option mx_V) (S h : mx_H) (n : Int), mx_ex d 72 15 [l0, some (0, x), l2] [] S h n = mx_ex d 72 16 [l0, some (0, x), l2] [(0, x)] S h n) ∧
  (∀ (d : Nat) (l0 l1 l2 : Option mx_V) (v0 : mx_V) (S h : mx_H) (n : Int), mx_ex d 72 16 [l0, l1, l2] [v0] S h n = mx_ex d 72 18 [l0, l1, l2] [(0, 10), v0] S h n) ∧
  (∀ (d : Nat) (b a : Int) (l0 l1 l2 : Option mx_V) (S h : mx_H) (n : Int), mx_ex d 72 18 [l0, l1, l2] [(0, b), (0, a)] S h n = mx_ex d 72 19 [l0, l1, l2] [(0, mx_w (a * b))] S h n) ∧
  (∀ (d : Nat) (x : Int) (l1 l2 : Option mx_V) (v0 : mx_V) (S h : mx_H) (n : Int), mx_ex d 72 19 [some (2, x), l1, l2] [v0] S h n = mx_ex d 72 20 [some (2, x), l1, l2] [(2, x), v0] S h n) ∧
  (∀ (d : Nat) (a : Int) (l0 l1 l2 : Option mx_V) (v1 : mx_V) (S h : mx_H) (n : Int), mx_ex d 72 20 [l0, l1, l2] [(2, a), v1] S h n = mx_gd (10 ≤ S a (-2) ∧ S a (-2) ≤ 10) d 72 23 [l0, l1, l2] [(2, S a 3), v1] S h n) ∧
  (∀ (d : Nat) (x : Int) (l0 l1 : Option mx_V) (v0 v1 : mx_V) (S h : mx_H) (n : Int), mx_ex d 72 23 [l0, l1, some (0, x)] [v0, v1] S h n = mx_ex d 72 24 [l0, l1, some (0, x)] [(0, x), v0, v1] S h n) ∧
  (∀ (d : Nat) (i a : Int) (l0 l1 l2 : Option mx_V) (v2 : mx_V) (S h : mx_H) (n : Int), mx_ex d 72 24 [l0, l1, l2] [(0, i), (2, a), v2] S h n = mx_gd ((S a (-2) = 20 ∨ S a (-2) = 24) ∧ 0 ≤ i ∧ i < S a (-1)) d 72 25 [l0, l1, l2] [(0, h a i), v2] S h n) ∧
  (∀ (d : Nat) (b a : Int) (l0 l1 l2 : Option mx_V) (S h : mx_H) (n : Int), mx_ex d 72 25 [l0, l1, l2] [(0, b), (0, a)] S h n = mx_ex d 72 26 [l0, l1, l2] [(0, mx_w (a + b))] S h n) ∧
  (∀ (d : Nat) (l0 l1 l2 : Option mx_V) (v0 : mx_V) (S h : mx_H) (n : Int), mx_ex d 72 26 [l0, l1, l2] [v0] S h n = mx_ex d 72 28 [l0, l1, l2] [(0, 48), v0] S h n) ∧
  (∀ (d : Nat) (b a : Int) (l0 l1 l2 : Option mx_V) (S h : mx_H) (n : Int), mx_ex d 72 28 [l0, l1, l2] [(0, b), (0, a)] S h n = mx_ex d 72 29 [l0, l1, l2] [(0, mx_w (a - b))] S h n) ∧
  (∀ (d : Nat) (x : Int) (l0 l1 l2 : Option mx_V) (S h : mx_H) (n : Int), mx_ex d 72 29 [l0, l1, l2] [(0, x)] S h n = mx_ex d 72 30 [mx_nl l0, some (0, x), l2] [] S h n) ∧
  (∀ (d : Nat) (x : Int) (l0 l1 : Option mx_V) (S h : mx_H) (n : Int), mx_ex d 72 30 [l0, l1, some (0, x)] [] S h n = mx_ex d 72 33 [l0, mx_nl l1, some (0, mx_w (x + 1))] [] S h n) ∧
  (∀ (d : Nat) (l0 l1 l2 : Option mx_V) (S h : mx_H) (n : Int), mx_ex d 72 33 [l0, l1, l2] [] S h n = mx_ex d 72 7 [l0, l1, l2] [] S h n) ∧
  (∀ (d : Nat) (x : Int) (l0 l2 : Option mx_V) (S h : mx_H) (n : Int), mx_ex d 72 36 [l0, some (0, x), l2] [] S h n = mx_ex d 72 37 [l0, some (0, x), l2] [(0, x)] S h n) ∧
  (∀ (d : Nat) (x : Int) (l0 l1 l2 : Option mx_V) (S h : mx_H) (n : Int), mx_ex d 72 37 [l0, l1, l2] [(0, x)] S h n = some (some (0, x), S, h, n)) :=
  ⟨by intros; exact rfl,
   by intros; exact eq_push rfl,
   by intros; exact eq_st rfl (by decide) (Nat.le_of_ble_eq_true rfl) rfl,
   by intros; exact eq_ld rfl rfl,
   by intros; exact eq_gi rfl,
   by intros; exact eq_st rfl (by decide) (Nat.le_of_ble_eq_true rfl) rfl,
   by intros; exact eq_ld rfl rfl,
   by intros; exact eq_gi rfl,
   by intros; exact eq_ic3 rfl,
   by intros; exact eq_ld rfl rfl,
   by intros; exact eq_push rfl,
   by intros; exact eq_i2 (o := mx_mul) rfl,
   by intros; exact eq_ld rfl rfl,
   by intros; exact eq_gr rfl,
   by intros; exact eq_ld rfl rfl,
   by intros; exact eq_iald rfl,
   by intros; exact eq_i2 (o := mx_add) rfl,
   by intros; exact eq_push rfl,
   by intros; exact eq_i2 (o := mx_sub) rfl,
   by intros; exact eq_st rfl (by decide) (Nat.le_of_ble_eq_true rfl) rfl,
   by intros; exact eq_inc rfl rfl rfl,
   by intros; exact eq_go rfl,
   by intros; exact eq_ld rfl rfl,
   by intros; exact eq_ret rfl⟩
theorem rw_X7_isLetter :
  (∀ (d : Nat) (a0 : Int) (S h : mx_H) (n : Int), mx_M d 73 [(0, a0)] S h n = mx_ex d 73 0 [some (0, a0)] [] S h n) ∧
  (∀ (d : Nat) (x : Int) (S h : mx_H) (n : Int), mx_ex d 73 0 [some (0, x)] [] S h n = mx_ex d 73 1 [some (0, x)] [(0, x)] S h n) ∧
  (∀ (d : Nat) (l0 : Option mx_V) (v0 : mx_V) (S h : mx_H) (n : Int), mx_ex d 73 1 [l0] [v0] S h n = mx_ex d 73 3 [l0] [(0, 97), v0] S h n) ∧
  (∀ (d : Nat) (b a : Int) (l0 : Option mx_V) (S h : mx_H) (n : Int), mx_ex d 73 3 [l0] [(0, b), (0, a)] S h n = mx_br (a < b) d 73 16 6 [l0] [] S h n) ∧
  (∀ (d : Nat) (x : Int) (S h : mx_H) (n : Int), mx_ex d 73 6 [some (0, x)] [] S h n = mx_ex d 73 7 [some (0, x)] [(0, x)] S h n) ∧
  (∀ (d : Nat) (l0 : Option mx_V) (v0 : mx_V) (S h : mx_H) (n : Int), mx_ex d 73 7 [l0] [v0] S h n = mx_ex d 73 9 [l0] [(0, 122), v0] S h n) ∧
  (∀ (d : Nat) (b a : Int) (l0 : Option mx_V) (S h : mx_H) (n : Int), mx_ex d 73 9 [l0] [(0, b), (0, a)] S h n = mx_br (b < a) d 73 16 12 [l0] [] S h n) ∧
  (∀ (d : Nat) (l0 : Option mx_V) (S h : mx_H) (n : Int), mx_ex d 73 12 [l0] [] S h n = mx_ex d 73 13 [l0] [(0, 1)] S h n) ∧
  (∀ (d : Nat) (l0 : Option mx_V) (v0 : mx_V) (S h : mx_H) (n : Int), mx_ex d 73 13 [l0] [v0] S h n = mx_ex d 73 17 [l0] [v0] S h n) ∧
  (∀ (d : Nat) (l0 : Option mx_V) (S h : mx_H) (n : Int), mx_ex d 73 16 [l0] [] S h n = mx_ex d 73 17 [l0] [(0, 0)] S h n) ∧
  (∀ (d : Nat) (x : Int) (l0 : Option mx_V) (S h : mx_H) (n : Int), mx_ex d 73 17 [l0] [(0, x)] S h n = mx_re (0 ≤ x ∧ x ≤ 1) (some (0, x)) S h n) :=
  ⟨by intros; exact rfl,
   by intros; exact eq_ld rfl rfl,
   by intros; exact eq_push rfl,
   by intros; exact eq_ic2 rfl,
   by intros; exact eq_ld rfl rfl,
   by intros; exact eq_push rfl,
   by intros; exact eq_ic4 rfl,
   by intros; exact eq_push rfl,
   by intros; exact eq_go rfl,
   by intros; exact eq_push rfl,
   by intros; exact eq_rr rfl⟩
theorem rw_X7_isDigit :
  (∀ (d : Nat) (a0 : Int) (S h : mx_H) (n : Int), mx_M d 74 [(0, a0)] S h n = mx_ex d 74 0 [some (0, a0)] [] S h n) ∧
  (∀ (d : Nat) (x : Int) (S h : mx_H) (n : Int), mx_ex d 74 0 [some (0, x)] [] S h n = mx_ex d 74 1 [some (0, x)] [(0, x)] S h n) ∧
  (∀ (d : Nat) (l0 : Option mx_V) (v0 : mx_V) (S h : mx_H) (n : Int), mx_ex d 74 1 [l0] [v0] S h n = mx_ex d 74 3 [l0] [(0, 48), v0] S h n) ∧
  (∀ (d : Nat) (b a : Int) (l0 : Option mx_V) (S h : mx_H) (n : Int), mx_ex d 74 3 [l0] [(0, b), (0, a)] S h n = mx_br (a < b) d 74 16 6 [l0] [] S h n) ∧
  (∀ (d : Nat) (x : Int) (S h : mx_H) (n : Int), mx_ex d 74 6 [some (0, x)] [] S h n = mx_ex d 74 7 [some (0, x)] [(0, x)] S h n) ∧
  (∀ (d : Nat) (l0 : Option mx_V) (v0 : mx_V) (S h : mx_H) (n : Int), mx_ex d 74 7 [l0] [v0] S h n = mx_ex d 74 9 [l0] [(0, 57), v0] S h n) ∧
  (∀ (d : Nat) (b a : Int) (l0 : Option mx_V) (S h : mx_H) (n : Int), mx_ex d 74 9 [l0] [(0, b), (0, a)] S h n = mx_br (b < a) d 74 16 12 [l0] [] S h n) ∧
  (∀ (d : Nat) (l0 : Option mx_V) (S h : mx_H) (n : Int), mx_ex d 74 12 [l0] [] S h n = mx_ex d 74 13 [l0] [(0, 1)] S h n) ∧
  (∀ (d : Nat) (l0 : Option mx_V) (v0 : mx_V) (S h : mx_H) (n : Int), mx_ex d 74 13 [l0] [v0] S h n = mx_ex d 74 17 [l0] [v0] S h n) ∧
  (∀ (d : Nat) (l0 : Option mx_V) (S h : mx_H) (n : Int), mx_ex d 74 16 [l0] [] S h n = mx_ex d 74 17 [l0] [(0, 0)] S h n) ∧
  (∀ (d : Nat) (x : Int) (l0 : Option mx_V) (S h : mx_H) (n : Int), mx_ex d 74 17 [l0] [(0, x)] S h n = mx_re (0 ≤ x ∧ x ≤ 1) (some (0, x)) S h n) :=
  ⟨by intros; exact rfl,
   by intros; exact eq_ld rfl rfl,
   by intros; exact eq_push rfl,
   by intros; exact eq_ic2 rfl,
   by intros; exact eq_ld rfl rfl,
   by intros; exact eq_push rfl,
   by intros; exact eq_ic4 rfl,
   by intros; exact eq_push rfl,
   by intros; exact eq_go rfl,
   by intros; exact eq_push rfl,
   by intros; exact eq_rr rfl⟩
theorem rw_X10_init :
  (∀ (d : Nat) (a0 : Int) (S h : mx_H) (n : Int), mx_M d 85 [(2, a0)] S h n = mx_ex d 85 0 [some (2, a0)] [] S h n) ∧
  (∀ (d : Nat) (x : Int) (S h : mx_H) (n : Int), mx_ex d 85 0 [some (2, x)] [] S h n = mx_ex d 85 1 [some (2, x)] [(2, x)] S h n) ∧
  (∀ (d : Nat) (a : Int) (l0 : Option mx_V) (S h : mx_H) (n : Int), mx_ex d 85 1 [l0] [(2, a)] S h n = mx_gd (0 ≤ a) d 85 4 [l0] [] S h n) ∧
  (∀ (d : Nat) (x : Int) (S h : mx_H) (n : Int), mx_ex d 85 4 [some (2, x)] [] S h n = mx_ex d 85 5 [some (2, x)] [(2, x)] S h n) ∧
  (∀ (d : Nat) (l0 : Option mx_V) (v0 : mx_V) (S h : mx_H) (n : Int), mx_ex d 85 5 [l0] [v0] S h n = mx_ex d 85 6 [l0] [(0, 3), v0] S h n) ∧
  (∀ (d : Nat) (x : Int) (l0 : Option mx_V) (v1 : mx_V) (S h : mx_H) (n : Int), mx_ex d 85 6 [l0] [(0, x), v1] S h n = mx_gd (0 ≤ x ∧ x ≤ 300) d 85 8 [l0] [(2, n), v1] (mx_t S n 20 x) (mx_z h n) (n + 1)) ∧
  (∀ (d : Nat) (v a : Int) (l0 : Option mx_V) (S h : mx_H) (n : Int), mx_ex d 85 8 [l0] [(2, v), (2, a)] S h n = mx_gd (8 ≤ S a (-2) ∧ S a (-2) ≤ 8) d 85 11 [l0] [] (mx_u S a 0 v) h n) ∧
  (∀ (d : Nat) (x : Int) (S h : mx_H) (n : Int), mx_ex d 85 11 [some (2, x)] [] S h n = mx_ex d 85 12 [some (2, x)] [(2, x)] S h n) ∧
  (∀ (d : Nat) (l0 : Option mx_V) (v0 : mx_V) (S h : mx_H) (n : Int), mx_ex d 85 12 [l0] [v0] S h n = mx_ex d 85 13 [l0] [(0, 3), v0] S h n) ∧
  (∀ (d : Nat) (x : Int) (l0 : Option mx_V) (v1 : mx_V) (S h : mx_H) (n : Int), mx_ex d 85 13 [l0] [(0, x), v1] S h n = mx_gd (0 ≤ x ∧ x ≤ 300) d 85 15 [l0] [(2, n), v1] (mx_t S n 20 x) (mx_z h n) (n + 1)) ∧
  (∀ (d : Nat) (v a : Int) (l0 : Option mx_V) (S h : mx_H) (n : Int), mx_ex d 85 15 [l0] [(2, v), (2, a)] S h n = mx_gd (8 ≤ S a (-2) ∧ S a (-2) ≤ 8) d 85 18 [l0] [] (mx_u S a 1 v) h n) ∧
  (∀ (d : Nat) (x : Int) (S h : mx_H) (n : Int), mx_ex d 85 18 [some (2, x)] [] S h n = mx_ex d 85 19 [some (2, x)] [(2, x)] S h n) ∧
  (∀ (d : Nat) (l0 : Option mx_V) (v0 : mx_V) (S h : mx_H) (n : Int), mx_ex d 85 19 [l0] [v0] S h n = mx_ex d 85 21 [l0] [(0, 24), v0] S h n) ∧
  (∀ (d : Nat) (x : Int) (l0 : Option mx_V) (v1 : mx_V) (S h : mx_H) (n : Int), mx_ex d 85 21 [l0] [(0, x), v1] S h n = mx_gd (0 ≤ x ∧ x ≤ 300) d 85 23 [l0] [(2, n), v1] (mx_t S n 20 x) (mx_z h n) (n + 1)) ∧
  (∀ (d : Nat) (v a : Int) (l0 : Option mx_V) (S h : mx_H) (n : Int), mx_ex d 85 23 [l0] [(2, v), (2, a)] S h n = mx_gd (8 ≤ S a (-2) ∧ S a (-2) ≤ 8) d 85 26 [l0] [] (mx_u S a 2 v) h n) ∧
  (∀ (d : Nat) (x : Int) (S h : mx_H) (n : Int), mx_ex d 85 26 [some (2, x)] [] S h n = mx_ex d 85 27 [some (2, x)] [(2, x)] S h n) ∧
  (∀ (d : Nat) (l0 : Option mx_V) (v0 : mx_V) (S h : mx_H) (n : Int), mx_ex d 85 27 [l0] [v0] S h n = mx_ex d 85 28 [l0] [(0, 0), v0] S h n) ∧
  (∀ (d : Nat) (v a : Int) (l0 : Option mx_V) (S h : mx_H) (n : Int), mx_ex d 85 28 [l0] [(0, v), (2, a)] S h n = mx_gd (8 ≤ S a (-2) ∧ S a (-2) ≤ 8) d 85 31 [l0] [] S (mx_u h a 3 v) n) ∧
  (∀ (d : Nat) (x : Int) (S h : mx_H) (n : Int), mx_ex d 85 31 [some (2, x)] [] S h n = mx_ex d 85 32 [some (2, x)] [(2, x)] S h n) ∧
  (∀ (d : Nat) (l0 : Option mx_V) (v0 : mx_V) (S h : mx_H) (n : Int), mx_ex d 85 32 [l0] [v0] S h n = mx_ex d 85 33 [l0] [(0, 0), v0] S h n) ∧
  (∀ (d : Nat) (v a : Int) (l0 : Option mx_V) (S h : mx_H) (n : Int), mx_ex d 85 33 [l0] [(0, v), (2, a)] S h n = mx_gd (8 ≤ S a (-2) ∧ S a (-2) ≤ 8) d 85 36 [l0] [] S (mx_u h a 4 v) n) ∧
  (∀ (d : Nat) (x : Int) (S h : mx_H) (n : Int), mx_ex d 85 36 [some (2, x)] [] S h n = mx_ex d 85 37 [some (2, x)] [(2, x)] S h n) ∧
  (∀ (d : Nat) (l0 : Option mx_V) (v0 : mx_V) (S h : mx_H) (n : Int), mx_ex d 85 37 [l0] [v0] S h n = mx_ex d 85 38 [l0] [(0, 0), v0] S h n) ∧
  (∀ (d : Nat) (v a : Int) (l0 : Option mx_V) (S h : mx_H) (n : Int), mx_ex d 85 38 [l0] [(0, v), (2, a)] S h n = mx_gd (8 ≤ S a (-2) ∧ S a (-2) ≤ 8) d 85 41 [l0] [] S (mx_u h a 5 v) n) ∧
  (∀ (d : Nat) (x : Int) (S h : mx_H) (n : Int), mx_ex d 85 41 [some (2, x)] [] S h n = mx_ex d 85 42 [some (2, x)] [(2, x)] S h n) ∧
  (∀ (d : Nat) (l0 : Option mx_V) (v0 : mx_V) (S h : mx_H) (n : Int), mx_ex d 85 42 [l0] [v0] S h n = mx_ex d 85 44 [l0] [(0, 6), v0] S h n) ∧
  (∀ (d : Nat) (x : Int) (l0 : Option mx_V) (v1 : mx_V) (S h : mx_H) (n : Int), mx_ex d 85 44 [l0] [(0, x), v1] S h n = mx_gd (0 ≤ x ∧ x ≤ 300) d 85 47 [l0] [(2, n), v1] (mx_t S n 22 x) (mx_z h n) (n + 1)) ∧
  (∀ (d : Nat) (v a : Int) (l0 : Option mx_V) (S h : mx_H) (n : Int), mx_ex d 85 47 [l0] [(2, v), (2, a)] S h n = mx_gd (8 ≤ S a (-2) ∧ S a (-2) ≤ 8) d 85 50 [l0] [] (mx_u S a 6 v) h n) ∧
  (∀ (d : Nat) (x : Int) (S h : mx_H) (n : Int), mx_ex d 85 50 [some (2, x)] [] S h n = mx_ex d 85 51 [some (2, x)] [(2, x)] S h n) ∧
  (∀ (d : Nat) (a : Int) (l0 : Option mx_V) (S h : mx_H) (n : Int), mx_ex d 85 51 [l0] [(2, a)] S h n = mx_gd (8 ≤ S a (-2) ∧ S a (-2) ≤ 8) d 85 54 [l0] [(2, S a 0)] S h n) ∧
  (∀ (d : Nat) (l0 : Option mx_V) (v0 : mx_V) (S h : mx_H) (n : Int), mx_ex d 85 54 [l0] [v0] S h n = mx_ex d 85 55 [l0] [(0, 2), v0] S h n) ∧
  (∀ (d : Nat) (x0 x1 : Int) (l0 : Option mx_V) (S h : mx_H) (n : Int), mx_ex (d + 1) 85 55 [l0] [(0, x0), (2, x1)] S h n = mx_rt (mx_M d 257 [(2, x1), (0, x0)] S h n) (d + 1) 85 58 [l0] []) ∧
  (∀ (d : Nat) (x : Int) (S h : mx_H) (n : Int), mx_ex d 85 58 [some (2, x)] [] S h n = mx_ex d 85 59 [some (2, x)] [(2, x)] S h n) ∧
  (∀ (d : Nat) (a : Int) (l0 : Option mx_V) (S h : mx_H) (n : Int), mx_ex d 85 59 [l0] [(2, a)] S h n = mx_gd (8 ≤ S a (-2) ∧ S a (-2) ≤ 8) d 85 62 [l0] [(2, S a 1)] S h n) ∧
  (∀ (d : Nat) (l0 : Option mx_V) (v0 : mx_V) (S h : mx_H) (n : Int), mx_ex d 85 62 [l0] [v0] S h n = mx_ex d 85 64 [l0] [(0, 16), v0] S h n) ∧
  (∀ (d : Nat) (x0 x1 : Int) (l0 : Option mx_V) (S h : mx_H) (n : Int), mx_ex (d + 1) 85 64 [l0] [(0, x0), (2, x1)] S h n = mx_rt (mx_M d 257 [(2, x1), (0, x0)] S h n) (d + 1) 85 67 [l0] []) ∧
  (∀ (d : Nat) (l0 : Option mx_V) (S h : mx_H) (n : Int), mx_ex d 85 67 [l0] [] S h n = some (none, S, h, n)) :=
  ⟨by intros; exact rfl,
   by intros; exact eq_ld rfl rfl,
   by intros; exact eq_oini rfl (Nat.le_of_ble_eq_true rfl),
   by intros; exact eq_ld rfl rfl,
   by intros; exact eq_push rfl,
   by intros; exact eq_newa rfl,
   by intros; exact eq_pr rfl,
   by intros; exact eq_ld rfl rfl,
   by intros; exact eq_push rfl,
   by intros; exact eq_newa rfl,
   by intros; exact eq_pr rfl,
   by intros; exact eq_ld rfl rfl,
   by intros; exact eq_push rfl,
   by intros; exact eq_newa rfl,
   by intros; exact eq_pr rfl,
   by intros; exact eq_ld rfl rfl,
   by intros; exact eq_push rfl,
   by intros; exact eq_pi rfl,
   by intros; exact eq_ld rfl rfl,
   by intros; exact eq_push rfl,
   by intros; exact eq_pi rfl,
   by intros; exact eq_ld rfl rfl,
   by intros; exact eq_push rfl,
   by intros; exact eq_pi rfl,
   by intros; exact eq_ld rfl rfl,
   by intros; exact eq_push rfl,
   by intros; exact eq_newa rfl,
   by intros; exact eq_pr rfl,
   by intros; exact eq_ld rfl rfl,
   by intros; exact eq_gr rfl,
   by intros; exact eq_push rfl,
   by intros; exact eq_cs rfl (Nat.le_of_ble_eq_true rfl) rfl rfl rfl (Nat.le_of_ble_eq_true rfl),
   by intros; exact eq_ld rfl rfl,
   by intros; exact eq_gr rfl,
   by intros; exact eq_push rfl,
   by intros; exact eq_cs rfl (Nat.le_of_ble_eq_true rfl) rfl rfl rfl (Nat.le_of_ble_eq_true rfl),
   by intros; exact eq_retv rfl⟩
theorem rw_X10_clear :
  (∀ (d : Nat) (a0 : Int) (S h : mx_H) (n : Int), mx_M d 86 [(2, a0)] S h n = mx_ex d 86 0 [some (2, a0)] [] S h n) ∧
  (∀ (d : Nat) (x : Int) (S h : mx_H) (n : Int), mx_ex d 86 0 [some (2, x)] [] S h n = mx_ex d 86 1 [some (2, x)] [(2, x)] S h n) ∧
  (∀ (d : Nat) (a : Int) (l0 : Option mx_V) (S h : mx_H) (n : Int), mx_ex d 86 1 [l0] [(2, a)] S h n = mx_gd (8 ≤ S a (-2) ∧ S a (-2) ≤ 8) d 86 4 [l0] [(2, S a 0)] S h n) ∧
  (∀ (d : Nat) (l0 : Option mx_V) (v0 : mx_V) (S h : mx_H) (n : Int), mx_ex d 86 4 [l0] [v0] S h n = mx_ex d 86 5 [l0] [(0, 2), v0] S h n) ∧
  (∀ (d : Nat) (x0 x1 : Int) (l0 : Option mx_V) (S h : mx_H) (n : Int), mx_ex (d + 1) 86 5 [l0] [(0, x0), (2, x1)] S h n = mx_rt (mx_M d 257 [(2, x1), (0, x0)] S h n) (d + 1) 86 8 [l0] []) ∧
  (∀ (d : Nat) (x : Int) (S h : mx_H) (n : Int), mx_ex d 86 8 [some (2, x)] [] S h n = mx_ex d 86 9 [some (2, x)] [(2, x)] S h n) ∧
  (∀ (d : Nat) (a : Int) (l0 : Option mx_V) (S h : mx_H) (n : Int), mx_ex d 86 9 [l0] [(2, a)] S h n = mx_gd (8 ≤ S a (-2) ∧ S a (-2) ≤ 8) d 86 12 [l0] [(2, S a 1)] S h n) ∧
  (∀ (d : Nat) (l0 : Option mx_V) (v0 : mx_V) (S h : mx_H) (n : Int), mx_ex d 86 12 [l0] [v0] S h n = mx_ex d 86 14 [l0] [(0, 16), v0] S h n) ∧
  (∀ (d : Nat) (x0 x1 : Int) (l0 : Option mx_V) (S h : mx_H) (n : Int), mx_ex (d + 1) 86 14 [l0] [(0, x0), (2, x1)] S h n = mx_rt (mx_M d 257 [(2, x1), (0, x0)] S h n) (d + 1) 86 17 [l0] []) ∧
  (∀ (d : Nat) (x : Int) (S h : mx_H) (n : Int), mx_ex d 86 17 [some (2, x)] [] S h n = mx_ex d 86 18 [some (2, x)] [(2, x)] S h n) ∧
  (∀ (d : Nat) (l0 : Option mx_V) (v0 : mx_V) (S h : mx_H) (n : Int), mx_ex d 86 18 [l0] [v0] S h n = mx_ex d 86 19 [l0] [(0, 0), v0] S h n) ∧
  (∀ (d : Nat) (v a : Int) (l0 : Option mx_V) (S h : mx_H) (n : Int), mx_ex d 86 19 [l0] [(0, v), (2, a)] S h n = mx_gd (8 ≤ S a (-2) ∧ S a (-2) ≤ 8) d 86 22 [l0] [] S (mx_u h a 3 v) n) ∧
  (∀ (d : Nat) (x : Int) (S h : mx_H) (n : Int), mx_ex d 86 22 [some (2, x)] [] S h n = mx_ex d 86 23 [some (2, x)] [(2, x)] S h n) ∧
  (∀ (d : Nat) (l0 : Option mx_V) (v0 : mx_V) (S h : mx_H) (n : Int), mx_ex d 86 23 [l0] [v0] S h n = mx_ex d 86 24 [l0] [(0, 0), v0] S h n) ∧
  (∀ (d : Nat) (v a : Int) (l0 : Option mx_V) (S h : mx_H) (n : Int), mx_ex d 86 24 [l0] [(0, v), (2, a)] S h n = mx_gd (8 ≤ S a (-2) ∧ S a (-2) ≤ 8) d 86 27 [l0] [] S (mx_u h a 4 v) n) ∧
  (∀ (d : Nat) (x : Int) (S h : mx_H) (n : Int), mx_ex d 86 27 [some (2, x)] [] S h n = mx_ex d 86 28 [some (2, x)] [(2, x)] S h n) ∧
  (∀ (d : Nat) (a : Int) (l0 : Option mx_V) (S h : mx_H) (n : Int), mx_ex d 86 28 [l0] [(2, a)] S h n = mx_ex d 86 29 [l0] [(2, a), (2, a)] S h n) ∧
  (∀ (d : Nat) (a : Int) (l0 : Option mx_V) (v1 : mx_V) (S h : mx_H) (n : Int), mx_ex d 86 29 [l0] [(2, a), v1] S h n = mx_gd (8 ≤ S a (-2) ∧ S a (-2) ≤ 8) d 86 32 [l0] [(0, h a 5), v1] S h n) ∧
  (∀ (d : Nat) (l0 : Option mx_V) (v0 v1 : mx_V) (S h : mx_H) (n : Int), mx_ex d 86 32 [l0] [v0, v1] S h n = mx_ex d 86 33 [l0] [(0, 1), v0, v1] S h n) ∧
  (∀ (d : Nat) (b a : Int) (l0 : Option mx_V) (v2 : mx_V) (S h : mx_H) (n : Int), mx_ex d 86 33 [l0] [(0, b), (0, a), v2] S h n = mx_ex d 86 34 [l0] [(0, mx_w (a + b)), v2] S h n) ∧
  (∀ (d : Nat) (v a : Int) (l0 : Option mx_V) (S h : mx_H) (n : Int), mx_ex d 86 34 [l0] [(0, v), (2, a)] S h n = mx_gd (8 ≤ S a (-2) ∧ S a (-2) ≤ 8) d 86 37 [l0] [] S (mx_u h a 5 v) n) ∧
  (∀ (d : Nat) (l0 : Option mx_V) (S h : mx_H) (n : Int), mx_ex d 86 37 [l0] [] S h n = some (none, S, h, n)) :=
  ⟨by intros; exact rfl,
   by intros; exact eq_ld rfl rfl,
   by intros; exact eq_gr rfl,
   by intros; exact eq_push rfl,
   by intros; exact eq_cs rfl (Nat.le_of_ble_eq_true rfl) rfl rfl rfl (Nat.le_of_ble_eq_true rfl),
   by intros; exact eq_ld rfl rfl,
   by intros; exact eq_gr rfl,
   by intros; exact eq_push rfl,
   by intros; exact eq_cs rfl (Nat.le_of_ble_eq_true rfl) rfl rfl rfl (Nat.le_of_ble_eq_true rfl),
   by intros; exact eq_ld rfl rfl,
   by intros; exact eq_push rfl,
   by intros; exact eq_pi rfl,
   by intros; exact eq_ld rfl rfl,
   by intros; exact eq_push rfl,
   by intros; exact eq_pi rfl,
   by intros; exact eq_ld rfl rfl,
   by intros; exact eq_dup rfl (by decide),
   by intros; exact eq_gi rfl,
   by intros; exact eq_push rfl,
   by intros; exact eq_i2 (o := mx_add) rfl,
   by intros; exact eq_pi rfl,
   by intros; exact eq_retv rfl⟩
theorem rh_X10_become_34 : ∀ (d : Nat) (x : Int) (l0 l1 l3 : Option mx_V) (S h : mx_H) (n : Int), mx_ex d 87 34 [l0, l1, some (0, x), l3] [] S h n = mx_ex d 87 35 [l0, l1, some (0, x), l3] [(0, x)] S h n := by intros; exact eq_ld rfl rfl
theorem rw_X10_become :
  (∀ (d : Nat) (a0 a1 : Int) (S h : mx_H) (n : Int), mx_M d 87 [(2, a0), (2, a1)] S h n = mx_ex d 87 0 [some (2, a0), some (2, a1), none, none] [] S h n) ∧
  (∀ (d : Nat) (x : Int) (l1 l2 l3 : Option mx_V) (S h : mx_H) (n : Int), mx_ex d 87 0 [some (2, x), l1, l2, l3] [] S h n = mx_ex d 87 1 [some (2, x), l1, l2, l3] [(2, x)] S h n) ∧
  (∀ (d : Nat) (a : Int) (l0 l1 l2 l3 : Option mx_V) (S h : mx_H) (n : Int), mx_ex (d + 1) 87 1 [l0, l1, l2, l3] [(2, a)] S h n = mx_cl (S a (-2) = 8) d 86 [(2, a)] 87 4 [l0, l1, l2, l3] [] S h n) ∧
  (∀ (d : Nat) (x : Int) (l0 l2 l3 : Option mx_V) (S h : mx_H) (n : Int), mx_ex d 87 4 [l0, some (2, x), l2, l3] [] S h n = mx_ex d 87 5 [l0, some (2, x), l2, l3] [(2, x)] S h n) ∧
  (∀ (d : Nat) (a : Int) (l0 l1 l2 l3 : Option mx_V) (S h : mx_H) (n : Int), mx_ex d 87 5 [l0, l1, l2, l3] [(2, a)] S h n = mx_gd (8 ≤ S a (-2) ∧ S a (-2) ≤ 8) d 87 8 [l0, l1, l2, l3] [(2, S a 0)] S h n) ∧
  (∀ (d : Nat) (l0 l1 l2 l3 : Option mx_V) (v0 : mx_V) (S h : mx_H) (n : Int), mx_ex d 87 8 [l0, l1, l2, l3] [v0] S h n = mx_ex d 87 9 [l0, l1, l2, l3] [(0, 0), v0] S h n) ∧
  (∀ (d : Nat) (x : Int) (l1 l2 l3 : Option mx_V) (v0 v1 : mx_V) (S h : mx_H) (n : Int), mx_ex d 87 9 [some (2, x), l1, l2, l3] [v0, v1] S h n = mx_ex d 87 10 [some (2, x), l1, l2, l3] [(2, x), v0, v1] S h n) ∧
  (∀ (d : Nat) (a : Int) (l0 l1 l2 l3 : Option mx_V) (v1 v2 : mx_V) (S h : mx_H) (n : Int), mx_ex d 87 10 [l0, l1, l2, l3] [(2, a), v1, v2] S h n = mx_gd (8 ≤ S a (-2) ∧ S a (-2) ≤ 8) d 87 13 [l0, l1, l2, l3] [(2, S a 0), v1, v2] S h n) ∧
  (∀ (d : Nat) (l0 l1 l2 l3 : Option mx_V) (v0 v1 v2 : mx_V) (S h : mx_H) (n : Int), mx_ex d 87 13 [l0, l1, l2, l3] [v0, v1, v2] S h n = mx_ex d 87 14 [l0, l1, l2, l3] [(0, 0), v0, v1, v2] S h n) ∧
  (∀ (d : Nat) (l0 l1 l2 l3 : Option mx_V) (v0 v1 v2 v3 : mx_V) (S h : mx_H) (n : Int), mx_ex d 87 14 [l0, l1, l2, l3] [v0, v1, v2, v3] S h n = mx_ex d 87 15 [l0, l1, l2, l3] [(0, 3), v0, v1, v2, v3] S h n) ∧
  (∀ (d : Nat) (x j b i a : Int) (l0 l1 l2 l3 : Option mx_V) (S h : mx_H) (n : Int), mx_ex d 87 15 [l0, l1, l2, l3] [(0, x), (0, j), (2, b), (0, i), (2, a)] S h n = mx_gd (S a (-2) = 20 ∧ S b (-2) = 20 ∧ 0 ≤ x ∧ 0 ≤ i ∧ 0 ≤ j ∧ i + x ≤ S a (-1) ∧ j + x ≤ S b (-1)) d 87 18 [l0, l1, l2, l3] [] S (mx_y h a i b j x) n) ∧
  (∀ (d : Nat) (x : Int) (l0 l2 l3 : Option mx_V) (S h : mx_H) (n : Int), mx_ex d 87 18 [l0, some (2, x), l2, l3] [] S h n = mx_ex d 87 19 [l0, some (2, x), l2, l3] [(2, x)] S h n) ∧
  (∀ (d : Nat) (a : Int) (l0 l1 l2 l3 : Option mx_V) (S h : mx_H) (n : Int), mx_ex d 87 19 [l0, l1, l2, l3] [(2, a)] S h n = mx_gd (8 ≤ S a (-2) ∧ S a (-2) ≤ 8) d 87 22 [l0, l1, l2, l3] [(2, S a 1)] S h n) ∧
  (∀ (d : Nat) (l0 l1 l2 l3 : Option mx_V) (v0 : mx_V) (S h : mx_H) (n : Int), mx_ex d 87 22 [l0, l1, l2, l3] [v0] S h n = mx_ex d 87 23 [l0, l1, l2, l3] [(0, 0), v0] S h n) ∧
  (∀ (d : Nat) (x : Int) (l1 l2 l3 : Option mx_V) (v0 v1 : mx_V) (S h : mx_H) (n : Int), mx_ex d 87 23 [some (2, x), l1, l2, l3] [v0, v1] S h n = mx_ex d 87 24 [some (2, x), l1, l2, l3] [(2, x), v0, v1] S h n) ∧
  (∀ (d : Nat) (a : Int) (l0 l1 l2 l3 : Option mx_V) (v1 v2 : mx_V) (S h : mx_H) (n : Int), mx_ex d 87 24 [l0, l1, l2, l3] [(2, a), v1, v2] S h n = mx_gd (8 ≤ S a (-2) ∧ S a (-2) ≤ 8) d 87 27 [l0, l1, l2, l3] [(2, S a 1), v1, v2] S h n) ∧
  (∀ (d : Nat) (l0 l1 l2 l3 : Option mx_V) (v0 v1 v2 : mx_V) (S h : mx_H) (n : Int), mx_ex d 87 27 [l0, l1, l2, l3] [v0, v1, v2] S h n = mx_ex d 87 28 [l0, l1, l2, l3] [(0, 0), v0, v1, v2] S h n) ∧
  (∀ (d : Nat) (l0 l1 l2 l3 : Option mx_V) (v0 v1 v2 v3 : mx_V) (S h : mx_H) (n : Int), mx_ex d 87 28 [l0, l1, l2, l3] [v0, v1, v2, v3] S h n = mx_ex d 87 29 [l0, l1, l2, l3] [(0, 3), v0, v1, v2, v3] S h n) ∧
  (∀ (d : Nat) (x j b i a : Int) (l0 l1 l2 l3 : Option mx_V) (S h : mx_H) (n : Int), mx_ex d 87 29 [l0, l1, l2, l3] [(0, x), (0, j), (2, b), (0, i), (2, a)] S h n = mx_gd (S a (-2) = 20 ∧ S b (-2) = 20 ∧ 0 ≤ x ∧ 0 ≤ i ∧ 0 ≤ j ∧ i + x ≤ S a (-1) ∧ j + x ≤ S b (-1)) d 87 32 [l0, l1, l2, l3] [] S (mx_y h a i b j x) n) ∧
  (∀ (d : Nat) (l0 l1 l2 l3 : Option mx_V) (S h : mx_H) (n : Int), mx_ex d 87 32 [l0, l1, l2, l3] [] S h n = mx_ex d 87 33 [l0, l1, l2, l3] [(0, 0)] S h n) ∧
  (∀ (d : Nat) (x : Int) (l0 l1 l2 l3 : Option mx_V) (S h : mx_H) (n : Int), mx_ex d 87 33 [l0, l1, l2, l3] [(0, x)] S h n = mx_ex d 87 34 [l0, mx_nl l1, some (0, x), l3] [] S h n) ∧
  (∀ (d : Nat) (x : Int) (l0 l2 l3 : Option mx_V) (v0 : mx_V) (S h : mx_H) (n : Int), mx_ex d 87 35 [l0, some (2, x), l2, l3] [v0] S h n = mx_ex d 87 36 [l0, some (2, x), l2, l3] [(2, x), v0] S h n) ∧
  (∀ (d : Nat) (a : Int) (l0 l1 l2 l3 : Option mx_V) (v1 : mx_V) (S h : mx_H) (n : Int), mx_ex d 87 36 [l0, l1, l2, l3] [(2, a), v1] S h n = mx_gd (8 ≤ S a (-2) ∧ S a (-2) ≤ 8) d 87 39 [l0, l1, l2, l3] [(0, h a 3), v1] S h n) ∧
  (∀ (d : Nat) (b a : Int) (l0 l1 l2 l3 : Option mx_V) (S h : mx_H) (n : Int), mx_ex d 87 39 [l0, l1, l2, l3] [(0, b), (0, a)] S h n = mx_br (a < b) d 87 42 85 [l0, l1, l2, l3] [] S h n) ∧
  (∀ (d : Nat) (x : Int) (l0 l2 l3 : Option mx_V) (S h : mx_H) (n : Int), mx_ex d 87 42 [l0, some (2, x), l2, l3] [] S h n = mx_ex d 87 43 [l0, some (2, x), l2, l3] [(2, x)] S h n) ∧
  (∀ (d : Nat) (x : Int) (l0 l1 l3 : Option mx_V) (v0 : mx_V) (S h : mx_H) (n : Int), mx_ex d 87 43 [l0, l1, some (0, x), l3] [v0] S h n = mx_ex d 87 44 [l0, l1, some (0, x), l3] [(0, x), v0] S h n) ∧
  (∀ (d : Nat) (x0 a : Int) (l0 l1 l2 l3 : Option mx_V) (S h : mx_H) (n : Int), mx_ex (d + 1) 87 44 [l0, l1, l2, l3] [(0, x0), (2, a)] S h n = mx_cl (S a (-2) = 8) d 91 [(2, a), (0, x0)] 87 47 [l0, l1, l2, l3] [] S h n) ∧
  (∀ (d : Nat) (x : Int) (l0 l1 l2 l3 : Option mx_V) (S h : mx_H) (n : Int), mx_ex d 87 47 [l0, l1, l2, l3] [(2, x)] S h n = mx_ex d 87 48 [l0, l1, mx_nl l2, some (2, x)] [] S h n) ∧
  (∀ (d : Nat) (x : Int) (l0 l1 l2 : Option mx_V) (S h : mx_H) (n : Int), mx_ex d 87 48 [l0, l1, l2, some (2, x)] [] S h n = mx_ex d 87 49 [l0, l1, l2, some (2, x)] [(2, x)] S h n) ∧
  (∀ (d : Nat) (a : Int) (l0 l1 l2 l3 : Option mx_V) (S h : mx_H) (n : Int), mx_ex d 87 49 [l0, l1, l2, l3] [(2, a)] S h n = mx_br (a = -1) d 87 79 52 [l0, l1, l2, l3] [] S h n) ∧
  (∀ (d : Nat) (x : Int) (l1 l2 l3 : Option mx_V) (S h : mx_H) (n : Int), mx_ex d 87 52 [some (2, x), l1, l2, l3] [] S h n = mx_ex d 87 53 [some (2, x), l1, l2, l3] [(2, x)] S h n) ∧
  (∀ (d : Nat) (x : Int) (l0 l1 l2 : Option mx_V) (v0 : mx_V) (S h : mx_H) (n : Int), mx_ex d 87 53 [l0, l1, l2, some (2, x)] [v0] S h n = mx_ex d 87 54 [l0, l1, l2, some (2, x)] [(2, x), v0] S h n) ∧
  (∀ (d : Nat) (a : Int) (l0 l1 l2 l3 : Option mx_V) (v1 : mx_V) (S h : mx_H) (n : Int), mx_ex (d + 1) 87 54 [l0, l1, l2, l3] [(2, a), v1] S h n = mx_cu (mx_vt (S a (-2)) [(1, 39), (2, 55), (3, 1), (4, 34), (5, 81), (6, 8)]) d [(2, a)] 87 57 [l0, l1, l2, l3] [v1] S h n) ∧
  (∀ (d : Nat) (x : Int) (l0 l1 l2 : Option mx_V) (v0 v1 : mx_V) (S h : mx_H) (n : Int), mx_ex d 87 57 [l0, l1, l2, some (2, x)] [v0, v1] S h n = mx_ex d 87 58 [l0, l1, l2, some (2, x)] [(2, x), v0, v1] S h n) ∧
  (∀ (d : Nat) (a : Int) (l0 l1 l2 l3 : Option mx_V) (v1 v2 : mx_V) (S h : mx_H) (n : Int), mx_ex d 87 58 [l0, l1, l2, l3] [(2, a), v1, v2] S h n = mx_gd (1 ≤ S a (-2) ∧ S a (-2) ≤ 6) d 87 61 [l0, l1, l2, l3] [(0, h a 3), v1, v2] S h n) ∧
  (∀ (d : Nat) (x : Int) (l0 l1 l2 : Option mx_V) (v0 v1 v2 : mx_V) (S h : mx_H) (n : Int), mx_ex d 87 61 [l0, l1, l2, some (2, x)] [v0, v1, v2] S h n = mx_ex d 87 62 [l0, l1, l2, some (2, x)] [(2, x), v0, v1, v2] S h n) ∧
  (∀ (d : Nat) (a : Int) (l0 l1 l2 l3 : Option mx_V) (v1 v2 v3 : mx_V) (S h : mx_H) (n : Int), mx_ex d 87 62 [l0, l1, l2, l3] [(2, a), v1, v2, v3] S h n = mx_gd (1 ≤ S a (-2) ∧ S a (-2) ≤ 6) d 87 65 [l0, l1, l2, l3] [(0, h a 1), v1, v2, v3] S h n) ∧
  (∀ (d : Nat) (x : Int) (l0 l1 l2 : Option mx_V) (v0 v1 v2 v3 : mx_V) (S h : mx_H) (n : Int), mx_ex d 87 65 [l0, l1, l2, some (2, x)] [v0, v1, v2, v3] S h n = mx_ex d 87 66 [l0, l1, l2, some (2, x)] [(2, x), v0, v1, v2, v3] S h n) ∧
  (∀ (d : Nat) (a : Int) (l0 l1 l2 l3 : Option mx_V) (v1 v2 v3 v4 : mx_V) (S h : mx_H) (n : Int), mx_ex d 87 66 [l0, l1, l2, l3] [(2, a), v1, v2, v3, v4] S h n = mx_gd (1 ≤ S a (-2) ∧ S a (-2) ≤ 6) d 87 69 [l0, l1, l2, l3] [(2, S a 2), v1, v2, v3, v4] S h n) ∧
  (∀ (d : Nat) (a : Int) (l0 l1 l2 l3 : Option mx_V) (v1 v2 v3 v4 : mx_V) (S h : mx_H) (n : Int), mx_ex d 87 69 [l0, l1, l2, l3] [(2, a), v1, v2, v3, v4] S h n = mx_gd (S a (-2) = 20 ∧ S a (-1) ≤ 300) d 87 72 [l0, l1, l2, l3] [(2, n), v1, v2, v3, v4] (mx_t S n 20 (S a (-1))) (mx_y (mx_z h n) a 0 n 0 (S a (-1))) (n + 1)) ∧
  (∀ (d : Nat) (a : Int) (l0 l1 l2 l3 : Option mx_V) (v1 v2 v3 v4 : mx_V) (S h : mx_H) (n : Int), mx_ex d 87 72 [l0, l1, l2, l3] [(2, a), v1, v2, v3, v4] S h n = mx_gd (S a (-2) = 20) d 87 75 [l0, l1, l2, l3] [(2, a), v1, v2, v3, v4] S h n) ∧
  (∀ (d : Nat) (x0 x1 x2 x3 a : Int) (l0 l1 l2 l3 : Option mx_V) (S h : mx_H) (n : Int), mx_ex (d + 1) 87 75 [l0, l1, l2, l3] [(2, x0), (0, x1), (0, x2), (0, x3), (2, a)] S h n = mx_cl (S a (-2) = 8) d 92 [(2, a), (0, x3), (0, x2), (0, x1), (2, x0)] 87 78 [l0, l1, l2, l3] [] S h n) ∧
  (∀ (d : Nat) (a : Int) (l0 l1 l2 l3 : Option mx_V) (S h : mx_H) (n : Int), mx_ex d 87 78 [l0, l1, l2, l3] [(0, a)] S h n = mx_ex d 87 79 [l0, l1, l2, l3] [] S h n) ∧
  (∀ (d : Nat) (x : Int) (l0 l1 l3 : Option mx_V) (S h : mx_H) (n : Int), mx_ex d 87 79 [l0, l1, some (0, x), l3] [] S h n = mx_ex d 87 82 [l0, mx_nl l1, some (0, mx_w (x + 1)), l3] [] S h n) ∧
  (∀ (d : Nat) (l0 l1 l2 l3 : Option mx_V) (S h : mx_H) (n : Int), mx_ex d 87 82 [l0, l1, l2, l3] [] S h n = mx_ex d 87 34 [l0, l1, l2, l3] [] S h n) ∧
  (∀ (d : Nat) (x : Int) (l0 l2 l3 : Option mx_V) (S h : mx_H) (n : Int), mx_ex d 87 85 [l0, some (2, x), l2, l3] [] S h n = mx_ex d 87 86 [l0, some (2, x), l2, l3] [(2, x)] S h n) ∧
  (∀ (d : Nat) (a : Int) (l0 l1 l2 l3 : Option mx_V) (S h : mx_H) (n : Int), mx_ex d 87 86 [l0, l1, l2, l3] [(2, a)] S h n = mx_gd (8 ≤ S a (-2) ∧ S a (-2) ≤ 8) d 87 89 [l0, l1, l2, l3] [(2, S a 2)] S h n) ∧
  (∀ (d : Nat) (l0 l1 l2 l3 : Option mx_V) (v0 : mx_V) (S h : mx_H) (n : Int), mx_ex d 87 89 [l0, l1, l2, l3] [v0] S h n = mx_ex d 87 90 [l0, l1, l2, l3] [(0, 0), v0] S h n) ∧
  (∀ (d : Nat) (x : Int) (l1 l2 l3 : Option mx_V) (v0 v1 : mx_V) (S h : mx_H) (n : Int), mx_ex d 87 90 [some (2, x), l1, l2, l3] [v0, v1] S h n = mx_ex d 87 91 [some (2, x), l1, l2, l3] [(2, x), v0, v1] S h n) ∧
  (∀ (d : Nat) (a : Int) (l0 l1 l2 l3 : Option mx_V) (v1 v2 : mx_V) (S h : mx_H) (n : Int), mx_ex d 87 91 [l0, l1, l2, l3] [(2, a), v1, v2] S h n = mx_gd (8 ≤ S a (-2) ∧ S a (-2) ≤ 8) d 87 94 [l0, l1, l2, l3] [(2, S a 2), v1, v2] S h n) ∧
  (∀ (d : Nat) (l0 l1 l2 l3 : Option mx_V) (v0 v1 v2 : mx_V) (S h : mx_H) (n : Int), mx_ex d 87 94 [l0, l1, l2, l3] [v0, v1, v2] S h n = mx_ex d 87 95 [l0, l1, l2, l3] [(0, 0), v0, v1, v2] S h n) ∧
  (∀ (d : Nat) (x : Int) (l1 l2 l3 : Option mx_V) (v0 v1 v2 v3 : mx_V) (S h : mx_H) (n : Int), mx_ex d 87 95 [some (2, x), l1, l2, l3] [v0, v1, v2, v3] S h n = mx_ex d 87 96 [some (2, x), l1, l2, l3] [(2, x), v0, v1, v2, v3] S h n) ∧
  (∀ (d : Nat) (a : Int) (l0 l1 l2 l3 : Option mx_V) (v1 v2 v3 v4 : mx_V) (S h : mx_H) (n : Int), mx_ex d 87 96 [l0, l1, l2, l3] [(2, a), v1, v2, v3, v4] S h n = mx_gd (8 ≤ S a (-2) ∧ S a (-2) ≤ 8) d 87 99 [l0, l1, l2, l3] [(2, S a 2), v1, v2, v3, v4] S h n) ∧
  (∀ (d : Nat) (a : Int) (l0 l1 l2 l3 : Option mx_V) (v1 v2 v3 v4 : mx_V) (S h : mx_H) (n : Int), mx_ex d 87 99 [l0, l1, l2, l3] [(2, a), v1, v2, v3, v4] S h n = mx_gd (20 ≤ S a (-2) ∧ S a (-2) ≤ 25) d 87 100 [l0, l1, l2, l3] [(0, S a (-1)), v1, v2, v3, v4] S h n) ∧
  (∀ (d : Nat) (x j b i a : Int) (l0 l1 l2 l3 : Option mx_V) (S h : mx_H) (n : Int), mx_ex d 87 100 [l0, l1, l2, l3] [(0, x), (0, j), (2, b), (0, i), (2, a)] S h n = mx_gd (S a (-2) = 20 ∧ S b (-2) = 20 ∧ 0 ≤ x ∧ 0 ≤ i ∧ 0 ≤ j ∧ i + x ≤ S a (-1) ∧ j + x ≤ S b (-1)) d 87 103 [l0, l1, l2, l3] [] S (mx_y h a i b j x) n) ∧
  (∀ (d : Nat) (x : Int) (l1 l2 l3 : Option mx_V) (S h : mx_H) (n : Int), mx_ex d 87 103 [some (2, x), l1, l2, l3] [] S h n = mx_ex d 87 104 [some (2, x), l1, l2, l3] [(2, x)] S h n) ∧
  (∀ (d : Nat) (x : Int) (l0 l2 l3 : Option mx_V) (v0 : mx_V) (S h : mx_H) (n : Int), mx_ex d 87 104 [l0, some (2, x), l2, l3] [v0] S h n = mx_ex d 87 105 [l0, some (2, x), l2, l3] [(2, x), v0] S h n) ∧
  (∀ (d : Nat) (a : Int) (l0 l1 l2 l3 : Option mx_V) (v1 : mx_V) (S h : mx_H) (n : Int), mx_ex d 87 105 [l0, l1, l2, l3] [(2, a), v1] S h n = mx_gd (8 ≤ S a (-2) ∧ S a (-2) ≤ 8) d 87 108 [l0, l1, l2, l3] [(0, h a 4), v1] S h n) ∧
  (∀ (d : Nat) (v a : Int) (l0 l1 l2 l3 : Option mx_V) (S h : mx_H) (n : Int), mx_ex d 87 108 [l0, l1, l2, l3] [(0, v), (2, a)] S h n = mx_gd (8 ≤ S a (-2) ∧ S a (-2) ≤ 8) d 87 111 [l0, l1, l2, l3] [] S (mx_u h a 4 v) n) ∧
  (∀ (d : Nat) (l0 l1 l2 l3 : Option mx_V) (S h : mx_H) (n : Int), mx_ex d 87 111 [l0, l1, l2, l3] [] S h n = some (none, S, h, n)) :=
  ⟨by intros; exact rfl,
   by intros; exact eq_ld rfl rfl,
   by intros; exact eq_cv rfl (Nat.le_of_ble_eq_true rfl) rfl rfl rfl (Nat.le_of_ble_eq_true rfl),
   by intros; exact eq_ld rfl rfl,
   by intros; exact eq_gr rfl,
   by intros; exact eq_push rfl,
   by intros; exact eq_ld rfl rfl,
   by intros; exact eq_gr rfl,
   by intros; exact eq_push rfl,
   by intros; exact eq_push rfl,
   by intros; exact eq_copy rfl (Nat.le_of_ble_eq_true rfl),
   by intros; exact eq_ld rfl rfl,
   by intros; exact eq_gr rfl,
   by intros; exact eq_push rfl,
   by intros; exact eq_ld rfl rfl,
   by intros; exact eq_gr rfl,
   by intros; exact eq_push rfl,
   by intros; exact eq_push rfl,
   by intros; exact eq_copy rfl (Nat.le_of_ble_eq_true rfl),
   by intros; exact eq_push rfl,
   by intros; exact eq_st rfl (by decide) (Nat.le_of_ble_eq_true rfl) rfl,
   by intros; exact eq_ld rfl rfl,
   by intros; exact eq_gi rfl,
   by intros; exact eq_ic3 rfl,
   by intros; exact eq_ld rfl rfl,
   by intros; exact eq_ld rfl rfl,
   by intros; exact eq_cv rfl (Nat.le_of_ble_eq_true rfl) rfl rfl rfl (Nat.le_of_ble_eq_true rfl),
   by intros; exact eq_st rfl (by decide) (Nat.le_of_ble_eq_true rfl) rfl,
   by intros; exact eq_ld rfl rfl,
   by intros; exact eq_nul rfl,
   by intros; exact eq_ld rfl rfl,
   by intros; exact eq_ld rfl rfl,
   by intros; exact eq_cu rfl (Nat.le_of_ble_eq_true rfl) rfl rfl rfl (Nat.le_of_ble_eq_true rfl),
   by intros; exact eq_ld rfl rfl,
   by intros; exact eq_gi rfl,
   by intros; exact eq_ld rfl rfl,
   by intros; exact eq_gi rfl,
   by intros; exact eq_ld rfl rfl,
   by intros; exact eq_gr rfl,
   by intros; exact eq_clon rfl (Nat.le_of_ble_eq_true rfl),
   by intros; exact eq_cast rfl,
   by intros; exact eq_cv rfl (Nat.le_of_ble_eq_true rfl) rfl rfl rfl (Nat.le_of_ble_eq_true rfl),
   by intros; exact eq_pop rfl (by decide),
   by intros; exact eq_inc rfl rfl rfl,
   by intros; exact eq_go rfl,
   by intros; exact eq_ld rfl rfl,
   by intros; exact eq_gr rfl,
   by intros; exact eq_push rfl,
   by intros; exact eq_ld rfl rfl,
   by intros; exact eq_gr rfl,
   by intros; exact eq_push rfl,
   by intros; exact eq_ld rfl rfl,
   by intros; exact eq_gr rfl,
   by intros; exact eq_alen rfl,
   by intros; exact eq_copy rfl (Nat.le_of_ble_eq_true rfl),
   by intros; exact eq_ld rfl rfl,
   by intros; exact eq_ld rfl rfl,
   by intros; exact eq_gi rfl,
   by intros; exact eq_pi rfl,
   by intros; exact eq_retv rfl⟩
theorem rw_X10_setEvening :
  (∀ (d : Nat) (a0 a1 a2 a3 : Int) (S h : mx_H) (n : Int), mx_M d 88 [(2, a0), (0, a1), (0, a2), (0, a3)] S h n = mx_ex d 88 0 [some (2, a0), some (0, a1), some (0, a2), some (0, a3)] [] S h n) ∧
  (∀ (d : Nat) (x : Int) (l1 l2 l3 : Option mx_V) (S h : mx_H) (n : Int), mx_ex d 88 0 [some (2, x), l1, l2, l3] [] S h n = mx_ex d 88 1 [some (2, x), l1, l2, l3] [(2, x)] S h n) ∧
  (∀ (d : Nat) (a : Int) (l0 l1 l2 l3 : Option mx_V) (S h : mx_H) (n : Int), mx_ex d 88 1 [l0, l1, l2, l3] [(2, a)] S h n = mx_gd (8 ≤ S a (-2) ∧ S a (-2) ≤ 8) d 88 4 [l0, l1, l2, l3] [(2, S a 0)] S h n) ∧
  (∀ (d : Nat) (x : Int) (l0 l2 l3 : Option mx_V) (v0 : mx_V) (S h : mx_H) (n : Int), mx_ex d 88 4 [l0, some (0, x), l2, l3] [v0] S h n = mx_ex d 88 5 [l0, some (0, x), l2, l3] [(0, x), v0] S h n) ∧
  (∀ (d : Nat) (x : Int) (l0 l1 l3 : Option mx_V) (v0 v1 : mx_V) (S h : mx_H) (n : Int), mx_ex d 88 5 [l0, l1, some (0, x), l3] [v0, v1] S h n = mx_ex d 88 6 [l0, l1, some (0, x), l3] [(0, x), v0, v1] S h n) ∧
  (∀ (d : Nat) (v i a : Int) (l0 l1 l2 l3 : Option mx_V) (S h : mx_H) (n : Int), mx_ex d 88 6 [l0, l1, l2, l3] [(0, v), (0, i), (2, a)] S h n = mx_gd (S a (-2) = 20 ∧ 0 ≤ i ∧ i < S a (-1)) d 88 7 [l0, l1, l2, l3] [] S (mx_u h a i v) n) ∧
  (∀ (d : Nat) (x : Int) (l1 l2 l3 : Option mx_V) (S h : mx_H) (n : Int), mx_ex d 88 7 [some (2, x), l1, l2, l3] [] S h n = mx_ex d 88 8 [some (2, x), l1, l2, l3] [(2, x)] S h n) ∧
  (∀ (d : Nat) (a : Int) (l0 l1 l2 l3 : Option mx_V) (S h : mx_H) (n : Int), mx_ex d 88 8 [l0, l1, l2, l3] [(2, a)] S h n = mx_gd (8 ≤ S a (-2) ∧ S a (-2) ≤ 8) d 88 11 [l0, l1, l2, l3] [(2, S a 1)] S h n) ∧
  (∀ (d : Nat) (x : Int) (l0 l2 l3 : Option mx_V) (v0 : mx_V) (S h : mx_H) (n : Int), mx_ex d 88 11 [l0, some (0, x), l2, l3] [v0] S h n = mx_ex d 88 12 [l0, some (0, x), l2, l3] [(0, x), v0] S h n) ∧
  (∀ (d : Nat) (x : Int) (l0 l1 l2 : Option mx_V) (v0 v1 : mx_V) (S h : mx_H) (n : Int), mx_ex d 88 12 [l0, l1, l2, some (0, x)] [v0, v1] S h n = mx_ex d 88 13 [l0, l1, l2, some (0, x)] [(0, x), v0, v1] S h n) ∧
  (∀ (d : Nat) (v i a : Int) (l0 l1 l2 l3 : Option mx_V) (S h : mx_H) (n : Int), mx_ex d 88 13 [l0, l1, l2, l3] [(0, v), (0, i), (2, a)] S h n = mx_gd (S a (-2) = 20 ∧ 0 ≤ i ∧ i < S a (-1)) d 88 14 [l0, l1, l2, l3] [] S (mx_u h a i v) n) ∧
  (∀ (d : Nat) (x : Int) (l1 l2 l3 : Option mx_V) (S h : mx_H) (n : Int), mx_ex d 88 14 [some (2, x), l1, l2, l3] [] S h n = mx_ex d 88 15 [some (2, x), l1, l2, l3] [(2, x)] S h n) ∧
  (∀ (d : Nat) (a : Int) (l0 l1 l2 l3 : Option mx_V) (S h : mx_H) (n : Int), mx_ex d 88 15 [l0, l1, l2, l3] [(2, a)] S h n = mx_ex d 88 16 [l0, l1, l2, l3] [(2, a), (2, a)] S h n) ∧
  (∀ (d : Nat) (a : Int) (l0 l1 l2 l3 : Option mx_V) (v1 : mx_V) (S h : mx_H) (n : Int), mx_ex d 88 16 [l0, l1, l2, l3] [(2, a), v1] S h n = mx_gd (8 ≤ S a (-2) ∧ S a (-2) ≤ 8) d 88 19 [l0, l1, l2, l3] [(0, h a 5), v1] S h n) ∧
  (∀ (d : Nat) (l0 l1 l2 l3 : Option mx_V) (v0 v1 : mx_V) (S h : mx_H) (n : Int), mx_ex d 88 19 [l0, l1, l2, l3] [v0, v1] S h n = mx_ex d 88 20 [l0, l1, l2, l3] [(0, 1), v0, v1] S h n) ∧
  (∀ (d : Nat) (b a : Int) (l0 l1 l2 l3 : Option mx_V) (v2 : mx_V) (S h : mx_H) (n : Int), mx_ex d 88 20 [l0, l1, l2, l3] [(0, b), (0, a), v2] S h n = mx_ex d 88 21 [l0, l1, l2, l3] [(0, mx_w (a + b)), v2] S h n) ∧
  (∀ (d : Nat) (v a : Int) (l0 l1 l2 l3 : Option mx_V) (S h : mx_H) (n : Int), mx_ex d 88 21 [l0, l1, l2, l3] [(0, v), (2, a)] S h n = mx_gd (8 ≤ S a (-2) ∧ S a (-2) ≤ 8) d 88 24 [l0, l1, l2, l3] [] S (mx_u h a 5 v) n) ∧
  (∀ (d : Nat) (l0 l1 l2 l3 : Option mx_V) (S h : mx_H) (n : Int), mx_ex d 88 24 [l0, l1, l2, l3] [] S h n = some (none, S, h, n)) :=
  ⟨by intros; exact rfl,
   by intros; exact eq_ld rfl rfl,
   by intros; exact eq_gr rfl,
   by intros; exact eq_ld rfl rfl,
   by intros; exact eq_ld rfl rfl,
   by intros; exact eq_iast rfl,
   by intros; exact eq_ld rfl rfl,
   by intros; exact eq_gr rfl,
   by intros; exact eq_ld rfl rfl,
   by intros; exact eq_ld rfl rfl,
   by intros; exact eq_iast rfl,
   by intros; exact eq_ld rfl rfl,
   by intros; exact eq_dup rfl (by decide),
   by intros; exact eq_gi rfl,
   by intros; exact eq_push rfl,
   by intros; exact eq_i2 (o := mx_add) rfl,
   by intros; exact eq_pi rfl,
   by intros; exact eq_retv rfl⟩
theorem rh_X10_notesOf_4 : ∀ (d : Nat) (x : Int) (l0 l1 l2 l4 : Option mx_V) (S h : mx_H) (n : Int), mx_ex d 89 4 [l0, l1, l2, some (0, x), l4] [] S h n = mx_ex d 89 5 [l0, l1, l2, some (0, x), l4] [(0, x)] S h n := by intros; exact eq_ld rfl rfl
theorem rw_X10_notesOf :
  (∀ (d : Nat) (a0 a1 : Int) (S h : mx_H) (n : Int), mx_M d 89 [(2, a0), (0, a1)] S h n = mx_ex d 89 0 [some (2, a0), some (0, a1), none, none, none] [] S h n) ∧
  (∀ (d : Nat) (l0 l1 l2 l3 l4 : Option mx_V) (S h : mx_H) (n : Int), mx_ex d 89 0 [l0, l1, l2, l3, l4] [] S h n = mx_ex d 89 1 [l0, l1, l2, l3, l4] [(0, 0)] S h n) ∧
  (∀ (d : Nat) (x : Int) (l0 l1 l2 l3 l4 : Option mx_V) (S h : mx_H) (n : Int), mx_ex d 89 1 [l0, l1, l2, l3, l4] [(0, x)] S h n = mx_ex d 89 2 [l0, mx_nl l1, some (0, x), l3, l4] [] S h n) ∧
  (∀ (d : Nat) (l0 l1 l2 l3 l4 : Option mx_V) (S h : mx_H) (n : Int), mx_ex d 89 2 [l0, l1, l2, l3, l4] [] S h n = mx_ex d 89 3 [l0, l1, l2, l3, l4] [(0, 0)] S h n) ∧
  (∀ (d : Nat) (x : Int) (l0 l1 l2 l3 l4 : Option mx_V) (S h : mx_H) (n : Int), mx_ex d 89 3 [l0, l1, l2, l3, l4] [(0, x)] S h n = mx_ex d 89 4 [l0, l1, mx_nl l2, some (0, x), l4] [] S h n) ∧
  (∀ (d : Nat) (x : Int) (l1 l2 l3 l4 : Option mx_V) (v0 : mx_V) (S h : mx_H) (n : Int), mx_ex d 89 5 [some (2, x), l1, l2, l3, l4] [v0] S h n = mx_ex d 89 6 [some (2, x), l1, l2, l3, l4] [(2, x), v0] S h n) ∧
  (∀ (d : Nat) (a : Int) (l0 l1 l2 l3 l4 : Option mx_V) (v1 : mx_V) (S h : mx_H) (n : Int), mx_ex d 89 6 [l0, l1, l2, l3, l4] [(2, a), v1] S h n = mx_gd (8 ≤ S a (-2) ∧ S a (-2) ≤ 8) d 89 9 [l0, l1, l2, l3, l4] [(0, h a 3), v1] S h n) ∧
  (∀ (d : Nat) (b a : Int) (l0 l1 l2 l3 l4 : Option mx_V) (S h : mx_H) (n : Int), mx_ex d 89 9 [l0, l1, l2, l3, l4] [(0, b), (0, a)] S h n = mx_br (a < b) d 89 12 45 [l0, l1, l2, l3, l4] [] S h n) ∧
  (∀ (d : Nat) (x : Int) (l1 l2 l3 l4 : Option mx_V) (S h : mx_H) (n : Int), mx_ex d 89 12 [some (2, x), l1, l2, l3, l4] [] S h n = mx_ex d 89 13 [some (2, x), l1, l2, l3, l4] [(2, x)] S h n) ∧
  (∀ (d : Nat) (x : Int) (l0 l1 l2 l4 : Option mx_V) (v0 : mx_V) (S h : mx_H) (n : Int), mx_ex d 89 13 [l0, l1, l2, some (0, x), l4] [v0] S h n = mx_ex d 89 14 [l0, l1, l2, some (0, x), l4] [(0, x), v0] S h n) ∧
  (∀ (d : Nat) (x0 a : Int) (l0 l1 l2 l3 l4 : Option mx_V) (S h : mx_H) (n : Int), mx_ex (d + 1) 89 14 [l0, l1, l2, l3, l4] [(0, x0), (2, a)] S h n = mx_cl (S a (-2) = 8) d 91 [(2, a), (0, x0)] 89 17 [l0, l1, l2, l3, l4] [] S h n) ∧
  (∀ (d : Nat) (x : Int) (l0 l1 l2 l3 l4 : Option mx_V) (S h : mx_H) (n : Int), mx_ex d 89 17 [l0, l1, l2, l3, l4] [(2, x)] S h n = mx_ex d 89 19 [l0, l1, l2, mx_nl l3, some (2, x)] [] S h n) ∧
  (∀ (d : Nat) (x : Int) (l0 l1 l2 l3 : Option mx_V) (S h : mx_H) (n : Int), mx_ex d 89 19 [l0, l1, l2, l3, some (2, x)] [] S h n = mx_ex d 89 21 [l0, l1, l2, l3, some (2, x)] [(2, x)] S h n) ∧
  (∀ (d : Nat) (a : Int) (l0 l1 l2 l3 l4 : Option mx_V) (S h : mx_H) (n : Int), mx_ex d 89 21 [l0, l1, l2, l3, l4] [(2, a)] S h n = mx_br (a = -1) d 89 39 24 [l0, l1, l2, l3, l4] [] S h n) ∧
  (∀ (d : Nat) (x : Int) (l0 l1 l2 l3 : Option mx_V) (S h : mx_H) (n : Int), mx_ex d 89 24 [l0, l1, l2, l3, some (2, x)] [] S h n = mx_ex d 89 26 [l0, l1, l2, l3, some (2, x)] [(2, x)] S h n) ∧
  (∀ (d : Nat) (a : Int) (l0 l1 l2 l3 l4 : Option mx_V) (S h : mx_H) (n : Int), mx_ex d 89 26 [l0, l1, l2, l3, l4] [(2, a)] S h n = mx_gd (1 ≤ S a (-2) ∧ S a (-2) ≤ 6) d 89 29 [l0, l1, l2, l3, l4] [(0, h a 3)] S h n) ∧
  (∀ (d : Nat) (x : Int) (l0 l2 l3 l4 : Option mx_V) (v0 : mx_V) (S h : mx_H) (n : Int), mx_ex d 89 29 [l0, some (0, x), l2, l3, l4] [v0] S h n = mx_ex d 89 30 [l0, some (0, x), l2, l3, l4] [(0, x), v0] S h n) ∧
  (∀ (d : Nat) (b a : Int) (l0 l1 l2 l3 l4 : Option mx_V) (S h : mx_H) (n : Int), mx_ex d 89 30 [l0, l1, l2, l3, l4] [(0, b), (0, a)] S h n = mx_br (a = b) d 89 33 39 [l0, l1, l2, l3, l4] [] S h n) ∧
  (∀ (d : Nat) (x : Int) (l0 l1 l3 l4 : Option mx_V) (S h : mx_H) (n : Int), mx_ex d 89 33 [l0, l1, some (0, x), l3, l4] [] S h n = mx_ex d 89 34 [l0, l1, some (0, x), l3, l4] [(0, x)] S h n) ∧
  (∀ (d : Nat) (l0 l1 l2 l3 l4 : Option mx_V) (v0 : mx_V) (S h : mx_H) (n : Int), mx_ex d 89 34 [l0, l1, l2, l3, l4] [v0] S h n = mx_ex d 89 35 [l0, l1, l2, l3, l4] [(0, 1), v0] S h n) ∧
  (∀ (d : Nat) (x : Int) (l0 l1 l2 l4 : Option mx_V) (v0 v1 : mx_V) (S h : mx_H) (n : Int), mx_ex d 89 35 [l0, l1, l2, some (0, x), l4] [v0, v1] S h n = mx_ex d 89 36 [l0, l1, l2, some (0, x), l4] [(0, x), v0, v1] S h n) ∧
  (∀ (d : Nat) (b a : Int) (l0 l1 l2 l3 l4 : Option mx_V) (v2 : mx_V) (S h : mx_H) (n : Int), mx_ex d 89 36 [l0, l1, l2, l3, l4] [(0, b), (0, a), v2] S h n = mx_ex d 89 37 [l0, l1, l2, l3, l4] [(0, mx_shl a b), v2] S h n) ∧
  (∀ (d : Nat) (b a : Int) (l0 l1 l2 l3 l4 : Option mx_V) (S h : mx_H) (n : Int), mx_ex d 89 37 [l0, l1, l2, l3, l4] [(0, b), (0, a)] S h n = mx_ex d 89 38 [l0, l1, l2, l3, l4] [(0, mx_or a b)] S h n) ∧
  (∀ (d : Nat) (x : Int) (l0 l1 l2 l3 l4 : Option mx_V) (S h : mx_H) (n : Int), mx_ex d 89 38 [l0, l1, l2, l3, l4] [(0, x)] S h n = mx_ex d 89 39 [l0, mx_nl l1, some (0, x), l3, l4] [] S h n) ∧
  (∀ (d : Nat) (x : Int) (l0 l1 l2 l4 : Option mx_V) (S h : mx_H) (n : Int), mx_ex d 89 39 [l0, l1, l2, some (0, x), l4] [] S h n = mx_ex d 89 42 [l0, l1, mx_nl l2, some (0, mx_w (x + 1)), l4] [] S h n) ∧
  (∀ (d : Nat) (l0 l1 l2 l3 l4 : Option mx_V) (S h : mx_H) (n : Int), mx_ex d 89 42 [l0, l1, l2, l3, l4] [] S h n = mx_ex d 89 4 [l0, l1, l2, l3, l4] [] S h n) ∧
  (∀ (d : Nat) (x : Int) (l0 l1 l3 l4 : Option mx_V) (S h : mx_H) (n : Int), mx_ex d 89 45 [l0, l1, some (0, x), l3, l4] [] S h n = mx_ex d 89 46 [l0, l1, some (0, x), l3, l4] [(0, x)] S h n) ∧
  (∀ (d : Nat) (x : Int) (l0 l1 l2 l3 l4 : Option mx_V) (S h : mx_H) (n : Int), mx_ex d 89 46 [l0, l1, l2, l3, l4] [(0, x)] S h n = some (some (0, x), S, h, n)) :=
  ⟨by intros; exact rfl,
   by intros; exact eq_push rfl,
   by intros; exact eq_st rfl (by decide) (Nat.le_of_ble_eq_true rfl) rfl,
   by intros; exact eq_push rfl,
   by intros; exact eq_st rfl (by decide) (Nat.le_of_ble_eq_true rfl) rfl,
   by intros; exact eq_ld rfl rfl,
   by intros; exact eq_gi rfl,
   by intros; exact eq_ic3 rfl,
   by intros; exact eq_ld rfl rfl,
   by intros; exact eq_ld rfl rfl,
   by intros; exact eq_cv rfl (Nat.le_of_ble_eq_true rfl) rfl rfl rfl (Nat.le_of_ble_eq_true rfl),
   by intros; exact eq_st rfl (by decide) (Nat.le_of_ble_eq_true rfl) rfl,
   by intros; exact eq_ld rfl rfl,
   by intros; exact eq_nul rfl,
   by intros; exact eq_ld rfl rfl,
   by intros; exact eq_gi rfl,
   by intros; exact eq_ld rfl rfl,
   by intros; exact eq_ic1 rfl,
   by intros; exact eq_ld rfl rfl,
   by intros; exact eq_push rfl,
   by intros; exact eq_ld rfl rfl,
   by intros; exact eq_i2 (o := mx_shl) rfl,
   by intros; exact eq_i2 (o := mx_or) rfl,
   by intros; exact eq_st rfl (by decide) (Nat.le_of_ble_eq_true rfl) rfl,
   by intros; exact eq_inc rfl rfl rfl,
   by intros; exact eq_go rfl,
   by intros; exact eq_ld rfl rfl,
   by intros; exact eq_ret rfl⟩
theorem rw_X10_basesOf :
  (∀ (d : Nat) (a0 a1 : Int) (S h : mx_H) (n : Int), mx_M d 90 [(2, a0), (0, a1)] S h n = mx_ex d 90 0 [some (2, a0), some (0, a1)] [] S h n) ∧
  (∀ (d : Nat) (l0 l1 : Option mx_V) (S h : mx_H) (n : Int), mx_ex d 90 0 [l0, l1] [] S h n = mx_ex d 90 1 [l0, l1] [(0, 1)] S h n) ∧
  (∀ (d : Nat) (x : Int) (l1 : Option mx_V) (v0 : mx_V) (S h : mx_H) (n : Int), mx_ex d 90 1 [some (2, x), l1] [v0] S h n = mx_ex d 90 2 [some (2, x), l1] [(2, x), v0] S h n) ∧
  (∀ (d : Nat) (a : Int) (l0 l1 : Option mx_V) (v1 : mx_V) (S h : mx_H) (n : Int), mx_ex d 90 2 [l0, l1] [(2, a), v1] S h n = mx_gd (8 ≤ S a (-2) ∧ S a (-2) ≤ 8) d 90 5 [l0, l1] [(2, S a 1), v1] S h n) ∧
  (∀ (d : Nat) (x : Int) (l0 : Option mx_V) (v0 v1 : mx_V) (S h : mx_H) (n : Int), mx_ex d 90 5 [l0, some (0, x)] [v0, v1] S h n = mx_ex d 90 6 [l0, some (0, x)] [(0, x), v0, v1] S h n) ∧
  (∀ (d : Nat) (i a : Int) (l0 l1 : Option mx_V) (v2 : mx_V) (S h : mx_H) (n : Int), mx_ex d 90 6 [l0, l1] [(0, i), (2, a), v2] S h n = mx_gd ((S a (-2) = 20 ∨ S a (-2) = 24) ∧ 0 ≤ i ∧ i < S a (-1)) d 90 7 [l0, l1] [(0, h a i), v2] S h n) ∧
  (∀ (d : Nat) (l0 l1 : Option mx_V) (v0 v1 : mx_V) (S h : mx_H) (n : Int), mx_ex d 90 7 [l0, l1] [v0, v1] S h n = mx_ex d 90 8 [l0, l1] [(0, 1), v0, v1] S h n) ∧
  (∀ (d : Nat) (b a : Int) (l0 l1 : Option mx_V) (v2 : mx_V) (S h : mx_H) (n : Int), mx_ex d 90 8 [l0, l1] [(0, b), (0, a), v2] S h n = mx_ex d 90 9 [l0, l1] [(0, mx_w (a + b)), v2] S h n) ∧
  (∀ (d : Nat) (b a : Int) (l0 l1 : Option mx_V) (S h : mx_H) (n : Int), mx_ex d 90 9 [l0, l1] [(0, b), (0, a)] S h n = mx_ex d 90 10 [l0, l1] [(0, mx_shl a b)] S h n) ∧
  (∀ (d : Nat) (l0 l1 : Option mx_V) (v0 : mx_V) (S h : mx_H) (n : Int), mx_ex d 90 10 [l0, l1] [v0] S h n = mx_ex d 90 11 [l0, l1] [(0, 1), v0] S h n) ∧
  (∀ (d : Nat) (x : Int) (l1 : Option mx_V) (v0 v1 : mx_V) (S h : mx_H) (n : Int), mx_ex d 90 11 [some (2, x), l1] [v0, v1] S h n = mx_ex d 90 12 [some (2, x), l1] [(2, x), v0, v1] S h n) ∧
  (∀ (d : Nat) (a : Int) (l0 l1 : Option mx_V) (v1 v2 : mx_V) (S h : mx_H) (n : Int), mx_ex d 90 12 [l0, l1] [(2, a), v1, v2] S h n = mx_gd (8 ≤ S a (-2) ∧ S a (-2) ≤ 8) d 90 15 [l0, l1] [(2, S a 0), v1, v2] S h n) ∧
  (∀ (d : Nat) (x : Int) (l0 : Option mx_V) (v0 v1 v2 : mx_V) (S h : mx_H) (n : Int), mx_ex d 90 15 [l0, some (0, x)] [v0, v1, v2] S h n = mx_ex d 90 16 [l0, some (0, x)] [(0, x), v0, v1, v2] S h n) ∧
  (∀ (d : Nat) (i a : Int) (l0 l1 : Option mx_V) (v2 v3 : mx_V) (S h : mx_H) (n : Int), mx_ex d 90 16 [l0, l1] [(0, i), (2, a), v2, v3] S h n = mx_gd ((S a (-2) = 20 ∨ S a (-2) = 24) ∧ 0 ≤ i ∧ i < S a (-1)) d 90 17 [l0, l1] [(0, h a i), v2, v3] S h n) ∧
  (∀ (d : Nat) (b a : Int) (l0 l1 : Option mx_V) (v2 : mx_V) (S h : mx_H) (n : Int), mx_ex d 90 17 [l0, l1] [(0, b), (0, a), v2] S h n = mx_ex d 90 18 [l0, l1] [(0, mx_shl a b), v2] S h n) ∧
  (∀ (d : Nat) (b a : Int) (l0 l1 : Option mx_V) (S h : mx_H) (n : Int), mx_ex d 90 18 [l0, l1] [(0, b), (0, a)] S h n = mx_ex d 90 19 [l0, l1] [(0, mx_w (a - b))] S h n) ∧
  (∀ (d : Nat) (x : Int) (l0 l1 : Option mx_V) (S h : mx_H) (n : Int), mx_ex d 90 19 [l0, l1] [(0, x)] S h n = some (some (0, x), S, h, n)) :=
  ⟨by intros; exact rfl,
   by intros; exact eq_push rfl,
   by intros; exact eq_ld rfl rfl,
   by intros; exact eq_gr rfl,
   by intros; exact eq_ld rfl rfl,
   by intros; exact eq_iald rfl,
   by intros; exact eq_push rfl,
   by intros; exact eq_i2 (o := mx_add) rfl,
   by intros; exact eq_i2 (o := mx_shl) rfl,
   by intros; exact eq_push rfl,
   by intros; exact eq_ld rfl rfl,
   by intros; exact eq_gr rfl,
   by intros; exact eq_ld rfl rfl,
   by intros; exact eq_iald rfl,
   by intros; exact eq_i2 (o := mx_shl) rfl,
   by intros; exact eq_i2 (o := mx_sub) rfl,
   by intros; exact eq_ret rfl⟩
theorem rw_X10_noteAt :
  (∀ (d : Nat) (a0 a1 : Int) (S h : mx_H) (n : Int), mx_M d 91 [(2, a0), (0, a1)] S h n = mx_ex d 91 0 [some (2, a0), some (0, a1)] [] S h n) ∧
  (∀ (d : Nat) (x : Int) (l0 : Option mx_V) (S h : mx_H) (n : Int), mx_ex d 91 0 [l0, some (0, x)] [] S h n = mx_ex d 91 1 [l0, some (0, x)] [(0, x)] S h n) ∧
  (∀ (d : Nat) (a : Int) (l0 l1 : Option mx_V) (S h : mx_H) (n : Int), mx_ex d 91 1 [l0, l1] [(0, a)] S h n = mx_br (a < 0) d 91 21 4 [l0, l1] [] S h n) ∧
  (∀ (d : Nat) (x : Int) (l0 : Option mx_V) (S h : mx_H) (n : Int), mx_ex d 91 4 [l0, some (0, x)] [] S h n = mx_ex d 91 5 [l0, some (0, x)] [(0, x)] S h n) ∧
  (∀ (d : Nat) (x : Int) (l1 : Option mx_V) (v0 : mx_V) (S h : mx_H) (n : Int), mx_ex d 91 5 [some (2, x), l1] [v0] S h n = mx_ex d 91 6 [some (2, x), l1] [(2, x), v0] S h n) ∧
  (∀ (d : Nat) (a : Int) (l0 l1 : Option mx_V) (v1 : mx_V) (S h : mx_H) (n : Int), mx_ex d 91 6 [l0, l1] [(2, a), v1] S h n = mx_gd (8 ≤ S a (-2) ∧ S a (-2) ≤ 8) d 91 9 [l0, l1] [(0, h a 3), v1] S h n) ∧
  (∀ (d : Nat) (b a : Int) (l0 l1 : Option mx_V) (S h : mx_H) (n : Int), mx_ex d 91 9 [l0, l1] [(0, b), (0, a)] S h n = mx_br (a < b) d 91 12 21 [l0, l1] [] S h n) ∧
  (∀ (d : Nat) (x : Int) (l1 : Option mx_V) (S h : mx_H) (n : Int), mx_ex d 91 12 [some (2, x), l1] [] S h n = mx_ex d 91 13 [some (2, x), l1] [(2, x)] S h n) ∧
  (∀ (d : Nat) (a : Int) (l0 l1 : Option mx_V) (S h : mx_H) (n : Int), mx_ex d 91 13 [l0, l1] [(2, a)] S h n = mx_gd (8 ≤ S a (-2) ∧ S a (-2) ≤ 8) d 91 16 [l0, l1] [(2, S a 6)] S h n) ∧
  (∀ (d : Nat) (x : Int) (l0 : Option mx_V) (v0 : mx_V) (S h : mx_H) (n : Int), mx_ex d 91 16 [l0, some (0, x)] [v0] S h n = mx_ex d 91 17 [l0, some (0, x)] [(0, x), v0] S h n) ∧
  (∀ (d : Nat) (i a : Int) (l0 l1 : Option mx_V) (S h : mx_H) (n : Int), mx_ex d 91 17 [l0, l1] [(0, i), (2, a)] S h n = mx_gd (S a (-2) = 22 ∧ 0 ≤ i ∧ i < S a (-1)) d 91 18 [l0, l1] [(2, S a i)] S h n) ∧
  (∀ (d : Nat) (l0 l1 : Option mx_V) (v0 : mx_V) (S h : mx_H) (n : Int), mx_ex d 91 18 [l0, l1] [v0] S h n = mx_ex d 91 22 [l0, l1] [v0] S h n) ∧
  (∀ (d : Nat) (l0 l1 : Option mx_V) (S h : mx_H) (n : Int), mx_ex d 91 21 [l0, l1] [] S h n = mx_ex d 91 22 [l0, l1] [(2, (-1))] S h n) ∧
  (∀ (d : Nat) (x : Int) (l0 l1 : Option mx_V) (S h : mx_H) (n : Int), mx_ex d 91 22 [l0, l1] [(2, x)] S h n = some (some (2, x), S, h, n)) :=
  ⟨by intros; exact rfl,
   by intros; exact eq_ld rfl rfl,
   by intros; exact eq_if2 rfl,
   by intros; exact eq_ld rfl rfl,
   by intros; exact eq_ld rfl rfl,
   by intros; exact eq_gi rfl,
   by intros; exact eq_ic3 rfl,
   by intros; exact eq_ld rfl rfl,
   by intros; exact eq_gr rfl,
   by intros; exact eq_ld rfl rfl,
   by intros; exact eq_aald rfl,
   by intros; exact eq_go rfl,
   by intros; exact eq_push rfl,
   by intros; exact eq_ret rfl⟩
theorem rw_X10_addNote :
  (∀ (d : Nat) (a0 a1 a2 a3 a4 : Int) (S h : mx_H) (n : Int), mx_M d 92 [(2, a0), (0, a1), (0, a2), (0, a3), (2, a4)] S h n = mx_ex d 92 0 [some (2, a0), some (0, a1), some (0, a2), some (0, a3), some (2, a4)] [] S h n) ∧
  (∀ (d : Nat) (x : Int) (l1 l2 l3 l4 : Option mx_V) (S h : mx_H) (n : Int), mx_ex d 92 0 [some (2, x), l1, l2, l3, l4] [] S h n = mx_ex d 92 1 [some (2, x), l1, l2, l3, l4] [(2, x)] S h n) ∧
  (∀ (d : Nat) (a : Int) (l0 l1 l2 l3 l4 : Option mx_V) (S h : mx_H) (n : Int), mx_ex d 92 1 [l0, l1, l2, l3, l4] [(2, a)] S h n = mx_gd (8 ≤ S a (-2) ∧ S a (-2) ≤ 8) d 92 4 [l0, l1, l2, l3, l4] [(0, h a 3)] S h n) ∧
  (∀ (d : Nat) (l0 l1 l2 l3 l4 : Option mx_V) (v0 : mx_V) (S h : mx_H) (n : Int), mx_ex d 92 4 [l0, l1, l2, l3, l4] [v0] S h n = mx_ex d 92 6 [l0, l1, l2, l3, l4] [(0, 6), v0] S h n) ∧
  (∀ (d : Nat) (b a : Int) (l0 l1 l2 l3 l4 : Option mx_V) (S h : mx_H) (n : Int), mx_ex d 92 6 [l0, l1, l2, l3, l4] [(0, b), (0, a)] S h n = mx_br (a < b) d 92 12 9 [l0, l1, l2, l3, l4] [] S h n) ∧
  (∀ (d : Nat) (l0 l1 l2 l3 l4 : Option mx_V) (S h : mx_H) (n : Int), mx_ex d 92 9 [l0, l1, l2, l3, l4] [] S h n = mx_ex d 92 11 [l0, l1, l2, l3, l4] [(0, (-2))] S h n) ∧
  (∀ (d : Nat) (x : Int) (l0 l1 l2 l3 l4 : Option mx_V) (S h : mx_H) (n : Int), mx_ex d 92 11 [l0, l1, l2, l3, l4] [(0, x)] S h n = some (some (0, x), S, h, n)) ∧
  (∀ (d : Nat) (x : Int) (l1 l2 l3 l4 : Option mx_V) (S h : mx_H) (n : Int), mx_ex d 92 12 [some (2, x), l1, l2, l3, l4] [] S h n = mx_ex d 92 13 [some (2, x), l1, l2, l3, l4] [(2, x)] S h n) ∧
  (∀ (d : Nat) (a : Int) (l0 l1 l2 l3 l4 : Option mx_V) (S h : mx_H) (n : Int), mx_ex d 92 13 [l0, l1, l2, l3, l4] [(2, a)] S h n = mx_gd (8 ≤ S a (-2) ∧ S a (-2) ≤ 8) d 92 16 [l0, l1, l2, l3, l4] [(2, S a 6)] S h n) ∧
  (∀ (d : Nat) (x : Int) (l1 l2 l3 l4 : Option mx_V) (v0 : mx_V) (S h : mx_H) (n : Int), mx_ex d 92 16 [some (2, x), l1, l2, l3, l4] [v0] S h n = mx_ex d 92 17 [some (2, x), l1, l2, l3, l4] [(2, x), v0] S h n) ∧
  (∀ (d : Nat) (a : Int) (l0 l1 l2 l3 l4 : Option mx_V) (v1 : mx_V) (S h : mx_H) (n : Int), mx_ex d 92 17 [l0, l1, l2, l3, l4] [(2, a), v1] S h n = mx_gd (8 ≤ S a (-2) ∧ S a (-2) ≤ 8) d 92 20 [l0, l1, l2, l3, l4] [(0, h a 3), v1] S h n) ∧
  (∀ (d : Nat) (x : Int) (l0 l2 l3 l4 : Option mx_V) (v0 v1 : mx_V) (S h : mx_H) (n : Int), mx_ex d 92 20 [l0, some (0, x), l2, l3, l4] [v0, v1] S h n = mx_ex d 92 21 [l0, some (0, x), l2, l3, l4] [(0, x), v0, v1] S h n) ∧
  (∀ (d : Nat) (x : Int) (l1 l2 l3 l4 : Option mx_V) (v0 v1 v2 : mx_V) (S h : mx_H) (n : Int), mx_ex d 92 21 [some (2, x), l1, l2, l3, l4] [v0, v1, v2] S h n = mx_ex d 92 22 [some (2, x), l1, l2, l3, l4] [(2, x), v0, v1, v2] S h n) ∧
  (∀ (d : Nat) (a : Int) (l0 l1 l2 l3 l4 : Option mx_V) (v1 v2 v3 : mx_V) (S h : mx_H) (n : Int), mx_ex d 92 22 [l0, l1, l2, l3, l4] [(2, a), v1, v2, v3] S h n = mx_gd (8 ≤ S a (-2) ∧ S a (-2) ≤ 8) d 92 25 [l0, l1, l2, l3, l4] [(0, h a 3), v1, v2, v3] S h n) ∧
  (∀ (d : Nat) (x : Int) (l0 l1 l3 l4 : Option mx_V) (v0 v1 v2 v3 : mx_V) (S h : mx_H) (n : Int), mx_ex d 92 25 [l0, l1, some (0, x), l3, l4] [v0, v1, v2, v3] S h n = mx_ex d 92 26 [l0, l1, some (0, x), l3, l4] [(0, x), v0, v1, v2, v3] S h n) ∧
  (∀ (d : Nat) (x : Int) (l0 l1 l2 l4 : Option mx_V) (v0 v1 v2 v3 v4 : mx_V) (S h : mx_H) (n : Int), mx_ex d 92 26 [l0, l1, l2, some (0, x), l4] [v0, v1, v2, v3, v4] S h n = mx_ex d 92 27 [l0, l1, l2, some (0, x), l4] [(0, x), v0, v1, v2, v3, v4] S h n) ∧
  (∀ (d : Nat) (x : Int) (l0 l1 l2 l3 : Option mx_V) (v0 v1 v2 v3 v4 v5 : mx_V) (S h : mx_H) (n : Int), mx_ex d 92 27 [l0, l1, l2, l3, some (2, x)] [v0, v1, v2, v3, v4, v5] S h n = mx_ex d 92 29 [l0, l1, l2, l3, some (2, x)] [(2, x), v0, v1, v2, v3, v4, v5] S h n) ∧
  (∀ (d : Nat) (x0 x1 x2 x3 x4 : Int) (l0 l1 l2 l3 l4 : Option mx_V) (v5 v6 : mx_V) (S h : mx_H) (n : Int), mx_ex (d + 1) 92 29 [l0, l1, l2, l3, l4] [(2, x0), (0, x1), (0, x2), (0, x3), (0, x4), v5, v6] S h n = mx_rt (mx_M d 93 [(0, x4), (0, x3), (0, x2), (0, x1), (2, x0)] S h n) (d + 1) 92 32 [l0, l1, l2, l3, l4] [v5, v6]) ∧
  (∀ (d : Nat) (v i a : Int) (l0 l1 l2 l3 l4 : Option mx_V) (S h : mx_H) (n : Int), mx_ex d 92 32 [l0, l1, l2, l3, l4] [(2, v), (0, i), (2, a)] S h n = mx_gd (S a (-2) = 22 ∧ 0 ≤ i ∧ i < S a (-1) ∧ (v = -1 ∨ 1 ≤ S v (-2) ∧ S v (-2) ≤ 6)) d 92 33 [l0, l1, l2, l3, l4] [] (mx_u S a i v) h n) ∧
  (∀ (d : Nat) (x : Int) (l1 l2 l3 l4 : Option mx_V) (S h : mx_H) (n : Int), mx_ex d 92 33 [some (2, x), l1, l2, l3, l4] [] S h n = mx_ex d 92 34 [some (2, x), l1, l2, l3, l4] [(2, x)] S h n) ∧
  (∀ (d : Nat) (a : Int) (l0 l1 l2 l3 l4 : Option mx_V) (S h : mx_H) (n : Int), mx_ex d 92 34 [l0, l1, l2, l3, l4] [(2, a)] S h n = mx_ex d 92 35 [l0, l1, l2, l3, l4] [(2, a), (2, a)] S h n) ∧
  (∀ (d : Nat) (a : Int) (l0 l1 l2 l3 l4 : Option mx_V) (v1 : mx_V) (S h : mx_H) (n : Int), mx_ex d 92 35 [l0, l1, l2, l3, l4] [(2, a), v1] S h n = mx_gd (8 ≤ S a (-2) ∧ S a (-2) ≤ 8) d 92 38 [l0, l1, l2, l3, l4] [(0, h a 3), v1] S h n) ∧
  (∀ (d : Nat) (l0 l1 l2 l3 l4 : Option mx_V) (v0 v1 : mx_V) (S h : mx_H) (n : Int), mx_ex d 92 38 [l0, l1, l2, l3, l4] [v0, v1] S h n = mx_ex d 92 39 [l0, l1, l2, l3, l4] [(0, 1), v0, v1] S h n) ∧
  (∀ (d : Nat) (b a : Int) (l0 l1 l2 l3 l4 : Option mx_V) (v2 : mx_V) (S h : mx_H) (n : Int), mx_ex d 92 39 [l0, l1, l2, l3, l4] [(0, b), (0, a), v2] S h n = mx_ex d 92 40 [l0, l1, l2, l3, l4] [(0, mx_w (a + b)), v2] S h n) ∧
  (∀ (d : Nat) (v a : Int) (l0 l1 l2 l3 l4 : Option mx_V) (S h : mx_H) (n : Int), mx_ex d 92 40 [l0, l1, l2, l3, l4] [(0, v), (2, a)] S h n = mx_gd (8 ≤ S a (-2) ∧ S a (-2) ≤ 8) d 92 43 [l0, l1, l2, l3, l4] [] S (mx_u h a 3 v) n) ∧
  (∀ (d : Nat) (x : Int) (l1 l2 l3 l4 : Option mx_V) (S h : mx_H) (n : Int), mx_ex d 92 43 [some (2, x), l1, l2, l3, l4] [] S h n = mx_ex d 92 44 [some (2, x), l1, l2, l3, l4] [(2, x)] S h n) ∧
  (∀ (d : Nat) (a : Int) (l0 l1 l2 l3 l4 : Option mx_V) (S h : mx_H) (n : Int), mx_ex d 92 44 [l0, l1, l2, l3, l4] [(2, a)] S h n = mx_ex d 92 45 [l0, l1, l2, l3, l4] [(2, a), (2, a)] S h n) ∧
  (∀ (d : Nat) (a : Int) (l0 l1 l2 l3 l4 : Option mx_V) (v1 : mx_V) (S h : mx_H) (n : Int), mx_ex d 92 45 [l0, l1, l2, l3, l4] [(2, a), v1] S h n = mx_gd (8 ≤ S a (-2) ∧ S a (-2) ≤ 8) d 92 48 [l0, l1, l2, l3, l4] [(0, h a 5), v1] S h n) ∧
  (∀ (d : Nat) (l0 l1 l2 l3 l4 : Option mx_V) (v0 v1 : mx_V) (S h : mx_H) (n : Int), mx_ex d 92 48 [l0, l1, l2, l3, l4] [v0, v1] S h n = mx_ex d 92 49 [l0, l1, l2, l3, l4] [(0, 1), v0, v1] S h n) ∧
  (∀ (d : Nat) (b a : Int) (l0 l1 l2 l3 l4 : Option mx_V) (v2 : mx_V) (S h : mx_H) (n : Int), mx_ex d 92 49 [l0, l1, l2, l3, l4] [(0, b), (0, a), v2] S h n = mx_ex d 92 50 [l0, l1, l2, l3, l4] [(0, mx_w (a + b)), v2] S h n) ∧
  (∀ (d : Nat) (v a : Int) (l0 l1 l2 l3 l4 : Option mx_V) (S h : mx_H) (n : Int), mx_ex d 92 50 [l0, l1, l2, l3, l4] [(0, v), (2, a)] S h n = mx_gd (8 ≤ S a (-2) ∧ S a (-2) ≤ 8) d 92 53 [l0, l1, l2, l3, l4] [] S (mx_u h a 5 v) n) ∧
  (∀ (d : Nat) (x : Int) (l1 l2 l3 l4 : Option mx_V) (S h : mx_H) (n : Int), mx_ex d 92 53 [some (2, x), l1, l2, l3, l4] [] S h n = mx_ex d 92 54 [some (2, x), l1, l2, l3, l4] [(2, x)] S h n) ∧
  (∀ (d : Nat) (a : Int) (l0 l1 l2 l3 l4 : Option mx_V) (S h : mx_H) (n : Int), mx_ex d 92 54 [l0, l1, l2, l3, l4] [(2, a)] S h n = mx_gd (8 ≤ S a (-2) ∧ S a (-2) ≤ 8) d 92 57 [l0, l1, l2, l3, l4] [(0, h a 3)] S h n) ∧
  (∀ (d : Nat) (l0 l1 l2 l3 l4 : Option mx_V) (v0 : mx_V) (S h : mx_H) (n : Int), mx_ex d 92 57 [l0, l1, l2, l3, l4] [v0] S h n = mx_ex d 92 58 [l0, l1, l2, l3, l4] [(0, 1), v0] S h n) ∧
  (∀ (d : Nat) (b a : Int) (l0 l1 l2 l3 l4 : Option mx_V) (S h : mx_H) (n : Int), mx_ex d 92 58 [l0, l1, l2, l3, l4] [(0, b), (0, a)] S h n = mx_ex d 92 59 [l0, l1, l2, l3, l4] [(0, mx_w (a - b))] S h n) ∧
  (∀ (d : Nat) (x : Int) (l0 l1 l2 l3 l4 : Option mx_V) (S h : mx_H) (n : Int), mx_ex d 92 59 [l0, l1, l2, l3, l4] [(0, x)] S h n = some (some (0, x), S, h, n)) :=
  ⟨by intros; exact rfl,
   by intros; exact eq_ld rfl rfl,
   by intros; exact eq_gi rfl,
   by intros; exact eq_push rfl,
   by intros; exact eq_ic2 rfl,
   by intros; exact eq_push rfl,
   by intros; exact eq_ret rfl,
   by intros; exact eq_ld rfl rfl,
   by intros; exact eq_gr rfl,
   by intros; exact eq_ld rfl rfl,
   by intros; exact eq_gi rfl,
   by intros; exact eq_ld rfl rfl,
   by intros; exact eq_ld rfl rfl,
   by intros; exact eq_gi rfl,
   by intros; exact eq_ld rfl rfl,
   by intros; exact eq_ld rfl rfl,
   by intros; exact eq_ld rfl rfl,
   by intros; exact eq_cs rfl (Nat.le_of_ble_eq_true rfl) rfl rfl rfl (Nat.le_of_ble_eq_true rfl),
   by intros; exact eq_aast rfl,
   by intros; exact eq_ld rfl rfl,
   by intros; exact eq_dup rfl (by decide),
   by intros; exact eq_gi rfl,
   by intros; exact eq_push rfl,
   by intros; exact eq_i2 (o := mx_add) rfl,
   by intros; exact eq_pi rfl,
   by intros; exact eq_ld rfl rfl,
   by intros; exact eq_dup rfl (by decide),
   by intros; exact eq_gi rfl,
   by intros; exact eq_push rfl,
   by intros; exact eq_i2 (o := mx_add) rfl,
   by intros; exact eq_pi rfl,
   by intros; exact eq_ld rfl rfl,
   by intros; exact eq_gi rfl,
   by intros; exact eq_push rfl,
   by intros; exact eq_i2 (o := mx_sub) rfl,
   by intros; exact eq_ret rfl⟩
theorem rw_X10_made :
  (∀ (d : Nat) (a0 a1 a2 a3 a4 : Int) (S h : mx_H) (n : Int), mx_M d 93 [(0, a0), (0, a1), (0, a2), (0, a3), (2, a4)] S h n = mx_ex d 93 0 [some (0, a0), some (0, a1), some (0, a2), some (0, a3), some (2, a4)] [] S h n) ∧
  (∀ (d : Nat) (x : Int) (l1 l2 l3 l4 : Option mx_V) (S h : mx_H) (n : Int), mx_ex d 93 0 [some (0, x), l1, l2, l3, l4] [] S h n = mx_ex d 93 1 [some (0, x), l1, l2, l3, l4] [(0, x)] S h n) ∧
  (∀ (d : Nat) (a : Int) (l0 l1 l2 l3 l4 : Option mx_V) (S h : mx_H) (n : Int), mx_ex d 93 1 [l0, l1, l2, l3, l4] [(0, a)] S h n = mx_sw a [(1, 36), (2, 49), (3, 62), (4, 75), (5, 88)] d 93 101 [l0, l1, l2, l3, l4] [] S h n) ∧
  (∀ (d : Nat) (l0 l1 l2 l3 l4 : Option mx_V) (S h : mx_H) (n : Int), mx_ex d 93 36 [l0, l1, l2, l3, l4] [] S h n = mx_ex d 93 39 [l0, l1, l2, l3, l4] [(2, n)] (mx_t S n 2 0) (mx_z h n) (n + 1)) ∧
  (∀ (d : Nat) (a : Int) (l0 l1 l2 l3 l4 : Option mx_V) (S h : mx_H) (n : Int), mx_ex d 93 39 [l0, l1, l2, l3, l4] [(2, a)] S h n = mx_ex d 93 40 [l0, l1, l2, l3, l4] [(2, a), (2, a)] S h n) ∧
  (∀ (d : Nat) (x : Int) (l0 l2 l3 l4 : Option mx_V) (v0 v1 : mx_V) (S h : mx_H) (n : Int), mx_ex d 93 40 [l0, some (0, x), l2, l3, l4] [v0, v1] S h n = mx_ex d 93 41 [l0, some (0, x), l2, l3, l4] [(0, x), v0, v1] S h n) ∧
  (∀ (d : Nat) (x : Int) (l0 l1 l3 l4 : Option mx_V) (v0 v1 v2 : mx_V) (S h : mx_H) (n : Int), mx_ex d 93 41 [l0, l1, some (0, x), l3, l4] [v0, v1, v2] S h n = mx_ex d 93 42 [l0, l1, some (0, x), l3, l4] [(0, x), v0, v1, v2] S h n) ∧
  (∀ (d : Nat) (x : Int) (l0 l1 l2 l4 : Option mx_V) (v0 v1 v2 v3 : mx_V) (S h : mx_H) (n : Int), mx_ex d 93 42 [l0, l1, l2, some (0, x), l4] [v0, v1, v2, v3] S h n = mx_ex d 93 43 [l0, l1, l2, some (0, x), l4] [(0, x), v0, v1, v2, v3] S h n) ∧
  (∀ (d : Nat) (x : Int) (l0 l1 l2 l3 : Option mx_V) (v0 v1 v2 v3 v4 : mx_V) (S h : mx_H) (n : Int), mx_ex d 93 43 [l0, l1, l2, l3, some (2, x)] [v0, v1, v2, v3, v4] S h n = mx_ex d 93 45 [l0, l1, l2, l3, some (2, x)] [(2, x), v0, v1, v2, v3, v4] S h n) ∧
  (∀ (d : Nat) (x0 x1 x2 x3 a : Int) (l0 l1 l2 l3 l4 : Option mx_V) (v5 : mx_V) (S h : mx_H) (n : Int), mx_ex (d + 1) 93 45 [l0, l1, l2, l3, l4] [(2, x0), (0, x1), (0, x2), (0, x3), (2, a), v5] S h n = mx_cl (1 ≤ S a (-2) ∧ S a (-2) ≤ 6) d 54 [(2, a), (0, x3), (0, x2), (0, x1), (2, x0)] 93 48 [l0, l1, l2, l3, l4] [v5] S h n) ∧
  (∀ (d : Nat) (x : Int) (l0 l1 l2 l3 l4 : Option mx_V) (S h : mx_H) (n : Int), mx_ex d 93 48 [l0, l1, l2, l3, l4] [(2, x)] S h n = some (some (2, x), S, h, n)) ∧
  (∀ (d : Nat) (l0 l1 l2 l3 l4 : Option mx_V) (S h : mx_H) (n : Int), mx_ex d 93 49 [l0, l1, l2, l3, l4] [] S h n = mx_ex d 93 52 [l0, l1, l2, l3, l4] [(2, n)] (mx_t S n 3 0) (mx_z h n) (n + 1)) ∧
  (∀ (d : Nat) (a : Int) (l0 l1 l2 l3 l4 : Option mx_V) (S h : mx_H) (n : Int), mx_ex d 93 52 [l0, l1, l2, l3, l4] [(2, a)] S h n = mx_ex d 93 53 [l0, l1, l2, l3, l4] [(2, a), (2, a)] S h n) ∧
  (∀ (d : Nat) (x : Int) (l0 l2 l3 l4 : Option mx_V) (v0 v1 : mx_V) (S h : mx_H) (n : Int), mx_ex d 93 53 [l0, some (0, x), l2, l3, l4] [v0, v1] S h n = mx_ex d 93 54 [l0, some (0, x), l2, l3, l4] [(0, x), v0, v1] S h n) ∧
  (∀ (d : Nat) (x : Int) (l0 l1 l3 l4 : Option mx_V) (v0 v1 v2 : mx_V) (S h : mx_H) (n : Int), mx_ex d 93 54 [l0, l1, some (0, x), l3, l4] [v0, v1, v2] S h n = mx_ex d 93 55 [l0, l1, some (0, x), l3, l4] [(0, x), v0, v1, v2] S h n) ∧
  (∀ (d : Nat) (x : Int) (l0 l1 l2 l4 : Option mx_V) (v0 v1 v2 v3 : mx_V) (S h : mx_H) (n : Int), mx_ex d 93 55 [l0, l1, l2, some (0, x), l4] [v0, v1, v2, v3] S h n = mx_ex d 93 56 [l0, l1, l2, some (0, x), l4] [(0, x), v0, v1, v2, v3] S h n) ∧
  (∀ (d : Nat) (x : Int) (l0 l1 l2 l3 : Option mx_V) (v0 v1 v2 v3 v4 : mx_V) (S h : mx_H) (n : Int), mx_ex d 93 56 [l0, l1, l2, l3, some (2, x)] [v0, v1, v2, v3, v4] S h n = mx_ex d 93 58 [l0, l1, l2, l3, some (2, x)] [(2, x), v0, v1, v2, v3, v4] S h n) ∧
  (∀ (d : Nat) (x0 x1 x2 x3 a : Int) (l0 l1 l2 l3 l4 : Option mx_V) (v5 : mx_V) (S h : mx_H) (n : Int), mx_ex (d + 1) 93 58 [l0, l1, l2, l3, l4] [(2, x0), (0, x1), (0, x2), (0, x3), (2, a), v5] S h n = mx_cl (1 ≤ S a (-2) ∧ S a (-2) ≤ 6) d 0 [(2, a), (0, x3), (0, x2), (0, x1), (2, x0)] 93 61 [l0, l1, l2, l3, l4] [v5] S h n) ∧
  (∀ (d : Nat) (x : Int) (l0 l1 l2 l3 l4 : Option mx_V) (S h : mx_H) (n : Int), mx_ex d 93 61 [l0, l1, l2, l3, l4] [(2, x)] S h n = some (some (2, x), S, h, n)) ∧
  (∀ (d : Nat) (l0 l1 l2 l3 l4 : Option mx_V) (S h : mx_H) (n : Int), mx_ex d 93 62 [l0, l1, l2, l3, l4] [] S h n = mx_ex d 93 65 [l0, l1, l2, l3, l4] [(2, n)] (mx_t S n 4 0) (mx_z h n) (n + 1)) ∧
  (∀ (d : Nat) (a : Int) (l0 l1 l2 l3 l4 : Option mx_V) (S h : mx_H) (n : Int), mx_ex d 93 65 [l0, l1, l2, l3, l4] [(2, a)] S h n = mx_ex d 93 66 [l0, l1, l2, l3, l4] [(2, a), (2, a)] S h n) ∧
  (∀ (d : Nat) (x : Int) (l0 l2 l3 l4 : Option mx_V) (v0 v1 : mx_V) (S h : mx_H) (n : Int), mx_ex d 93 66 [l0, some (0, x), l2, l3, l4] [v0, v1] S h n = mx_ex d 93 67 [l0, some (0, x), l2, l3, l4] [(0, x), v0, v1] S h n) ∧
  (∀ (d : Nat) (x : Int) (l0 l1 l3 l4 : Option mx_V) (v0 v1 v2 : mx_V) (S h : mx_H) (n : Int), mx_ex d 93 67 [l0, l1, some (0, x), l3, l4] [v0, v1, v2] S h n = mx_ex d 93 68 [l0, l1, some (0, x), l3, l4] [(0, x), v0, v1, v2] S h n) ∧
  (∀ (d : Nat) (x : Int) (l0 l1 l2 l4 : Option mx_V) (v0 v1 v2 v3 : mx_V) (S h : mx_H) (n : Int), mx_ex d 93 68 [l0, l1, l2, some (0, x), l4] [v0, v1, v2, v3] S h n = mx_ex d 93 69 [l0, l1, l2, some (0, x), l4] [(0, x), v0, v1, v2, v3] S h n) ∧
  (∀ (d : Nat) (x : Int) (l0 l1 l2 l3 : Option mx_V) (v0 v1 v2 v3 v4 : mx_V) (S h : mx_H) (n : Int), mx_ex d 93 69 [l0, l1, l2, l3, some (2, x)] [v0, v1, v2, v3, v4] S h n = mx_ex d 93 71 [l0, l1, l2, l3, some (2, x)] [(2, x), v0, v1, v2, v3, v4] S h n) ∧
  (∀ (d : Nat) (x0 x1 x2 x3 a : Int) (l0 l1 l2 l3 l4 : Option mx_V) (v5 : mx_V) (S h : mx_H) (n : Int), mx_ex (d + 1) 93 71 [l0, l1, l2, l3, l4] [(2, x0), (0, x1), (0, x2), (0, x3), (2, a), v5] S h n = mx_cl (1 ≤ S a (-2) ∧ S a (-2) ≤ 6) d 33 [(2, a), (0, x3), (0, x2), (0, x1), (2, x0)] 93 74 [l0, l1, l2, l3, l4] [v5] S h n) ∧
  (∀ (d : Nat) (x : Int) (l0 l1 l2 l3 l4 : Option mx_V) (S h : mx_H) (n : Int), mx_ex d 93 74 [l0, l1, l2, l3, l4] [(2, x)] S h n = some (some (2, x), S, h, n)) ∧
  (∀ (d : Nat) (l0 l1 l2 l3 l4 : Option mx_V) (S h : mx_H) (n : Int), mx_ex d 93 75 [l0, l1, l2, l3, l4] [] S h n = mx_ex d 93 78 [l0, l1, l2, l3, l4] [(2, n)] (mx_t S n 5 0) (mx_z h n) (n + 1)) ∧
  (∀ (d : Nat) (a : Int) (l0 l1 l2 l3 l4 : Option mx_V) (S h : mx_H) (n : Int), mx_ex d 93 78 [l0, l1, l2, l3, l4] [(2, a)] S h n = mx_ex d 93 79 [l0, l1, l2, l3, l4] [(2, a), (2, a)] S h n) ∧
  (∀ (d : Nat) (x : Int) (l0 l2 l3 l4 : Option mx_V) (v0 v1 : mx_V) (S h : mx_H) (n : Int), mx_ex d 93 79 [l0, some (0, x), l2, l3, l4] [v0, v1] S h n = mx_ex d 93 80 [l0, some (0, x), l2, l3, l4] [(0, x), v0, v1] S h n) ∧
  (∀ (d : Nat) (x : Int) (l0 l1 l3 l4 : Option mx_V) (v0 v1 v2 : mx_V) (S h : mx_H) (n : Int), mx_ex d 93 80 [l0, l1, some (0, x), l3, l4] [v0, v1, v2] S h n = mx_ex d 93 81 [l0, l1, some (0, x), l3, l4] [(0, x), v0, v1, v2] S h n) ∧
  (∀ (d : Nat) (x : Int) (l0 l1 l2 l4 : Option mx_V) (v0 v1 v2 v3 : mx_V) (S h : mx_H) (n : Int), mx_ex d 93 81 [l0, l1, l2, some (0, x), l4] [v0, v1, v2, v3] S h n = mx_ex d 93 82 [l0, l1, l2, some (0, x), l4] [(0, x), v0, v1, v2, v3] S h n) ∧
  (∀ (d : Nat) (x : Int) (l0 l1 l2 l3 : Option mx_V) (v0 v1 v2 v3 v4 : mx_V) (S h : mx_H) (n : Int), mx_ex d 93 82 [l0, l1, l2, l3, some (2, x)] [v0, v1, v2, v3, v4] S h n = mx_ex d 93 84 [l0, l1, l2, l3, some (2, x)] [(2, x), v0, v1, v2, v3, v4] S h n) ∧
  (∀ (d : Nat) (x0 x1 x2 x3 a : Int) (l0 l1 l2 l3 l4 : Option mx_V) (v5 : mx_V) (S h : mx_H) (n : Int), mx_ex (d + 1) 93 84 [l0, l1, l2, l3, l4] [(2, x0), (0, x1), (0, x2), (0, x3), (2, a), v5] S h n = mx_cl (1 ≤ S a (-2) ∧ S a (-2) ≤ 6) d 80 [(2, a), (0, x3), (0, x2), (0, x1), (2, x0)] 93 87 [l0, l1, l2, l3, l4] [v5] S h n) ∧
  (∀ (d : Nat) (x : Int) (l0 l1 l2 l3 l4 : Option mx_V) (S h : mx_H) (n : Int), mx_ex d 93 87 [l0, l1, l2, l3, l4] [(2, x)] S h n = some (some (2, x), S, h, n)) ∧
  (∀ (d : Nat) (l0 l1 l2 l3 l4 : Option mx_V) (S h : mx_H) (n : Int), mx_ex d 93 88 [l0, l1, l2, l3, l4] [] S h n = mx_ex d 93 91 [l0, l1, l2, l3, l4] [(2, n)] (mx_t S n 6 0) (mx_z h n) (n + 1)) ∧
  (∀ (d : Nat) (a : Int) (l0 l1 l2 l3 l4 : Option mx_V) (S h : mx_H) (n : Int), mx_ex d 93 91 [l0, l1, l2, l3, l4] [(2, a)] S h n = mx_ex d 93 92 [l0, l1, l2, l3, l4] [(2, a), (2, a)] S h n) ∧
  (∀ (d : Nat) (x : Int) (l0 l2 l3 l4 : Option mx_V) (v0 v1 : mx_V) (S h : mx_H) (n : Int), mx_ex d 93 92 [l0, some (0, x), l2, l3, l4] [v0, v1] S h n = mx_ex d 93 93 [l0, some (0, x), l2, l3, l4] [(0, x), v0, v1] S h n) ∧
  (∀ (d : Nat) (x : Int) (l0 l1 l3 l4 : Option mx_V) (v0 v1 v2 : mx_V) (S h : mx_H) (n : Int), mx_ex d 93 93 [l0, l1, some (0, x), l3, l4] [v0, v1, v2] S h n = mx_ex d 93 94 [l0, l1, some (0, x), l3, l4] [(0, x), v0, v1, v2] S h n) ∧
  (∀ (d : Nat) (x : Int) (l0 l1 l2 l4 : Option mx_V) (v0 v1 v2 v3 : mx_V) (S h : mx_H) (n : Int), mx_ex d 93 94 [l0, l1, l2, some (0, x), l4] [v0, v1, v2, v3] S h n = mx_ex d 93 95 [l0, l1, l2, some (0, x), l4] [(0, x), v0, v1, v2, v3] S h n) ∧
  (∀ (d : Nat) (x : Int) (l0 l1 l2 l3 : Option mx_V) (v0 v1 v2 v3 v4 : mx_V) (S h : mx_H) (n : Int), mx_ex d 93 95 [l0, l1, l2, l3, some (2, x)] [v0, v1, v2, v3, v4] S h n = mx_ex d 93 97 [l0, l1, l2, l3, some (2, x)] [(2, x), v0, v1, v2, v3, v4] S h n) ∧
  (∀ (d : Nat) (x0 x1 x2 x3 a : Int) (l0 l1 l2 l3 l4 : Option mx_V) (v5 : mx_V) (S h : mx_H) (n : Int), mx_ex (d + 1) 93 97 [l0, l1, l2, l3, l4] [(2, x0), (0, x1), (0, x2), (0, x3), (2, a), v5] S h n = mx_cl (1 ≤ S a (-2) ∧ S a (-2) ≤ 6) d 7 [(2, a), (0, x3), (0, x2), (0, x1), (2, x0)] 93 100 [l0, l1, l2, l3, l4] [v5] S h n) ∧
  (∀ (d : Nat) (x : Int) (l0 l1 l2 l3 l4 : Option mx_V) (S h : mx_H) (n : Int), mx_ex d 93 100 [l0, l1, l2, l3, l4] [(2, x)] S h n = some (some (2, x), S, h, n)) ∧
  (∀ (d : Nat) (l0 l1 l2 l3 l4 : Option mx_V) (S h : mx_H) (n : Int), mx_ex d 93 101 [l0, l1, l2, l3, l4] [] S h n = mx_ex d 93 104 [l0, l1, l2, l3, l4] [(2, n)] (mx_t S n 1 0) (mx_z h n) (n + 1)) ∧
  (∀ (d : Nat) (a : Int) (l0 l1 l2 l3 l4 : Option mx_V) (S h : mx_H) (n : Int), mx_ex d 93 104 [l0, l1, l2, l3, l4] [(2, a)] S h n = mx_ex d 93 105 [l0, l1, l2, l3, l4] [(2, a), (2, a)] S h n) ∧
  (∀ (d : Nat) (x : Int) (l0 l2 l3 l4 : Option mx_V) (v0 v1 : mx_V) (S h : mx_H) (n : Int), mx_ex d 93 105 [l0, some (0, x), l2, l3, l4] [v0, v1] S h n = mx_ex d 93 106 [l0, some (0, x), l2, l3, l4] [(0, x), v0, v1] S h n) ∧
  (∀ (d : Nat) (x : Int) (l0 l1 l3 l4 : Option mx_V) (v0 v1 v2 : mx_V) (S h : mx_H) (n : Int), mx_ex d 93 106 [l0, l1, some (0, x), l3, l4] [v0, v1, v2] S h n = mx_ex d 93 107 [l0, l1, some (0, x), l3, l4] [(0, x), v0, v1, v2] S h n) ∧
  (∀ (d : Nat) (x : Int) (l0 l1 l2 l4 : Option mx_V) (v0 v1 v2 v3 : mx_V) (S h : mx_H) (n : Int), mx_ex d 93 107 [l0, l1, l2, some (0, x), l4] [v0, v1, v2, v3] S h n = mx_ex d 93 108 [l0, l1, l2, some (0, x), l4] [(0, x), v0, v1, v2, v3] S h n) ∧
  (∀ (d : Nat) (x : Int) (l0 l1 l2 l3 : Option mx_V) (v0 v1 v2 v3 v4 : mx_V) (S h : mx_H) (n : Int), mx_ex d 93 108 [l0, l1, l2, l3, some (2, x)] [v0, v1, v2, v3, v4] S h n = mx_ex d 93 110 [l0, l1, l2, l3, some (2, x)] [(2, x), v0, v1, v2, v3, v4] S h n) ∧
  (∀ (d : Nat) (x0 x1 x2 x3 a : Int) (l0 l1 l2 l3 l4 : Option mx_V) (v5 : mx_V) (S h : mx_H) (n : Int), mx_ex (d + 1) 93 110 [l0, l1, l2, l3, l4] [(2, x0), (0, x1), (0, x2), (0, x3), (2, a), v5] S h n = mx_cl (1 ≤ S a (-2) ∧ S a (-2) ≤ 6) d 38 [(2, a), (0, x3), (0, x2), (0, x1), (2, x0)] 93 113 [l0, l1, l2, l3, l4] [v5] S h n) ∧
  (∀ (d : Nat) (x : Int) (l0 l1 l2 l3 l4 : Option mx_V) (S h : mx_H) (n : Int), mx_ex d 93 113 [l0, l1, l2, l3, l4] [(2, x)] S h n = some (some (2, x), S, h, n)) :=
  ⟨by intros; exact rfl,
   by intros; exact eq_ld rfl rfl,
   by intros; exact eq_sw rfl,
   by intros; exact eq_new rfl,
   by intros; exact eq_dup rfl (by decide),
   by intros; exact eq_ld rfl rfl,
   by intros; exact eq_ld rfl rfl,
   by intros; exact eq_ld rfl rfl,
   by intros; exact eq_ld rfl rfl,
   by intros; exact eq_ci rfl (Nat.le_of_ble_eq_true rfl) rfl rfl rfl (Nat.le_of_ble_eq_true rfl),
   by intros; exact eq_ret rfl,
   by intros; exact eq_new rfl,
   by intros; exact eq_dup rfl (by decide),
   by intros; exact eq_ld rfl rfl,
   by intros; exact eq_ld rfl rfl,
   by intros; exact eq_ld rfl rfl,
   by intros; exact eq_ld rfl rfl,
   by intros; exact eq_ci rfl (Nat.le_of_ble_eq_true rfl) rfl rfl rfl (Nat.le_of_ble_eq_true rfl),
   by intros; exact eq_ret rfl,
   by intros; exact eq_new rfl,
   by intros; exact eq_dup rfl (by decide),
   by intros; exact eq_ld rfl rfl,
   by intros; exact eq_ld rfl rfl,
   by intros; exact eq_ld rfl rfl,
   by intros; exact eq_ld rfl rfl,
   by intros; exact eq_ci rfl (Nat.le_of_ble_eq_true rfl) rfl rfl rfl (Nat.le_of_ble_eq_true rfl),
   by intros; exact eq_ret rfl,
   by intros; exact eq_new rfl,
   by intros; exact eq_dup rfl (by decide),
   by intros; exact eq_ld rfl rfl,
   by intros; exact eq_ld rfl rfl,
   by intros; exact eq_ld rfl rfl,
   by intros; exact eq_ld rfl rfl,
   by intros; exact eq_ci rfl (Nat.le_of_ble_eq_true rfl) rfl rfl rfl (Nat.le_of_ble_eq_true rfl),
   by intros; exact eq_ret rfl,
   by intros; exact eq_new rfl,
   by intros; exact eq_dup rfl (by decide),
   by intros; exact eq_ld rfl rfl,
   by intros; exact eq_ld rfl rfl,
   by intros; exact eq_ld rfl rfl,
   by intros; exact eq_ld rfl rfl,
   by intros; exact eq_ci rfl (Nat.le_of_ble_eq_true rfl) rfl rfl rfl (Nat.le_of_ble_eq_true rfl),
   by intros; exact eq_ret rfl,
   by intros; exact eq_new rfl,
   by intros; exact eq_dup rfl (by decide),
   by intros; exact eq_ld rfl rfl,
   by intros; exact eq_ld rfl rfl,
   by intros; exact eq_ld rfl rfl,
   by intros; exact eq_ld rfl rfl,
   by intros; exact eq_ci rfl (Nat.le_of_ble_eq_true rfl) rfl rfl rfl (Nat.le_of_ble_eq_true rfl),
   by intros; exact eq_ret rfl⟩
theorem rw_X10_addLine :
  (∀ (d : Nat) (a0 a1 a2 a3 a4 : Int) (S h : mx_H) (n : Int), mx_M d 94 [(2, a0), (0, a1), (0, a2), (0, a3), (0, a4)] S h n = mx_ex d 94 0 [some (2, a0), some (0, a1), some (0, a2), some (0, a3), some (0, a4), none] [] S h n) ∧
  (∀ (d : Nat) (x : Int) (l1 l2 l3 l4 l5 : Option mx_V) (S h : mx_H) (n : Int), mx_ex d 94 0 [some (2, x), l1, l2, l3, l4, l5] [] S h n = mx_ex d 94 1 [some (2, x), l1, l2, l3, l4, l5] [(2, x)] S h n) ∧
  (∀ (d : Nat) (a : Int) (l0 l1 l2 l3 l4 l5 : Option mx_V) (S h : mx_H) (n : Int), mx_ex d 94 1 [l0, l1, l2, l3, l4, l5] [(2, a)] S h n = mx_gd (8 ≤ S a (-2) ∧ S a (-2) ≤ 8) d 94 4 [l0, l1, l2, l3, l4, l5] [(0, h a 4)] S h n) ∧
  (∀ (d : Nat) (l0 l1 l2 l3 l4 l5 : Option mx_V) (v0 : mx_V) (S h : mx_H) (n : Int), mx_ex d 94 4 [l0, l1, l2, l3, l4, l5] [v0] S h n = mx_ex d 94 6 [l0, l1, l2, l3, l4, l5] [(0, 6), v0] S h n) ∧
  (∀ (d : Nat) (b a : Int) (l0 l1 l2 l3 l4 l5 : Option mx_V) (S h : mx_H) (n : Int), mx_ex d 94 6 [l0, l1, l2, l3, l4, l5] [(0, b), (0, a)] S h n = mx_br (a < b) d 94 12 9 [l0, l1, l2, l3, l4, l5] [] S h n) ∧
  (∀ (d : Nat) (l0 l1 l2 l3 l4 l5 : Option mx_V) (S h : mx_H) (n : Int), mx_ex d 94 9 [l0, l1, l2, l3, l4, l5] [] S h n = mx_ex d 94 11 [l0, l1, l2, l3, l4, l5] [(0, (-2))] S h n) ∧
  (∀ (d : Nat) (x : Int) (l0 l1 l2 l3 l4 l5 : Option mx_V) (S h : mx_H) (n : Int), mx_ex d 94 11 [l0, l1, l2, l3, l4, l5] [(0, x)] S h n = some (some (0, x), S, h, n)) ∧
  (∀ (d : Nat) (x : Int) (l1 l2 l3 l4 l5 : Option mx_V) (S h : mx_H) (n : Int), mx_ex d 94 12 [some (2, x), l1, l2, l3, l4, l5] [] S h n = mx_ex d 94 13 [some (2, x), l1, l2, l3, l4, l5] [(2, x)] S h n) ∧
  (∀ (d : Nat) (a : Int) (l0 l1 l2 l3 l4 l5 : Option mx_V) (S h : mx_H) (n : Int), mx_ex d 94 13 [l0, l1, l2, l3, l4, l5] [(2, a)] S h n = mx_gd (8 ≤ S a (-2) ∧ S a (-2) ≤ 8) d 94 16 [l0, l1, l2, l3, l4, l5] [(0, h a 4)] S h n) ∧
  (∀ (d : Nat) (l0 l1 l2 l3 l4 l5 : Option mx_V) (v0 : mx_V) (S h : mx_H) (n : Int), mx_ex d 94 16 [l0, l1, l2, l3, l4, l5] [v0] S h n = mx_ex d 94 17 [l0, l1, l2, l3, l4, l5] [(0, 4), v0] S h n) ∧
  (∀ (d : Nat) (b a : Int) (l0 l1 l2 l3 l4 l5 : Option mx_V) (S h : mx_H) (n : Int), mx_ex d 94 17 [l0, l1, l2, l3, l4, l5] [(0, b), (0, a)] S h n = mx_ex d 94 18 [l0, l1, l2, l3, l4, l5] [(0, mx_w (a * b))] S h n) ∧
  (∀ (d : Nat) (x : Int) (l0 l1 l2 l3 l4 l5 : Option mx_V) (S h : mx_H) (n : Int), mx_ex d 94 18 [l0, l1, l2, l3, l4, l5] [(0, x)] S h n = mx_ex d 94 20 [l0, l1, l2, l3, mx_nl l4, some (0, x)] [] S h n) ∧
  (∀ (d : Nat) (x : Int) (l1 l2 l3 l4 l5 : Option mx_V) (S h : mx_H) (n : Int), mx_ex d 94 20 [some (2, x), l1, l2, l3, l4, l5] [] S h n = mx_ex d 94 21 [some (2, x), l1, l2, l3, l4, l5] [(2, x)] S h n) ∧
  (∀ (d : Nat) (a : Int) (l0 l1 l2 l3 l4 l5 : Option mx_V) (S h : mx_H) (n : Int), mx_ex d 94 21 [l0, l1, l2, l3, l4, l5] [(2, a)] S h n = mx_gd (8 ≤ S a (-2) ∧ S a (-2) ≤ 8) d 94 24 [l0, l1, l2, l3, l4, l5] [(2, S a 2)] S h n) ∧
  (∀ (d : Nat) (x : Int) (l0 l1 l2 l3 l4 : Option mx_V) (v0 : mx_V) (S h : mx_H) (n : Int), mx_ex d 94 24 [l0, l1, l2, l3, l4, some (0, x)] [v0] S h n = mx_ex d 94 26 [l0, l1, l2, l3, l4, some (0, x)] [(0, x), v0] S h n) ∧
  (∀ (d : Nat) (x : Int) (l0 l2 l3 l4 l5 : Option mx_V) (v0 v1 : mx_V) (S h : mx_H) (n : Int), mx_ex d 94 26 [l0, some (0, x), l2, l3, l4, l5] [v0, v1] S h n = mx_ex d 94 27 [l0, some (0, x), l2, l3, l4, l5] [(0, x), v0, v1] S h n) ∧
  (∀ (d : Nat) (v i a : Int) (l0 l1 l2 l3 l4 l5 : Option mx_V) (S h : mx_H) (n : Int), mx_ex d 94 27 [l0, l1, l2, l3, l4, l5] [(0, v), (0, i), (2, a)] S h n = mx_gd (S a (-2) = 20 ∧ 0 ≤ i ∧ i < S a (-1)) d 94 28 [l0, l1, l2, l3, l4, l5] [] S (mx_u h a i v) n) ∧
  (∀ (d : Nat) (x : Int) (l1 l2 l3 l4 l5 : Option mx_V) (S h : mx_H) (n : Int), mx_ex d 94 28 [some (2, x), l1, l2, l3, l4, l5] [] S h n = mx_ex d 94 29 [some (2, x), l1, l2, l3, l4, l5] [(2, x)] S h n) ∧
  (∀ (d : Nat) (a : Int) (l0 l1 l2 l3 l4 l5 : Option mx_V) (S h : mx_H) (n : Int), mx_ex d 94 29 [l0, l1, l2, l3, l4, l5] [(2, a)] S h n = mx_gd (8 ≤ S a (-2) ∧ S a (-2) ≤ 8) d 94 32 [l0, l1, l2, l3, l4, l5] [(2, S a 2)] S h n) ∧
  (∀ (d : Nat) (x : Int) (l0 l1 l2 l3 l4 : Option mx_V) (v0 : mx_V) (S h : mx_H) (n : Int), mx_ex d 94 32 [l0, l1, l2, l3, l4, some (0, x)] [v0] S h n = mx_ex d 94 34 [l0, l1, l2, l3, l4, some (0, x)] [(0, x), v0] S h n) ∧
  (∀ (d : Nat) (l0 l1 l2 l3 l4 l5 : Option mx_V) (v0 v1 : mx_V) (S h : mx_H) (n : Int), mx_ex d 94 34 [l0, l1, l2, l3, l4, l5] [v0, v1] S h n = mx_ex d 94 35 [l0, l1, l2, l3, l4, l5] [(0, 1), v0, v1] S h n) ∧
  (∀ (d : Nat) (b a : Int) (l0 l1 l2 l3 l4 l5 : Option mx_V) (v2 : mx_V) (S h : mx_H) (n : Int), mx_ex d 94 35 [l0, l1, l2, l3, l4, l5] [(0, b), (0, a), v2] S h n = mx_ex d 94 36 [l0, l1, l2, l3, l4, l5] [(0, mx_w (a + b)), v2] S h n) ∧
  (∀ (d : Nat) (x : Int) (l0 l1 l3 l4 l5 : Option mx_V) (v0 v1 : mx_V) (S h : mx_H) (n : Int), mx_ex d 94 36 [l0, l1, some (0, x), l3, l4, l5] [v0, v1] S h n = mx_ex d 94 37 [l0, l1, some (0, x), l3, l4, l5] [(0, x), v0, v1] S h n) ∧
  (∀ (d : Nat) (v i a : Int) (l0 l1 l2 l3 l4 l5 : Option mx_V) (S h : mx_H) (n : Int), mx_ex d 94 37 [l0, l1, l2, l3, l4, l5] [(0, v), (0, i), (2, a)] S h n = mx_gd (S a (-2) = 20 ∧ 0 ≤ i ∧ i < S a (-1)) d 94 38 [l0, l1, l2, l3, l4, l5] [] S (mx_u h a i v) n) ∧
  (∀ (d : Nat) (x : Int) (l1 l2 l3 l4 l5 : Option mx_V) (S h : mx_H) (n : Int), mx_ex d 94 38 [some (2, x), l1, l2, l3, l4, l5] [] S h n = mx_ex d 94 39 [some (2, x), l1, l2, l3, l4, l5] [(2, x)] S h n) ∧
  (∀ (d : Nat) (a : Int) (l0 l1 l2 l3 l4 l5 : Option mx_V) (S h : mx_H) (n : Int), mx_ex d 94 39 [l0, l1, l2, l3, l4, l5] [(2, a)] S h n = mx_gd (8 ≤ S a (-2) ∧ S a (-2) ≤ 8) d 94 42 [l0, l1, l2, l3, l4, l5] [(2, S a 2)] S h n) ∧
  (∀ (d : Nat) (x : Int) (l0 l1 l2 l3 l4 : Option mx_V) (v0 : mx_V) (S h : mx_H) (n : Int), mx_ex d 94 42 [l0, l1, l2, l3, l4, some (0, x)] [v0] S h n = mx_ex d 94 44 [l0, l1, l2, l3, l4, some (0, x)] [(0, x), v0] S h n) ∧
  (∀ (d : Nat) (l0 l1 l2 l3 l4 l5 : Option mx_V) (v0 v1 : mx_V) (S h : mx_H) (n : Int), mx_ex d 94 44 [l0, l1, l2, l3, l4, l5] [v0, v1] S h n = mx_ex d 94 45 [l0, l1, l2, l3, l4, l5] [(0, 2), v0, v1] S h n) ∧
  (∀ (d : Nat) (b a : Int) (l0 l1 l2 l3 l4 l5 : Option mx_V) (v2 : mx_V) (S h : mx_H) (n : Int), mx_ex d 94 45 [l0, l1, l2, l3, l4, l5] [(0, b), (0, a), v2] S h n = mx_ex d 94 46 [l0, l1, l2, l3, l4, l5] [(0, mx_w (a + b)), v2] S h n) ∧
  (∀ (d : Nat) (x : Int) (l0 l2 l3 l4 l5 : Option mx_V) (v0 v1 : mx_V) (S h : mx_H) (n : Int), mx_ex d 94 46 [l0, some (0, x), l2, l3, l4, l5] [v0, v1] S h n = mx_ex d 94 47 [l0, some (0, x), l2, l3, l4, l5] [(0, x), v0, v1] S h n) ∧
  (∀ (d : Nat) (l0 l1 l2 l3 l4 l5 : Option mx_V) (v0 v1 v2 : mx_V) (S h : mx_H) (n : Int), mx_ex d 94 47 [l0, l1, l2, l3, l4, l5] [v0, v1, v2] S h n = mx_ex d 94 48 [l0, l1, l2, l3, l4, l5] [(0, 3), v0, v1, v2] S h n) ∧
  (∀ (d : Nat) (b a : Int) (l0 l1 l2 l3 l4 l5 : Option mx_V) (v2 v3 : mx_V) (S h : mx_H) (n : Int), mx_ex d 94 48 [l0, l1, l2, l3, l4, l5] [(0, b), (0, a), v2, v3] S h n = mx_br (a = b) d 94 51 55 [l0, l1, l2, l3, l4, l5] [v2, v3] S h n) ∧
  (∀ (d : Nat) (l0 l1 l2 l3 l4 l5 : Option mx_V) (v0 v1 : mx_V) (S h : mx_H) (n : Int), mx_ex d 94 51 [l0, l1, l2, l3, l4, l5] [v0, v1] S h n = mx_ex d 94 52 [l0, l1, l2, l3, l4, l5] [(0, 0), v0, v1] S h n) ∧
  (∀ (d : Nat) (l0 l1 l2 l3 l4 l5 : Option mx_V) (v0 v1 v2 : mx_V) (S h : mx_H) (n : Int), mx_ex d 94 52 [l0, l1, l2, l3, l4, l5] [v0, v1, v2] S h n = mx_ex d 94 56 [l0, l1, l2, l3, l4, l5] [v0, v1, v2] S h n) ∧
  (∀ (d : Nat) (x : Int) (l0 l1 l2 l4 l5 : Option mx_V) (v0 v1 : mx_V) (S h : mx_H) (n : Int), mx_ex d 94 55 [l0, l1, l2, some (0, x), l4, l5] [v0, v1] S h n = mx_ex d 94 56 [l0, l1, l2, some (0, x), l4, l5] [(0, x), v0, v1] S h n) ∧
  (∀ (d : Nat) (v i a : Int) (l0 l1 l2 l3 l4 l5 : Option mx_V) (S h : mx_H) (n : Int), mx_ex d 94 56 [l0, l1, l2, l3, l4, l5] [(0, v), (0, i), (2, a)] S h n = mx_gd (S a (-2) = 20 ∧ 0 ≤ i ∧ i < S a (-1)) d 94 57 [l0, l1, l2, l3, l4, l5] [] S (mx_u h a i v) n) ∧
  (∀ (d : Nat) (x : Int) (l1 l2 l3 l4 l5 : Option mx_V) (S h : mx_H) (n : Int), mx_ex d 94 57 [some (2, x), l1, l2, l3, l4, l5] [] S h n = mx_ex d 94 58 [some (2, x), l1, l2, l3, l4, l5] [(2, x)] S h n) ∧
  (∀ (d : Nat) (a : Int) (l0 l1 l2 l3 l4 l5 : Option mx_V) (S h : mx_H) (n : Int), mx_ex d 94 58 [l0, l1, l2, l3, l4, l5] [(2, a)] S h n = mx_gd (8 ≤ S a (-2) ∧ S a (-2) ≤ 8) d 94 61 [l0, l1, l2, l3, l4, l5] [(2, S a 2)] S h n) ∧
  (∀ (d : Nat) (x : Int) (l0 l1 l2 l3 l4 : Option mx_V) (v0 : mx_V) (S h : mx_H) (n : Int), mx_ex d 94 61 [l0, l1, l2, l3, l4, some (0, x)] [v0] S h n = mx_ex d 94 63 [l0, l1, l2, l3, l4, some (0, x)] [(0, x), v0] S h n) ∧
  (∀ (d : Nat) (l0 l1 l2 l3 l4 l5 : Option mx_V) (v0 v1 : mx_V) (S h : mx_H) (n : Int), mx_ex d 94 63 [l0, l1, l2, l3, l4, l5] [v0, v1] S h n = mx_ex d 94 64 [l0, l1, l2, l3, l4, l5] [(0, 3), v0, v1] S h n) ∧
  (∀ (d : Nat) (b a : Int) (l0 l1 l2 l3 l4 l5 : Option mx_V) (v2 : mx_V) (S h : mx_H) (n : Int), mx_ex d 94 64 [l0, l1, l2, l3, l4, l5] [(0, b), (0, a), v2] S h n = mx_ex d 94 65 [l0, l1, l2, l3, l4, l5] [(0, mx_w (a + b)), v2] S h n) ∧
  (∀ (d : Nat) (x : Int) (l0 l2 l3 l4 l5 : Option mx_V) (v0 v1 : mx_V) (S h : mx_H) (n : Int), mx_ex d 94 65 [l0, some (0, x), l2, l3, l4, l5] [v0, v1] S h n = mx_ex d 94 66 [l0, some (0, x), l2, l3, l4, l5] [(0, x), v0, v1] S h n) ∧
  (∀ (d : Nat) (l0 l1 l2 l3 l4 l5 : Option mx_V) (v0 v1 v2 : mx_V) (S h : mx_H) (n : Int), mx_ex d 94 66 [l0, l1, l2, l3, l4, l5] [v0, v1, v2] S h n = mx_ex d 94 67 [l0, l1, l2, l3, l4, l5] [(0, 2), v0, v1, v2] S h n) ∧
  (∀ (d : Nat) (b a : Int) (l0 l1 l2 l3 l4 l5 : Option mx_V) (v2 v3 : mx_V) (S h : mx_H) (n : Int), mx_ex d 94 67 [l0, l1, l2, l3, l4, l5] [(0, b), (0, a), v2, v3] S h n = mx_br (a = b) d 94 75 70 [l0, l1, l2, l3, l4, l5] [v2, v3] S h n) ∧
  (∀ (d : Nat) (x : Int) (l0 l2 l3 l4 l5 : Option mx_V) (v0 v1 : mx_V) (S h : mx_H) (n : Int), mx_ex d 94 70 [l0, some (0, x), l2, l3, l4, l5] [v0, v1] S h n = mx_ex d 94 71 [l0, some (0, x), l2, l3, l4, l5] [(0, x), v0, v1] S h n) ∧
  (∀ (d : Nat) (l0 l1 l2 l3 l4 l5 : Option mx_V) (v0 v1 v2 : mx_V) (S h : mx_H) (n : Int), mx_ex d 94 71 [l0, l1, l2, l3, l4, l5] [v0, v1, v2] S h n = mx_ex d 94 72 [l0, l1, l2, l3, l4, l5] [(0, 3), v0, v1, v2] S h n) ∧
  (∀ (d : Nat) (b a : Int) (l0 l1 l2 l3 l4 l5 : Option mx_V) (v2 v3 : mx_V) (S h : mx_H) (n : Int), mx_ex d 94 72 [l0, l1, l2, l3, l4, l5] [(0, b), (0, a), v2, v3] S h n = mx_br (a = b) d 94 75 80 [l0, l1, l2, l3, l4, l5] [v2, v3] S h n) ∧
  (∀ (d : Nat) (x : Int) (l0 l1 l2 l3 l5 : Option mx_V) (v0 v1 : mx_V) (S h : mx_H) (n : Int), mx_ex d 94 75 [l0, l1, l2, l3, some (0, x), l5] [v0, v1] S h n = mx_ex d 94 77 [l0, l1, l2, l3, some (0, x), l5] [(0, x), v0, v1] S h n) ∧
  (∀ (d : Nat) (l0 l1 l2 l3 l4 l5 : Option mx_V) (v0 v1 v2 : mx_V) (S h : mx_H) (n : Int), mx_ex d 94 77 [l0, l1, l2, l3, l4, l5] [v0, v1, v2] S h n = mx_ex d 94 81 [l0, l1, l2, l3, l4, l5] [v0, v1, v2] S h n) ∧
  (∀ (d : Nat) (l0 l1 l2 l3 l4 l5 : Option mx_V) (v0 v1 : mx_V) (S h : mx_H) (n : Int), mx_ex d 94 80 [l0, l1, l2, l3, l4, l5] [v0, v1] S h n = mx_ex d 94 81 [l0, l1, l2, l3, l4, l5] [(0, 0), v0, v1] S h n) ∧
  (∀ (d : Nat) (v i a : Int) (l0 l1 l2 l3 l4 l5 : Option mx_V) (S h : mx_H) (n : Int), mx_ex d 94 81 [l0, l1, l2, l3, l4, l5] [(0, v), (0, i), (2, a)] S h n = mx_gd (S a (-2) = 20 ∧ 0 ≤ i ∧ i < S a (-1)) d 94 82 [l0, l1, l2, l3, l4, l5] [] S (mx_u h a i v) n) ∧
  (∀ (d : Nat) (x : Int) (l1 l2 l3 l4 l5 : Option mx_V) (S h : mx_H) (n : Int), mx_ex d 94 82 [some (2, x), l1, l2, l3, l4, l5] [] S h n = mx_ex d 94 83 [some (2, x), l1, l2, l3, l4, l5] [(2, x)] S h n) ∧
  (∀ (d : Nat) (a : Int) (l0 l1 l2 l3 l4 l5 : Option mx_V) (S h : mx_H) (n : Int), mx_ex d 94 83 [l0, l1, l2, l3, l4, l5] [(2, a)] S h n = mx_ex d 94 84 [l0, l1, l2, l3, l4, l5] [(2, a), (2, a)] S h n) ∧
  (∀ (d : Nat) (a : Int) (l0 l1 l2 l3 l4 l5 : Option mx_V) (v1 : mx_V) (S h : mx_H) (n : Int), mx_ex d 94 84 [l0, l1, l2, l3, l4, l5] [(2, a), v1] S h n = mx_gd (8 ≤ S a (-2) ∧ S a (-2) ≤ 8) d 94 87 [l0, l1, l2, l3, l4, l5] [(0, h a 4), v1] S h n) ∧
  (∀ (d : Nat) (l0 l1 l2 l3 l4 l5 : Option mx_V) (v0 v1 : mx_V) (S h : mx_H) (n : Int), mx_ex d 94 87 [l0, l1, l2, l3, l4, l5] [v0, v1] S h n = mx_ex d 94 88 [l0, l1, l2, l3, l4, l5] [(0, 1), v0, v1] S h n) ∧
  (∀ (d : Nat) (b a : Int) (l0 l1 l2 l3 l4 l5 : Option mx_V) (v2 : mx_V) (S h : mx_H) (n : Int), mx_ex d 94 88 [l0, l1, l2, l3, l4, l5] [(0, b), (0, a), v2] S h n = mx_ex d 94 89 [l0, l1, l2, l3, l4, l5] [(0, mx_w (a + b)), v2] S h n) ∧
  (∀ (d : Nat) (v a : Int) (l0 l1 l2 l3 l4 l5 : Option mx_V) (S h : mx_H) (n : Int), mx_ex d 94 89 [l0, l1, l2, l3, l4, l5] [(0, v), (2, a)] S h n = mx_gd (8 ≤ S a (-2) ∧ S a (-2) ≤ 8) d 94 92 [l0, l1, l2, l3, l4, l5] [] S (mx_u h a 4 v) n) ∧
  (∀ (d : Nat) (x : Int) (l1 l2 l3 l4 l5 : Option mx_V) (S h : mx_H) (n : Int), mx_ex d 94 92 [some (2, x), l1, l2, l3, l4, l5] [] S h n = mx_ex d 94 93 [some (2, x), l1, l2, l3, l4, l5] [(2, x)] S h n) ∧
  (∀ (d : Nat) (a : Int) (l0 l1 l2 l3 l4 l5 : Option mx_V) (S h : mx_H) (n : Int), mx_ex d 94 93 [l0, l1, l2, l3, l4, l5] [(2, a)] S h n = mx_ex d 94 94 [l0, l1, l2, l3, l4, l5] [(2, a), (2, a)] S h n) ∧
  (∀ (d : Nat) (a : Int) (l0 l1 l2 l3 l4 l5 : Option mx_V) (v1 : mx_V) (S h : mx_H) (n : Int), mx_ex d 94 94 [l0, l1, l2, l3, l4, l5] [(2, a), v1] S h n = mx_gd (8 ≤ S a (-2) ∧ S a (-2) ≤ 8) d 94 97 [l0, l1, l2, l3, l4, l5] [(0, h a 5), v1] S h n) ∧
  (∀ (d : Nat) (l0 l1 l2 l3 l4 l5 : Option mx_V) (v0 v1 : mx_V) (S h : mx_H) (n : Int), mx_ex d 94 97 [l0, l1, l2, l3, l4, l5] [v0, v1] S h n = mx_ex d 94 98 [l0, l1, l2, l3, l4, l5] [(0, 1), v0, v1] S h n) ∧
  (∀ (d : Nat) (b a : Int) (l0 l1 l2 l3 l4 l5 : Option mx_V) (v2 : mx_V) (S h : mx_H) (n : Int), mx_ex d 94 98 [l0, l1, l2, l3, l4, l5] [(0, b), (0, a), v2] S h n = mx_ex d 94 99 [l0, l1, l2, l3, l4, l5] [(0, mx_w (a + b)), v2] S h n) ∧
  (∀ (d : Nat) (v a : Int) (l0 l1 l2 l3 l4 l5 : Option mx_V) (S h : mx_H) (n : Int), mx_ex d 94 99 [l0, l1, l2, l3, l4, l5] [(0, v), (2, a)] S h n = mx_gd (8 ≤ S a (-2) ∧ S a (-2) ≤ 8) d 94 102 [l0, l1, l2, l3, l4, l5] [] S (mx_u h a 5 v) n) ∧
  (∀ (d : Nat) (x : Int) (l1 l2 l3 l4 l5 : Option mx_V) (S h : mx_H) (n : Int), mx_ex d 94 102 [some (2, x), l1, l2, l3, l4, l5] [] S h n = mx_ex d 94 103 [some (2, x), l1, l2, l3, l4, l5] [(2, x)] S h n) ∧
  (∀ (d : Nat) (a : Int) (l0 l1 l2 l3 l4 l5 : Option mx_V) (S h : mx_H) (n : Int), mx_ex d 94 103 [l0, l1, l2, l3, l4, l5] [(2, a)] S h n = mx_gd (8 ≤ S a (-2) ∧ S a (-2) ≤ 8) d 94 106 [l0, l1, l2, l3, l4, l5] [(0, h a 4)] S h n) ∧
  (∀ (d : Nat) (l0 l1 l2 l3 l4 l5 : Option mx_V) (v0 : mx_V) (S h : mx_H) (n : Int), mx_ex d 94 106 [l0, l1, l2, l3, l4, l5] [v0] S h n = mx_ex d 94 107 [l0, l1, l2, l3, l4, l5] [(0, 1), v0] S h n) ∧
  (∀ (d : Nat) (b a : Int) (l0 l1 l2 l3 l4 l5 : Option mx_V) (S h : mx_H) (n : Int), mx_ex d 94 107 [l0, l1, l2, l3, l4, l5] [(0, b), (0, a)] S h n = mx_ex d 94 108 [l0, l1, l2, l3, l4, l5] [(0, mx_w (a - b))] S h n) ∧
  (∀ (d : Nat) (x : Int) (l0 l1 l2 l3 l4 l5 : Option mx_V) (S h : mx_H) (n : Int), mx_ex d 94 108 [l0, l1, l2, l3, l4, l5] [(0, x)] S h n = some (some (0, x), S, h, n)) :=
  ⟨by intros; exact rfl,
   by intros; exact eq_ld rfl rfl,
   by intros; exact eq_gi rfl,
   by intros; exact eq_push rfl,
   by intros; exact eq_ic2 rfl,
   by intros; exact eq_push rfl,
   by intros; exact eq_ret rfl,
   by intros; exact eq_ld rfl rfl,
   by intros; exact eq_gi rfl,
   by intros; exact eq_push rfl,
   by intros; exact eq_i2 (o := mx_mul) rfl,
   by intros; exact eq_st rfl (by decide) (Nat.le_of_ble_eq_true rfl) rfl,
   by intros; exact eq_ld rfl rfl,
   by intros; exact eq_gr rfl,
   by intros; exact eq_ld rfl rfl,
   by intros; exact eq_ld rfl rfl,
   by intros; exact eq_iast rfl,
   by intros; exact eq_ld rfl rfl,
   by intros; exact eq_gr rfl,
   by intros; exact eq_ld rfl rfl,
   by intros; exact eq_push rfl,
   by intros; exact eq_i2 (o := mx_add) rfl,
   by intros; exact eq_ld rfl rfl,
   by intros; exact eq_iast rfl,
   by intros; exact eq_ld rfl rfl,
   by intros; exact eq_gr rfl,
   by intros; exact eq_ld rfl rfl,
   by intros; exact eq_push rfl,
   by intros; exact eq_i2 (o := mx_add) rfl,
   by intros; exact eq_ld rfl rfl,
   by intros; exact eq_push rfl,
   by intros; exact eq_ic1 rfl,
   by intros; exact eq_push rfl,
   by intros; exact eq_go rfl,
   by intros; exact eq_ld rfl rfl,
   by intros; exact eq_iast rfl,
   by intros; exact eq_ld rfl rfl,
   by intros; exact eq_gr rfl,
   by intros; exact eq_ld rfl rfl,
   by intros; exact eq_push rfl,
   by intros; exact eq_i2 (o := mx_add) rfl,
   by intros; exact eq_ld rfl rfl,
   by intros; exact eq_push rfl,
   by intros; exact eq_ic0 rfl,
   by intros; exact eq_ld rfl rfl,
   by intros; exact eq_push rfl,
   by intros; exact eq_ic1 rfl,
   by intros; exact eq_ld rfl rfl,
   by intros; exact eq_go rfl,
   by intros; exact eq_push rfl,
   by intros; exact eq_iast rfl,
   by intros; exact eq_ld rfl rfl,
   by intros; exact eq_dup rfl (by decide),
   by intros; exact eq_gi rfl,
   by intros; exact eq_push rfl,
   by intros; exact eq_i2 (o := mx_add) rfl,
   by intros; exact eq_pi rfl,
   by intros; exact eq_ld rfl rfl,
   by intros; exact eq_dup rfl (by decide),
   by intros; exact eq_gi rfl,
   by intros; exact eq_push rfl,
   by intros; exact eq_i2 (o := mx_add) rfl,
   by intros; exact eq_pi rfl,
   by intros; exact eq_ld rfl rfl,
   by intros; exact eq_gi rfl,
   by intros; exact eq_push rfl,
   by intros; exact eq_i2 (o := mx_sub) rfl,
   by intros; exact eq_ret rfl⟩
theorem rw_X10_strikeLine :
  (∀ (d : Nat) (a0 a1 : Int) (S h : mx_H) (n : Int), mx_M d 95 [(2, a0), (0, a1)] S h n = mx_ex d 95 0 [some (2, a0), some (0, a1), none] [] S h n) ∧
  (∀ (d : Nat) (x : Int) (l1 l2 : Option mx_V) (S h : mx_H) (n : Int), mx_ex d 95 0 [some (2, x), l1, l2] [] S h n = mx_ex d 95 1 [some (2, x), l1, l2] [(2, x)] S h n) ∧
  (∀ (d : Nat) (a : Int) (l0 l1 l2 : Option mx_V) (S h : mx_H) (n : Int), mx_ex d 95 1 [l0, l1, l2] [(2, a)] S h n = mx_gd (8 ≤ S a (-2) ∧ S a (-2) ≤ 8) d 95 4 [l0, l1, l2] [(0, h a 4)] S h n) ∧
  (∀ (d : Nat) (l0 l1 l2 : Option mx_V) (v0 : mx_V) (S h : mx_H) (n : Int), mx_ex d 95 4 [l0, l1, l2] [v0] S h n = mx_ex d 95 5 [l0, l1, l2] [(0, 1), v0] S h n) ∧
  (∀ (d : Nat) (b a : Int) (l0 l1 l2 : Option mx_V) (S h : mx_H) (n : Int), mx_ex d 95 5 [l0, l1, l2] [(0, b), (0, a)] S h n = mx_ex d 95 6 [l0, l1, l2] [(0, mx_w (a - b))] S h n) ∧
  (∀ (d : Nat) (x : Int) (l0 l2 : Option mx_V) (v0 : mx_V) (S h : mx_H) (n : Int), mx_ex d 95 6 [l0, some (0, x), l2] [v0] S h n = mx_ex d 95 7 [l0, some (0, x), l2] [(0, x), v0] S h n) ∧
  (∀ (d : Nat) (b a : Int) (l0 l1 l2 : Option mx_V) (S h : mx_H) (n : Int), mx_ex d 95 7 [l0, l1, l2] [(0, b), (0, a)] S h n = mx_ex d 95 8 [l0, l1, l2] [(0, mx_w (a - b))] S h n) ∧
  (∀ (d : Nat) (x : Int) (l0 l1 l2 : Option mx_V) (S h : mx_H) (n : Int), mx_ex d 95 8 [l0, l1, l2] [(0, x)] S h n = mx_ex d 95 9 [l0, mx_nl l1, some (0, x)] [] S h n) ∧
  (∀ (d : Nat) (x : Int) (l0 l2 : Option mx_V) (S h : mx_H) (n : Int), mx_ex d 95 9 [l0, some (0, x), l2] [] S h n = mx_ex d 95 10 [l0, some (0, x), l2] [(0, x)] S h n) ∧
  (∀ (d : Nat) (a : Int) (l0 l1 l2 : Option mx_V) (S h : mx_H) (n : Int), mx_ex d 95 10 [l0, l1, l2] [(0, a)] S h n = mx_br (a < 0) d 95 59 13 [l0, l1, l2] [] S h n) ∧
  (∀ (d : Nat) (x : Int) (l0 l1 : Option mx_V) (S h : mx_H) (n : Int), mx_ex d 95 13 [l0, l1, some (0, x)] [] S h n = mx_ex d 95 14 [l0, l1, some (0, x)] [(0, x)] S h n) ∧
  (∀ (d : Nat) (a : Int) (l0 l1 l2 : Option mx_V) (S h : mx_H) (n : Int), mx_ex d 95 14 [l0, l1, l2] [(0, a)] S h n = mx_br (a < 0) d 95 59 17 [l0, l1, l2] [] S h n) ∧
  (∀ (d : Nat) (x : Int) (l1 l2 : Option mx_V) (S h : mx_H) (n : Int), mx_ex d 95 17 [some (2, x), l1, l2] [] S h n = mx_ex d 95 18 [some (2, x), l1, l2] [(2, x)] S h n) ∧
  (∀ (d : Nat) (a : Int) (l0 l1 l2 : Option mx_V) (S h : mx_H) (n : Int), mx_ex d 95 18 [l0, l1, l2] [(2, a)] S h n = mx_gd (8 ≤ S a (-2) ∧ S a (-2) ≤ 8) d 95 21 [l0, l1, l2] [(2, S a 2)] S h n) ∧
  (∀ (d : Nat) (x : Int) (l0 l2 : Option mx_V) (v0 : mx_V) (S h : mx_H) (n : Int), mx_ex d 95 21 [l0, some (0, x), l2] [v0] S h n = mx_ex d 95 22 [l0, some (0, x), l2] [(0, x), v0] S h n) ∧
  (∀ (d : Nat) (l0 l1 l2 : Option mx_V) (v0 v1 : mx_V) (S h : mx_H) (n : Int), mx_ex d 95 22 [l0, l1, l2] [v0, v1] S h n = mx_ex d 95 23 [l0, l1, l2] [(0, 1), v0, v1] S h n) ∧
  (∀ (d : Nat) (b a : Int) (l0 l1 l2 : Option mx_V) (v2 : mx_V) (S h : mx_H) (n : Int), mx_ex d 95 23 [l0, l1, l2] [(0, b), (0, a), v2] S h n = mx_ex d 95 24 [l0, l1, l2] [(0, mx_w (a + b)), v2] S h n) ∧
  (∀ (d : Nat) (l0 l1 l2 : Option mx_V) (v0 v1 : mx_V) (S h : mx_H) (n : Int), mx_ex d 95 24 [l0, l1, l2] [v0, v1] S h n = mx_ex d 95 25 [l0, l1, l2] [(0, 4), v0, v1] S h n) ∧
  (∀ (d : Nat) (b a : Int) (l0 l1 l2 : Option mx_V) (v2 : mx_V) (S h : mx_H) (n : Int), mx_ex d 95 25 [l0, l1, l2] [(0, b), (0, a), v2] S h n = mx_ex d 95 26 [l0, l1, l2] [(0, mx_w (a * b)), v2] S h n) ∧
  (∀ (d : Nat) (x : Int) (l1 l2 : Option mx_V) (v0 v1 : mx_V) (S h : mx_H) (n : Int), mx_ex d 95 26 [some (2, x), l1, l2] [v0, v1] S h n = mx_ex d 95 27 [some (2, x), l1, l2] [(2, x), v0, v1] S h n) ∧
  (∀ (d : Nat) (a : Int) (l0 l1 l2 : Option mx_V) (v1 v2 : mx_V) (S h : mx_H) (n : Int), mx_ex d 95 27 [l0, l1, l2] [(2, a), v1, v2] S h n = mx_gd (8 ≤ S a (-2) ∧ S a (-2) ≤ 8) d 95 30 [l0, l1, l2] [(2, S a 2), v1, v2] S h n) ∧
  (∀ (d : Nat) (x : Int) (l0 l2 : Option mx_V) (v0 v1 v2 : mx_V) (S h : mx_H) (n : Int), mx_ex d 95 30 [l0, some (0, x), l2] [v0, v1, v2] S h n = mx_ex d 95 31 [l0, some (0, x), l2] [(0, x), v0, v1, v2] S h n) ∧
  (∀ (d : Nat) (l0 l1 l2 : Option mx_V) (v0 v1 v2 v3 : mx_V) (S h : mx_H) (n : Int), mx_ex d 95 31 [l0, l1, l2] [v0, v1, v2, v3] S h n = mx_ex d 95 32 [l0, l1, l2] [(0, 4), v0, v1, v2, v3] S h n) ∧
  (∀ (d : Nat) (b a : Int) (l0 l1 l2 : Option mx_V) (v2 v3 v4 : mx_V) (S h : mx_H) (n : Int), mx_ex d 95 32 [l0, l1, l2] [(0, b), (0, a), v2, v3, v4] S h n = mx_ex d 95 33 [l0, l1, l2] [(0, mx_w (a * b)), v2, v3, v4] S h n) ∧
  (∀ (d : Nat) (x : Int) (l0 l1 : Option mx_V) (v0 v1 v2 v3 : mx_V) (S h : mx_H) (n : Int), mx_ex d 95 33 [l0, l1, some (0, x)] [v0, v1, v2, v3] S h n = mx_ex d 95 34 [l0, l1, some (0, x)] [(0, x), v0, v1, v2, v3] S h n) ∧
  (∀ (d : Nat) (l0 l1 l2 : Option mx_V) (v0 v1 v2 v3 v4 : mx_V) (S h : mx_H) (n : Int), mx_ex d 95 34 [l0, l1, l2] [v0, v1, v2, v3, v4] S h n = mx_ex d 95 35 [l0, l1, l2] [(0, 4), v0, v1, v2, v3, v4] S h n) ∧
  (∀ (d : Nat) (b a : Int) (l0 l1 l2 : Option mx_V) (v2 v3 v4 v5 : mx_V) (S h : mx_H) (n : Int), mx_ex d 95 35 [l0, l1, l2] [(0, b), (0, a), v2, v3, v4, v5] S h n = mx_ex d 95 36 [l0, l1, l2] [(0, mx_w (a * b)), v2, v3, v4, v5] S h n) ∧
  (∀ (d : Nat) (x j b i a : Int) (l0 l1 l2 : Option mx_V) (S h : mx_H) (n : Int), mx_ex d 95 36 [l0, l1, l2] [(0, x), (0, j), (2, b), (0, i), (2, a)] S h n = mx_gd (S a (-2) = 20 ∧ S b (-2) = 20 ∧ 0 ≤ x ∧ 0 ≤ i ∧ 0 ≤ j ∧ i + x ≤ S a (-1) ∧ j + x ≤ S b (-1)) d 95 39 [l0, l1, l2] [] S (mx_y h a i b j x) n) ∧
  (∀ (d : Nat) (x : Int) (l1 l2 : Option mx_V) (S h : mx_H) (n : Int), mx_ex d 95 39 [some (2, x), l1, l2] [] S h n = mx_ex d 95 40 [some (2, x), l1, l2] [(2, x)] S h n) ∧
  (∀ (d : Nat) (a : Int) (l0 l1 l2 : Option mx_V) (S h : mx_H) (n : Int), mx_ex d 95 40 [l0, l1, l2] [(2, a)] S h n = mx_ex d 95 41 [l0, l1, l2] [(2, a), (2, a)] S h n) ∧
  (∀ (d : Nat) (a : Int) (l0 l1 l2 : Option mx_V) (v1 : mx_V) (S h : mx_H) (n : Int), mx_ex d 95 41 [l0, l1, l2] [(2, a), v1] S h n = mx_gd (8 ≤ S a (-2) ∧ S a (-2) ≤ 8) d 95 44 [l0, l1, l2] [(0, h a 4), v1] S h n) ∧
  (∀ (d : Nat) (l0 l1 l2 : Option mx_V) (v0 v1 : mx_V) (S h : mx_H) (n : Int), mx_ex d 95 44 [l0, l1, l2] [v0, v1] S h n = mx_ex d 95 45 [l0, l1, l2] [(0, 1), v0, v1] S h n) ∧
  (∀ (d : Nat) (b a : Int) (l0 l1 l2 : Option mx_V) (v2 : mx_V) (S h : mx_H) (n : Int), mx_ex d 95 45 [l0, l1, l2] [(0, b), (0, a), v2] S h n = mx_ex d 95 46 [l0, l1, l2] [(0, mx_w (a - b)), v2] S h n) ∧
  (∀ (d : Nat) (v a : Int) (l0 l1 l2 : Option mx_V) (S h : mx_H) (n : Int), mx_ex d 95 46 [l0, l1, l2] [(0, v), (2, a)] S h n = mx_gd (8 ≤ S a (-2) ∧ S a (-2) ≤ 8) d 95 49 [l0, l1, l2] [] S (mx_u h a 4 v) n) ∧
  (∀ (d : Nat) (x : Int) (l1 l2 : Option mx_V) (S h : mx_H) (n : Int), mx_ex d 95 49 [some (2, x), l1, l2] [] S h n = mx_ex d 95 50 [some (2, x), l1, l2] [(2, x)] S h n) ∧
  (∀ (d : Nat) (a : Int) (l0 l1 l2 : Option mx_V) (S h : mx_H) (n : Int), mx_ex d 95 50 [l0, l1, l2] [(2, a)] S h n = mx_ex d 95 51 [l0, l1, l2] [(2, a), (2, a)] S h n) ∧
  (∀ (d : Nat) (a : Int) (l0 l1 l2 : Option mx_V) (v1 : mx_V) (S h : mx_H) (n : Int), mx_ex d 95 51 [l0, l1, l2] [(2, a), v1] S h n = mx_gd (8 ≤ S a (-2) ∧ S a (-2) ≤ 8) d 95 54 [l0, l1, l2] [(0, h a 5), v1] S h n) ∧
  (∀ (d : Nat) (l0 l1 l2 : Option mx_V) (v0 v1 : mx_V) (S h : mx_H) (n : Int), mx_ex d 95 54 [l0, l1, l2] [v0, v1] S h n = mx_ex d 95 55 [l0, l1, l2] [(0, 1), v0, v1] S h n) ∧
  (∀ (d : Nat) (b a : Int) (l0 l1 l2 : Option mx_V) (v2 : mx_V) (S h : mx_H) (n : Int), mx_ex d 95 55 [l0, l1, l2] [(0, b), (0, a), v2] S h n = mx_ex d 95 56 [l0, l1, l2] [(0, mx_w (a + b)), v2] S h n) ∧
  (∀ (d : Nat) (v a : Int) (l0 l1 l2 : Option mx_V) (S h : mx_H) (n : Int), mx_ex d 95 56 [l0, l1, l2] [(0, v), (2, a)] S h n = mx_gd (8 ≤ S a (-2) ∧ S a (-2) ≤ 8) d 95 59 [l0, l1, l2] [] S (mx_u h a 5 v) n) ∧
  (∀ (d : Nat) (x : Int) (l1 l2 : Option mx_V) (S h : mx_H) (n : Int), mx_ex d 95 59 [some (2, x), l1, l2] [] S h n = mx_ex d 95 60 [some (2, x), l1, l2] [(2, x)] S h n) ∧
  (∀ (d : Nat) (a : Int) (l0 l1 l2 : Option mx_V) (S h : mx_H) (n : Int), mx_ex d 95 60 [l0, l1, l2] [(2, a)] S h n = mx_gd (8 ≤ S a (-2) ∧ S a (-2) ≤ 8) d 95 63 [l0, l1, l2] [(0, h a 4)] S h n) ∧
  (∀ (d : Nat) (x : Int) (l0 l1 l2 : Option mx_V) (S h : mx_H) (n : Int), mx_ex d 95 63 [l0, l1, l2] [(0, x)] S h n = some (some (0, x), S, h, n)) :=
  ⟨by intros; exact rfl,
   by intros; exact eq_ld rfl rfl,
   by intros; exact eq_gi rfl,
   by intros; exact eq_push rfl,
   by intros; exact eq_i2 (o := mx_sub) rfl,
   by intros; exact eq_ld rfl rfl,
   by intros; exact eq_i2 (o := mx_sub) rfl,
   by intros; exact eq_st rfl (by decide) (Nat.le_of_ble_eq_true rfl) rfl,
   by intros; exact eq_ld rfl rfl,
   by intros; exact eq_if2 rfl,
   by intros; exact eq_ld rfl rfl,
   by intros; exact eq_if2 rfl,
   by intros; exact eq_ld rfl rfl,
   by intros; exact eq_gr rfl,
   by intros; exact eq_ld rfl rfl,
   by intros; exact eq_push rfl,
   by intros; exact eq_i2 (o := mx_add) rfl,
   by intros; exact eq_push rfl,
   by intros; exact eq_i2 (o := mx_mul) rfl,
   by intros; exact eq_ld rfl rfl,
   by intros; exact eq_gr rfl,
   by intros; exact eq_ld rfl rfl,
   by intros; exact eq_push rfl,
   by intros; exact eq_i2 (o := mx_mul) rfl,
   by intros; exact eq_ld rfl rfl,
   by intros; exact eq_push rfl,
   by intros; exact eq_i2 (o := mx_mul) rfl,
   by intros; exact eq_copy rfl (Nat.le_of_ble_eq_true rfl),
   by intros; exact eq_ld rfl rfl,
   by intros; exact eq_dup rfl (by decide),
   by intros; exact eq_gi rfl,
   by intros; exact eq_push rfl,
   by intros; exact eq_i2 (o := mx_sub) rfl,
   by intros; exact eq_pi rfl,
   by intros; exact eq_ld rfl rfl,
   by intros; exact eq_dup rfl (by decide),
   by intros; exact eq_gi rfl,
   by intros; exact eq_push rfl,
   by intros; exact eq_i2 (o := mx_add) rfl,
   by intros; exact eq_pi rfl,
   by intros; exact eq_ld rfl rfl,
   by intros; exact eq_gi rfl,
   by intros; exact eq_ret rfl⟩
theorem rw_X10_lineHolds :
  (∀ (d : Nat) (a0 a1 a2 : Int) (S h : mx_H) (n : Int), mx_M d 96 [(2, a0), (0, a1), (2, a2)] S h n = mx_ex d 96 0 [some (2, a0), some (0, a1), some (2, a2), none, none, none, none, none] [] S h n) ∧
  (∀ (d : Nat) (x : Int) (l0 l2 l3 l4 l5 l6 l7 : Option mx_V) (S h : mx_H) (n : Int), mx_ex d 96 0 [l0, some (0, x), l2, l3, l4, l5, l6, l7] [] S h n = mx_ex d 96 1 [l0, some (0, x), l2, l3, l4, l5, l6, l7] [(0, x)] S h n) ∧
  (∀ (d : Nat) (l0 l1 l2 l3 l4 l5 l6 l7 : Option mx_V) (v0 : mx_V) (S h : mx_H) (n : Int), mx_ex d 96 1 [l0, l1, l2, l3, l4, l5, l6, l7] [v0] S h n = mx_ex d 96 2 [l0, l1, l2, l3, l4, l5, l6, l7] [(0, 4), v0] S h n) ∧
  (∀ (d : Nat) (b a : Int) (l0 l1 l2 l3 l4 l5 l6 l7 : Option mx_V) (S h : mx_H) (n : Int), mx_ex d 96 2 [l0, l1, l2, l3, l4, l5, l6, l7] [(0, b), (0, a)] S h n = mx_ex d 96 3 [l0, l1, l2, l3, l4, l5, l6, l7] [(0, mx_w (a * b))] S h n) ∧
  (∀ (d : Nat) (x : Int) (l0 l1 l2 l3 l4 l5 l6 l7 : Option mx_V) (S h : mx_H) (n : Int), mx_ex d 96 3 [l0, l1, l2, l3, l4, l5, l6, l7] [(0, x)] S h n = mx_ex d 96 4 [l0, l1, mx_nl l2, some (0, x), l4, l5, l6, l7] [] S h n) ∧
  (∀ (d : Nat) (x : Int) (l1 l2 l3 l4 l5 l6 l7 : Option mx_V) (S h : mx_H) (n : Int), mx_ex d 96 4 [some (2, x), l1, l2, l3, l4, l5, l6, l7] [] S h n = mx_ex d 96 5 [some (2, x), l1, l2, l3, l4, l5, l6, l7] [(2, x)] S h n) ∧
  (∀ (d : Nat) (a : Int) (l0 l1 l2 l3 l4 l5 l6 l7 : Option mx_V) (S h : mx_H) (n : Int), mx_ex d 96 5 [l0, l1, l2, l3, l4, l5, l6, l7] [(2, a)] S h n = mx_gd (8 ≤ S a (-2) ∧ S a (-2) ≤ 8) d 96 8 [l0, l1, l2, l3, l4, l5, l6, l7] [(2, S a 2)] S h n) ∧
  (∀ (d : Nat) (x : Int) (l0 l1 l2 l4 l5 l6 l7 : Option mx_V) (v0 : mx_V) (S h : mx_H) (n : Int), mx_ex d 96 8 [l0, l1, l2, some (0, x), l4, l5, l6, l7] [v0] S h n = mx_ex d 96 9 [l0, l1, l2, some (0, x), l4, l5, l6, l7] [(0, x), v0] S h n) ∧
  (∀ (d : Nat) (i a : Int) (l0 l1 l2 l3 l4 l5 l6 l7 : Option mx_V) (S h : mx_H) (n : Int), mx_ex d 96 9 [l0, l1, l2, l3, l4, l5, l6, l7] [(0, i), (2, a)] S h n = mx_gd ((S a (-2) = 20 ∨ S a (-2) = 24) ∧ 0 ≤ i ∧ i < S a (-1)) d 96 10 [l0, l1, l2, l3, l4, l5, l6, l7] [(0, h a i)] S h n) ∧
  (∀ (d : Nat) (x : Int) (l0 l1 l2 l3 l4 l5 l6 l7 : Option mx_V) (S h : mx_H) (n : Int), mx_ex d 96 10 [l0, l1, l2, l3, l4, l5, l6, l7] [(0, x)] S h n = mx_ex d 96 12 [l0, l1, l2, mx_nl l3, some (0, x), l5, l6, l7] [] S h n) ∧
  (∀ (d : Nat) (x : Int) (l1 l2 l3 l4 l5 l6 l7 : Option mx_V) (S h : mx_H) (n : Int), mx_ex d 96 12 [some (2, x), l1, l2, l3, l4, l5, l6, l7] [] S h n = mx_ex d 96 13 [some (2, x), l1, l2, l3, l4, l5, l6, l7] [(2, x)] S h n) ∧
  (∀ (d : Nat) (x : Int) (l1 l2 l3 l4 l5 l6 l7 : Option mx_V) (v0 : mx_V) (S h : mx_H) (n : Int), mx_ex d 96 13 [some (2, x), l1, l2, l3, l4, l5, l6, l7] [v0] S h n = mx_ex d 96 14 [some (2, x), l1, l2, l3, l4, l5, l6, l7] [(2, x), v0] S h n) ∧
  (∀ (d : Nat) (a : Int) (l0 l1 l2 l3 l4 l5 l6 l7 : Option mx_V) (v1 : mx_V) (S h : mx_H) (n : Int), mx_ex d 96 14 [l0, l1, l2, l3, l4, l5, l6, l7] [(2, a), v1] S h n = mx_gd (8 ≤ S a (-2) ∧ S a (-2) ≤ 8) d 96 17 [l0, l1, l2, l3, l4, l5, l6, l7] [(2, S a 2), v1] S h n) ∧
  (∀ (d : Nat) (x : Int) (l0 l1 l2 l4 l5 l6 l7 : Option mx_V) (v0 v1 : mx_V) (S h : mx_H) (n : Int), mx_ex d 96 17 [l0, l1, l2, some (0, x), l4, l5, l6, l7] [v0, v1] S h n = mx_ex d 96 18 [l0, l1, l2, some (0, x), l4, l5, l6, l7] [(0, x), v0, v1] S h n) ∧
  (∀ (d : Nat) (l0 l1 l2 l3 l4 l5 l6 l7 : Option mx_V) (v0 v1 v2 : mx_V) (S h : mx_H) (n : Int), mx_ex d 96 18 [l0, l1, l2, l3, l4, l5, l6, l7] [v0, v1, v2] S h n = mx_ex d 96 19 [l0, l1, l2, l3, l4, l5, l6, l7] [(0, 1), v0, v1, v2] S h n) ∧
  (∀ (d : Nat) (b a : Int) (l0 l1 l2 l3 l4 l5 l6 l7 : Option mx_V) (v2 v3 : mx_V) (S h : mx_H) (n : Int), mx_ex d 96 19 [l0, l1, l2, l3, l4, l5, l6, l7] [(0, b), (0, a), v2, v3] S h n = mx_ex d 96 20 [l0, l1, l2, l3, l4, l5, l6, l7] [(0, mx_w (a + b)), v2, v3] S h n) ∧
  (∀ (d : Nat) (i a : Int) (l0 l1 l2 l3 l4 l5 l6 l7 : Option mx_V) (v2 : mx_V) (S h : mx_H) (n : Int), mx_ex d 96 20 [l0, l1, l2, l3, l4, l5, l6, l7] [(0, i), (2, a), v2] S h n = mx_gd ((S a (-2) = 20 ∨ S a (-2) = 24) ∧ 0 ≤ i ∧ i < S a (-1)) d 96 21 [l0, l1, l2, l3, l4, l5, l6, l7] [(0, h a i), v2] S h n) ∧
  (∀ (d : Nat) (x : Int) (l0 l1 l3 l4 l5 l6 l7 : Option mx_V) (v0 v1 : mx_V) (S h : mx_H) (n : Int), mx_ex d 96 21 [l0, l1, some (2, x), l3, l4, l5, l6, l7] [v0, v1] S h n = mx_ex d 96 22 [l0, l1, some (2, x), l3, l4, l5, l6, l7] [(2, x), v0, v1] S h n) ∧
  (∀ (d : Nat) (x0 x1 a : Int) (l0 l1 l2 l3 l4 l5 l6 l7 : Option mx_V) (S h : mx_H) (n : Int), mx_ex (d + 1) 96 22 [l0, l1, l2, l3, l4, l5, l6, l7] [(2, x0), (0, x1), (2, a)] S h n = mx_cl (S a (-2) = 8) d 97 [(2, a), (0, x1), (2, x0)] 96 25 [l0, l1, l2, l3, l4, l5, l6, l7] [] S h n) ∧
  (∀ (d : Nat) (x : Int) (l0 l1 l2 l3 l4 l5 l6 l7 : Option mx_V) (S h : mx_H) (n : Int), mx_ex d 96 25 [l0, l1, l2, l3, l4, l5, l6, l7] [(0, x)] S h n = mx_ex d 96 27 [l0, l1, l2, l3, mx_nl l4, some (0, x), l6, l7] [] S h n) ∧
  (∀ (d : Nat) (x : Int) (l0 l1 l2 l3 l5 l6 l7 : Option mx_V) (S h : mx_H) (n : Int), mx_ex d 96 27 [l0, l1, l2, l3, some (0, x), l5, l6, l7] [] S h n = mx_ex d 96 29 [l0, l1, l2, l3, some (0, x), l5, l6, l7] [(0, x)] S h n) ∧
  (∀ (d : Nat) (l0 l1 l2 l3 l4 l5 l6 l7 : Option mx_V) (v0 : mx_V) (S h : mx_H) (n : Int), mx_ex d 96 29 [l0, l1, l2, l3, l4, l5, l6, l7] [v0] S h n = mx_ex d 96 30 [l0, l1, l2, l3, l4, l5, l6, l7] [(0, 3), v0] S h n) ∧
  (∀ (d : Nat) (b a : Int) (l0 l1 l2 l3 l4 l5 l6 l7 : Option mx_V) (S h : mx_H) (n : Int), mx_ex d 96 30 [l0, l1, l2, l3, l4, l5, l6, l7] [(0, b), (0, a)] S h n = mx_br (a = b) d 96 33 37 [l0, l1, l2, l3, l4, l5, l6, l7] [] S h n) ∧
  (∀ (d : Nat) (l0 l1 l2 l3 l4 l5 l6 l7 : Option mx_V) (S h : mx_H) (n : Int), mx_ex d 96 33 [l0, l1, l2, l3, l4, l5, l6, l7] [] S h n = mx_ex d 96 34 [l0, l1, l2, l3, l4, l5, l6, l7] [(0, 0)] S h n) ∧
  (∀ (d : Nat) (l0 l1 l2 l3 l4 l5 l6 l7 : Option mx_V) (v0 : mx_V) (S h : mx_H) (n : Int), mx_ex d 96 34 [l0, l1, l2, l3, l4, l5, l6, l7] [v0] S h n = mx_ex d 96 50 [l0, l1, l2, l3, l4, l5, l6, l7] [v0] S h n) ∧
  (∀ (d : Nat) (x : Int) (l1 l2 l3 l4 l5 l6 l7 : Option mx_V) (S h : mx_H) (n : Int), mx_ex d 96 37 [some (2, x), l1, l2, l3, l4, l5, l6, l7] [] S h n = mx_ex d 96 38 [some (2, x), l1, l2, l3, l4, l5, l6, l7] [(2, x)] S h n) ∧
  (∀ (d : Nat) (x : Int) (l1 l2 l3 l4 l5 l6 l7 : Option mx_V) (v0 : mx_V) (S h : mx_H) (n : Int), mx_ex d 96 38 [some (2, x), l1, l2, l3, l4, l5, l6, l7] [v0] S h n = mx_ex d 96 39 [some (2, x), l1, l2, l3, l4, l5, l6, l7] [(2, x), v0] S h n) ∧
  (∀ (d : Nat) (a : Int) (l0 l1 l2 l3 l4 l5 l6 l7 : Option mx_V) (v1 : mx_V) (S h : mx_H) (n : Int), mx_ex d 96 39 [l0, l1, l2, l3, l4, l5, l6, l7] [(2, a), v1] S h n = mx_gd (8 ≤ S a (-2) ∧ S a (-2) ≤ 8) d 96 42 [l0, l1, l2, l3, l4, l5, l6, l7] [(2, S a 2), v1] S h n) ∧
  (∀ (d : Nat) (x : Int) (l0 l1 l2 l4 l5 l6 l7 : Option mx_V) (v0 v1 : mx_V) (S h : mx_H) (n : Int), mx_ex d 96 42 [l0, l1, l2, some (0, x), l4, l5, l6, l7] [v0, v1] S h n = mx_ex d 96 43 [l0, l1, l2, some (0, x), l4, l5, l6, l7] [(0, x), v0, v1] S h n) ∧
  (∀ (d : Nat) (l0 l1 l2 l3 l4 l5 l6 l7 : Option mx_V) (v0 v1 v2 : mx_V) (S h : mx_H) (n : Int), mx_ex d 96 43 [l0, l1, l2, l3, l4, l5, l6, l7] [v0, v1, v2] S h n = mx_ex d 96 44 [l0, l1, l2, l3, l4, l5, l6, l7] [(0, 2), v0, v1, v2] S h n) ∧
  (∀ (d : Nat) (b a : Int) (l0 l1 l2 l3 l4 l5 l6 l7 : Option mx_V) (v2 v3 : mx_V) (S h : mx_H) (n : Int), mx_ex d 96 44 [l0, l1, l2, l3, l4, l5, l6, l7] [(0, b), (0, a), v2, v3] S h n = mx_ex d 96 45 [l0, l1, l2, l3, l4, l5, l6, l7] [(0, mx_w (a + b)), v2, v3] S h n) ∧
  (∀ (d : Nat) (i a : Int) (l0 l1 l2 l3 l4 l5 l6 l7 : Option mx_V) (v2 : mx_V) (S h : mx_H) (n : Int), mx_ex d 96 45 [l0, l1, l2, l3, l4, l5, l6, l7] [(0, i), (2, a), v2] S h n = mx_gd ((S a (-2) = 20 ∨ S a (-2) = 24) ∧ 0 ≤ i ∧ i < S a (-1)) d 96 46 [l0, l1, l2, l3, l4, l5, l6, l7] [(0, h a i), v2] S h n) ∧
  (∀ (d : Nat) (x : Int) (l0 l1 l3 l4 l5 l6 l7 : Option mx_V) (v0 v1 : mx_V) (S h : mx_H) (n : Int), mx_ex d 96 46 [l0, l1, some (2, x), l3, l4, l5, l6, l7] [v0, v1] S h n = mx_ex d 96 47 [l0, l1, some (2, x), l3, l4, l5, l6, l7] [(2, x), v0, v1] S h n) ∧
  (∀ (d : Nat) (x0 x1 a : Int) (l0 l1 l2 l3 l4 l5 l6 l7 : Option mx_V) (S h : mx_H) (n : Int), mx_ex (d + 1) 96 47 [l0, l1, l2, l3, l4, l5, l6, l7] [(2, x0), (0, x1), (2, a)] S h n = mx_cl (S a (-2) = 8) d 97 [(2, a), (0, x1), (2, x0)] 96 50 [l0, l1, l2, l3, l4, l5, l6, l7] [] S h n) ∧
  (∀ (d : Nat) (x : Int) (l0 l1 l2 l3 l4 l5 l6 l7 : Option mx_V) (S h : mx_H) (n : Int), mx_ex d 96 50 [l0, l1, l2, l3, l4, l5, l6, l7] [(0, x)] S h n = mx_ex d 96 52 [l0, l1, l2, l3, l4, mx_nl l5, some (0, x), l7] [] S h n) ∧
  (∀ (d : Nat) (x : Int) (l0 l1 l2 l3 l5 l6 l7 : Option mx_V) (S h : mx_H) (n : Int), mx_ex d 96 52 [l0, l1, l2, l3, some (0, x), l5, l6, l7] [] S h n = mx_ex d 96 54 [l0, l1, l2, l3, some (0, x), l5, l6, l7] [(0, x)] S h n) ∧
  (∀ (d : Nat) (l0 l1 l2 l3 l4 l5 l6 l7 : Option mx_V) (v0 : mx_V) (S h : mx_H) (n : Int), mx_ex d 96 54 [l0, l1, l2, l3, l4, l5, l6, l7] [v0] S h n = mx_ex d 96 55 [l0, l1, l2, l3, l4, l5, l6, l7] [(0, 2), v0] S h n) ∧
  (∀ (d : Nat) (b a : Int) (l0 l1 l2 l3 l4 l5 l6 l7 : Option mx_V) (S h : mx_H) (n : Int), mx_ex d 96 55 [l0, l1, l2, l3, l4, l5, l6, l7] [(0, b), (0, a)] S h n = mx_br (a = b) d 96 58 74 [l0, l1, l2, l3, l4, l5, l6, l7] [] S h n) ∧
  (∀ (d : Nat) (x : Int) (l1 l2 l3 l4 l5 l6 l7 : Option mx_V) (S h : mx_H) (n : Int), mx_ex d 96 58 [some (2, x), l1, l2, l3, l4, l5, l6, l7] [] S h n = mx_ex d 96 59 [some (2, x), l1, l2, l3, l4, l5, l6, l7] [(2, x)] S h n) ∧
  (∀ (d : Nat) (x : Int) (l1 l2 l3 l4 l5 l6 l7 : Option mx_V) (v0 : mx_V) (S h : mx_H) (n : Int), mx_ex d 96 59 [some (2, x), l1, l2, l3, l4, l5, l6, l7] [v0] S h n = mx_ex d 96 60 [some (2, x), l1, l2, l3, l4, l5, l6, l7] [(2, x), v0] S h n) ∧
  (∀ (d : Nat) (a : Int) (l0 l1 l2 l3 l4 l5 l6 l7 : Option mx_V) (v1 : mx_V) (S h : mx_H) (n : Int), mx_ex d 96 60 [l0, l1, l2, l3, l4, l5, l6, l7] [(2, a), v1] S h n = mx_gd (8 ≤ S a (-2) ∧ S a (-2) ≤ 8) d 96 63 [l0, l1, l2, l3, l4, l5, l6, l7] [(2, S a 2), v1] S h n) ∧
  (∀ (d : Nat) (x : Int) (l0 l1 l2 l4 l5 l6 l7 : Option mx_V) (v0 v1 : mx_V) (S h : mx_H) (n : Int), mx_ex d 96 63 [l0, l1, l2, some (0, x), l4, l5, l6, l7] [v0, v1] S h n = mx_ex d 96 64 [l0, l1, l2, some (0, x), l4, l5, l6, l7] [(0, x), v0, v1] S h n) ∧
  (∀ (d : Nat) (l0 l1 l2 l3 l4 l5 l6 l7 : Option mx_V) (v0 v1 v2 : mx_V) (S h : mx_H) (n : Int), mx_ex d 96 64 [l0, l1, l2, l3, l4, l5, l6, l7] [v0, v1, v2] S h n = mx_ex d 96 65 [l0, l1, l2, l3, l4, l5, l6, l7] [(0, 3), v0, v1, v2] S h n) ∧
  (∀ (d : Nat) (b a : Int) (l0 l1 l2 l3 l4 l5 l6 l7 : Option mx_V) (v2 v3 : mx_V) (S h : mx_H) (n : Int), mx_ex d 96 65 [l0, l1, l2, l3, l4, l5, l6, l7] [(0, b), (0, a), v2, v3] S h n = mx_ex d 96 66 [l0, l1, l2, l3, l4, l5, l6, l7] [(0, mx_w (a + b)), v2, v3] S h n) ∧
  (∀ (d : Nat) (i a : Int) (l0 l1 l2 l3 l4 l5 l6 l7 : Option mx_V) (v2 : mx_V) (S h : mx_H) (n : Int), mx_ex d 96 66 [l0, l1, l2, l3, l4, l5, l6, l7] [(0, i), (2, a), v2] S h n = mx_gd ((S a (-2) = 20 ∨ S a (-2) = 24) ∧ 0 ≤ i ∧ i < S a (-1)) d 96 67 [l0, l1, l2, l3, l4, l5, l6, l7] [(0, h a i), v2] S h n) ∧
  (∀ (d : Nat) (x : Int) (l0 l1 l3 l4 l5 l6 l7 : Option mx_V) (v0 v1 : mx_V) (S h : mx_H) (n : Int), mx_ex d 96 67 [l0, l1, some (2, x), l3, l4, l5, l6, l7] [v0, v1] S h n = mx_ex d 96 68 [l0, l1, some (2, x), l3, l4, l5, l6, l7] [(2, x), v0, v1] S h n) ∧
  (∀ (d : Nat) (x0 x1 a : Int) (l0 l1 l2 l3 l4 l5 l6 l7 : Option mx_V) (S h : mx_H) (n : Int), mx_ex (d + 1) 96 68 [l0, l1, l2, l3, l4, l5, l6, l7] [(2, x0), (0, x1), (2, a)] S h n = mx_cl (S a (-2) = 8) d 97 [(2, a), (0, x1), (2, x0)] 96 71 [l0, l1, l2, l3, l4, l5, l6, l7] [] S h n) ∧
  (∀ (d : Nat) (l0 l1 l2 l3 l4 l5 l6 l7 : Option mx_V) (v0 : mx_V) (S h : mx_H) (n : Int), mx_ex d 96 71 [l0, l1, l2, l3, l4, l5, l6, l7] [v0] S h n = mx_ex d 96 82 [l0, l1, l2, l3, l4, l5, l6, l7] [v0] S h n) ∧
  (∀ (d : Nat) (x : Int) (l1 l2 l3 l4 l5 l6 l7 : Option mx_V) (S h : mx_H) (n : Int), mx_ex d 96 74 [some (2, x), l1, l2, l3, l4, l5, l6, l7] [] S h n = mx_ex d 96 75 [some (2, x), l1, l2, l3, l4, l5, l6, l7] [(2, x)] S h n) ∧
  (∀ (d : Nat) (a : Int) (l0 l1 l2 l3 l4 l5 l6 l7 : Option mx_V) (S h : mx_H) (n : Int), mx_ex d 96 75 [l0, l1, l2, l3, l4, l5, l6, l7] [(2, a)] S h n = mx_gd (8 ≤ S a (-2) ∧ S a (-2) ≤ 8) d 96 78 [l0, l1, l2, l3, l4, l5, l6, l7] [(2, S a 2)] S h n) ∧
  (∀ (d : Nat) (x : Int) (l0 l1 l2 l4 l5 l6 l7 : Option mx_V) (v0 : mx_V) (S h : mx_H) (n : Int), mx_ex d 96 78 [l0, l1, l2, some (0, x), l4, l5, l6, l7] [v0] S h n = mx_ex d 96 79 [l0, l1, l2, some (0, x), l4, l5, l6, l7] [(0, x), v0] S h n) ∧
  (∀ (d : Nat) (l0 l1 l2 l3 l4 l5 l6 l7 : Option mx_V) (v0 v1 : mx_V) (S h : mx_H) (n : Int), mx_ex d 96 79 [l0, l1, l2, l3, l4, l5, l6, l7] [v0, v1] S h n = mx_ex d 96 80 [l0, l1, l2, l3, l4, l5, l6, l7] [(0, 3), v0, v1] S h n) ∧
  (∀ (d : Nat) (b a : Int) (l0 l1 l2 l3 l4 l5 l6 l7 : Option mx_V) (v2 : mx_V) (S h : mx_H) (n : Int), mx_ex d 96 80 [l0, l1, l2, l3, l4, l5, l6, l7] [(0, b), (0, a), v2] S h n = mx_ex d 96 81 [l0, l1, l2, l3, l4, l5, l6, l7] [(0, mx_w (a + b)), v2] S h n) ∧
  (∀ (d : Nat) (i a : Int) (l0 l1 l2 l3 l4 l5 l6 l7 : Option mx_V) (S h : mx_H) (n : Int), mx_ex d 96 81 [l0, l1, l2, l3, l4, l5, l6, l7] [(0, i), (2, a)] S h n = mx_gd ((S a (-2) = 20 ∨ S a (-2) = 24) ∧ 0 ≤ i ∧ i < S a (-1)) d 96 82 [l0, l1, l2, l3, l4, l5, l6, l7] [(0, h a i)] S h n) ∧
  (∀ (d : Nat) (x : Int) (l0 l1 l2 l3 l4 l5 l6 l7 : Option mx_V) (S h : mx_H) (n : Int), mx_ex d 96 82 [l0, l1, l2, l3, l4, l5, l6, l7] [(0, x)] S h n = mx_ex d 96 84 [l0, l1, l2, l3, l4, l5, mx_nl l6, some (0, x)] [] S h n) ∧
  (∀ (d : Nat) (x : Int) (l0 l1 l2 l3 l5 l6 l7 : Option mx_V) (S h : mx_H) (n : Int), mx_ex d 96 84 [l0, l1, l2, l3, some (0, x), l5, l6, l7] [] S h n = mx_ex d 96 86 [l0, l1, l2, l3, some (0, x), l5, l6, l7] [(0, x)] S h n) ∧
  (∀ (d : Nat) (x : Int) (l0 l1 l2 l3 l4 l6 l7 : Option mx_V) (v0 : mx_V) (S h : mx_H) (n : Int), mx_ex d 96 86 [l0, l1, l2, l3, l4, some (0, x), l6, l7] [v0] S h n = mx_ex d 96 88 [l0, l1, l2, l3, l4, some (0, x), l6, l7] [(0, x), v0] S h n) ∧
  (∀ (d : Nat) (x : Int) (l0 l1 l2 l3 l4 l5 l7 : Option mx_V) (v0 v1 : mx_V) (S h : mx_H) (n : Int), mx_ex d 96 88 [l0, l1, l2, l3, l4, l5, some (0, x), l7] [v0, v1] S h n = mx_ex d 96 90 [l0, l1, l2, l3, l4, l5, some (0, x), l7] [(0, x), v0, v1] S h n) ∧
  (∀ (d : Nat) (x : Int) (l0 l1 l2 l3 l4 l5 l6 : Option mx_V) (v0 v1 v2 : mx_V) (S h : mx_H) (n : Int), mx_ex d 96 90 [l0, l1, l2, l3, l4, l5, l6, some (0, x)] [v0, v1, v2] S h n = mx_ex d 96 92 [l0, l1, l2, l3, l4, l5, l6, some (0, x)] [(0, x), v0, v1, v2] S h n) ∧
  (∀ (d : Nat) (x0 x1 x2 x3 : Int) (l0 l1 l2 l3 l4 l5 l6 l7 : Option mx_V) (S h : mx_H) (n : Int), mx_ex (d + 1) 96 92 [l0, l1, l2, l3, l4, l5, l6, l7] [(0, x0), (0, x1), (0, x2), (0, x3)] S h n = mx_rt (mx_M d 155 [(0, x3), (0, x2), (0, x1), (0, x0)] S h n) (d + 1) 96 95 [l0, l1, l2, l3, l4, l5, l6, l7] []) ∧
  (∀ (d : Nat) (x : Int) (l0 l1 l2 l3 l4 l5 l6 l7 : Option mx_V) (S h : mx_H) (n : Int), mx_ex d 96 95 [l0, l1, l2, l3, l4, l5, l6, l7] [(0, x)] S h n = mx_re (0 ≤ x ∧ x ≤ 1) (some (0, x)) S h n) :=
  ⟨by intros; exact rfl,
   by intros; exact eq_ld rfl rfl,
   by intros; exact eq_push rfl,
   by intros; exact eq_i2 (o := mx_mul) rfl,
   by intros; exact eq_st rfl (by decide) (Nat.le_of_ble_eq_true rfl) rfl,
   by intros; exact eq_ld rfl rfl,
   by intros; exact eq_gr rfl,
   by intros; exact eq_ld rfl rfl,
   by intros; exact eq_iald rfl,
   by intros; exact eq_st rfl (by decide) (Nat.le_of_ble_eq_true rfl) rfl,
   by intros; exact eq_ld rfl rfl,
   by intros; exact eq_ld rfl rfl,
   by intros; exact eq_gr rfl,
   by intros; exact eq_ld rfl rfl,
   by intros; exact eq_push rfl,
   by intros; exact eq_i2 (o := mx_add) rfl,
   by intros; exact eq_iald rfl,
   by intros; exact eq_ld rfl rfl,
   by intros; exact eq_cv rfl (Nat.le_of_ble_eq_true rfl) rfl rfl rfl (Nat.le_of_ble_eq_true rfl),
   by intros; exact eq_st rfl (by decide) (Nat.le_of_ble_eq_true rfl) rfl,
   by intros; exact eq_ld rfl rfl,
   by intros; exact eq_push rfl,
   by intros; exact eq_ic1 rfl,
   by intros; exact eq_push rfl,
   by intros; exact eq_go rfl,
   by intros; exact eq_ld rfl rfl,
   by intros; exact eq_ld rfl rfl,
   by intros; exact eq_gr rfl,
   by intros; exact eq_ld rfl rfl,
   by intros; exact eq_push rfl,
   by intros; exact eq_i2 (o := mx_add) rfl,
   by intros; exact eq_iald rfl,
   by intros; exact eq_ld rfl rfl,
   by intros; exact eq_cv rfl (Nat.le_of_ble_eq_true rfl) rfl rfl rfl (Nat.le_of_ble_eq_true rfl),
   by intros; exact eq_st rfl (by decide) (Nat.le_of_ble_eq_true rfl) rfl,
   by intros; exact eq_ld rfl rfl,
   by intros; exact eq_push rfl,
   by intros; exact eq_ic1 rfl,
   by intros; exact eq_ld rfl rfl,
   by intros; exact eq_ld rfl rfl,
   by intros; exact eq_gr rfl,
   by intros; exact eq_ld rfl rfl,
   by intros; exact eq_push rfl,
   by intros; exact eq_i2 (o := mx_add) rfl,
   by intros; exact eq_iald rfl,
   by intros; exact eq_ld rfl rfl,
   by intros; exact eq_cv rfl (Nat.le_of_ble_eq_true rfl) rfl rfl rfl (Nat.le_of_ble_eq_true rfl),
   by intros; exact eq_go rfl,
   by intros; exact eq_ld rfl rfl,
   by intros; exact eq_gr rfl,
   by intros; exact eq_ld rfl rfl,
   by intros; exact eq_push rfl,
   by intros; exact eq_i2 (o := mx_add) rfl,
   by intros; exact eq_iald rfl,
   by intros; exact eq_st rfl (by decide) (Nat.le_of_ble_eq_true rfl) rfl,
   by intros; exact eq_ld rfl rfl,
   by intros; exact eq_ld rfl rfl,
   by intros; exact eq_ld rfl rfl,
   by intros; exact eq_ld rfl rfl,
   by intros; exact eq_cs rfl (Nat.le_of_ble_eq_true rfl) rfl rfl rfl (Nat.le_of_ble_eq_true rfl),
   by intros; exact eq_rr rfl⟩
theorem rw_X10_worthOf :
  (∀ (d : Nat) (a0 a1 a2 : Int) (S h : mx_H) (n : Int), mx_M d 97 [(2, a0), (0, a1), (2, a2)] S h n = mx_ex d 97 0 [some (2, a0), some (0, a1), some (2, a2), none] [] S h n) ∧
  (∀ (d : Nat) (x : Int) (l1 l2 l3 : Option mx_V) (S h : mx_H) (n : Int), mx_ex d 97 0 [some (2, x), l1, l2, l3] [] S h n = mx_ex d 97 1 [some (2, x), l1, l2, l3] [(2, x)] S h n) ∧
  (∀ (d : Nat) (x : Int) (l0 l2 l3 : Option mx_V) (v0 : mx_V) (S h : mx_H) (n : Int), mx_ex d 97 1 [l0, some (0, x), l2, l3] [v0] S h n = mx_ex d 97 2 [l0, some (0, x), l2, l3] [(0, x), v0] S h n) ∧
  (∀ (d : Nat) (x0 a : Int) (l0 l1 l2 l3 : Option mx_V) (S h : mx_H) (n : Int), mx_ex (d + 1) 97 2 [l0, l1, l2, l3] [(0, x0), (2, a)] S h n = mx_cl (S a (-2) = 8) d 91 [(2, a), (0, x0)] 97 5 [l0, l1, l2, l3] [] S h n) ∧
  (∀ (d : Nat) (x : Int) (l0 l1 l2 l3 : Option mx_V) (S h : mx_H) (n : Int), mx_ex d 97 5 [l0, l1, l2, l3] [(2, x)] S h n = mx_ex d 97 6 [l0, l1, mx_nl l2, some (2, x)] [] S h n) ∧
  (∀ (d : Nat) (x : Int) (l0 l1 l2 : Option mx_V) (S h : mx_H) (n : Int), mx_ex d 97 6 [l0, l1, l2, some (2, x)] [] S h n = mx_ex d 97 7 [l0, l1, l2, some (2, x)] [(2, x)] S h n) ∧
  (∀ (d : Nat) (a : Int) (l0 l1 l2 l3 : Option mx_V) (S h : mx_H) (n : Int), mx_ex d 97 7 [l0, l1, l2, l3] [(2, a)] S h n = mx_br (a = -1) d 97 10 14 [l0, l1, l2, l3] [] S h n) ∧
  (∀ (d : Nat) (l0 l1 l2 l3 : Option mx_V) (S h : mx_H) (n : Int), mx_ex d 97 10 [l0, l1, l2, l3] [] S h n = mx_ex d 97 11 [l0, l1, l2, l3] [(0, 0)] S h n) ∧
  (∀ (d : Nat) (l0 l1 l2 l3 : Option mx_V) (v0 : mx_V) (S h : mx_H) (n : Int), mx_ex d 97 11 [l0, l1, l2, l3] [v0] S h n = mx_ex d 97 24 [l0, l1, l2, l3] [v0] S h n) ∧
  (∀ (d : Nat) (x : Int) (l0 l1 l2 : Option mx_V) (S h : mx_H) (n : Int), mx_ex d 97 14 [l0, l1, l2, some (2, x)] [] S h n = mx_ex d 97 15 [l0, l1, l2, some (2, x)] [(2, x)] S h n) ∧
  (∀ (d : Nat) (x : Int) (l0 l1 l3 : Option mx_V) (v0 : mx_V) (S h : mx_H) (n : Int), mx_ex d 97 15 [l0, l1, some (2, x), l3] [v0] S h n = mx_ex d 97 16 [l0, l1, some (2, x), l3] [(2, x), v0] S h n) ∧
  (∀ (d : Nat) (x : Int) (l0 l1 l2 : Option mx_V) (v0 v1 : mx_V) (S h : mx_H) (n : Int), mx_ex d 97 16 [l0, l1, l2, some (2, x)] [v0, v1] S h n = mx_ex d 97 17 [l0, l1, l2, some (2, x)] [(2, x), v0, v1] S h n) ∧
  (∀ (d : Nat) (a : Int) (l0 l1 l2 l3 : Option mx_V) (v1 v2 : mx_V) (S h : mx_H) (n : Int), mx_ex d 97 17 [l0, l1, l2, l3] [(2, a), v1, v2] S h n = mx_gd (1 ≤ S a (-2) ∧ S a (-2) ≤ 6) d 97 20 [l0, l1, l2, l3] [(0, h a 3), v1, v2] S h n) ∧
  (∀ (d : Nat) (i a : Int) (l0 l1 l2 l3 : Option mx_V) (v2 : mx_V) (S h : mx_H) (n : Int), mx_ex d 97 20 [l0, l1, l2, l3] [(0, i), (2, a), v2] S h n = mx_gd ((S a (-2) = 20 ∨ S a (-2) = 24) ∧ 0 ≤ i ∧ i < S a (-1)) d 97 21 [l0, l1, l2, l3] [(0, h a i), v2] S h n) ∧
  (∀ (d : Nat) (x0 a : Int) (l0 l1 l2 l3 : Option mx_V) (S h : mx_H) (n : Int), mx_ex (d + 1) 97 21 [l0, l1, l2, l3] [(0, x0), (2, a)] S h n = mx_cu (mx_vt (S a (-2)) [(1, 43), (2, 56), (3, 3), (4, 3), (5, 82), (6, 9)]) d [(2, a), (0, x0)] 97 24 [l0, l1, l2, l3] [] S h n) ∧
  (∀ (d : Nat) (x : Int) (l0 l1 l2 l3 : Option mx_V) (S h : mx_H) (n : Int), mx_ex d 97 24 [l0, l1, l2, l3] [(0, x)] S h n = some (some (0, x), S, h, n)) :=
  ⟨by intros; exact rfl,
   by intros; exact eq_ld rfl rfl,
   by intros; exact eq_ld rfl rfl,
   by intros; exact eq_cv rfl (Nat.le_of_ble_eq_true rfl) rfl rfl rfl (Nat.le_of_ble_eq_true rfl),
   by intros; exact eq_st rfl (by decide) (Nat.le_of_ble_eq_true rfl) rfl,
   by intros; exact eq_ld rfl rfl,
   by intros; exact eq_nul rfl,
   by intros; exact eq_push rfl,
   by intros; exact eq_go rfl,
   by intros; exact eq_ld rfl rfl,
   by intros; exact eq_ld rfl rfl,
   by intros; exact eq_ld rfl rfl,
   by intros; exact eq_gi rfl,
   by intros; exact eq_iald rfl,
   by intros; exact eq_cu rfl (Nat.le_of_ble_eq_true rfl) rfl rfl rfl (Nat.le_of_ble_eq_true rfl),
   by intros; exact eq_ret rfl⟩
theorem rh_X10_linesWith_4 : ∀ (d : Nat) (x : Int) (l0 l1 l2 l4 l5 l6 : Option mx_V) (S h : mx_H) (n : Int), mx_ex d 98 4 [l0, l1, l2, some (0, x), l4, l5, l6] [] S h n = mx_ex d 98 5 [l0, l1, l2, some (0, x), l4, l5, l6] [(0, x)] S h n := by intros; exact eq_ld rfl rfl
theorem rw_X10_linesWith :
  (∀ (d : Nat) (a0 a1 : Int) (S h : mx_H) (n : Int), mx_M d 98 [(2, a0), (0, a1)] S h n = mx_ex d 98 0 [some (2, a0), some (0, a1), none, none, none, none, none] [] S h n) ∧
  (∀ (d : Nat) (l0 l1 l2 l3 l4 l5 l6 : Option mx_V) (S h : mx_H) (n : Int), mx_ex d 98 0 [l0, l1, l2, l3, l4, l5, l6] [] S h n = mx_ex d 98 1 [l0, l1, l2, l3, l4, l5, l6] [(0, 0)] S h n) ∧
  (∀ (d : Nat) (x : Int) (l0 l1 l2 l3 l4 l5 l6 : Option mx_V) (S h : mx_H) (n : Int), mx_ex d 98 1 [l0, l1, l2, l3, l4, l5, l6] [(0, x)] S h n = mx_ex d 98 2 [l0, mx_nl l1, some (0, x), l3, l4, l5, l6] [] S h n) ∧
  (∀ (d : Nat) (l0 l1 l2 l3 l4 l5 l6 : Option mx_V) (S h : mx_H) (n : Int), mx_ex d 98 2 [l0, l1, l2, l3, l4, l5, l6] [] S h n = mx_ex d 98 3 [l0, l1, l2, l3, l4, l5, l6] [(0, 0)] S h n) ∧
  (∀ (d : Nat) (x : Int) (l0 l1 l2 l3 l4 l5 l6 : Option mx_V) (S h : mx_H) (n : Int), mx_ex d 98 3 [l0, l1, l2, l3, l4, l5, l6] [(0, x)] S h n = mx_ex d 98 4 [l0, l1, mx_nl l2, some (0, x), l4, l5, l6] [] S h n) ∧
  (∀ (d : Nat) (x : Int) (l1 l2 l3 l4 l5 l6 : Option mx_V) (v0 : mx_V) (S h : mx_H) (n : Int), mx_ex d 98 5 [some (2, x), l1, l2, l3, l4, l5, l6] [v0] S h n = mx_ex d 98 6 [some (2, x), l1, l2, l3, l4, l5, l6] [(2, x), v0] S h n) ∧
  (∀ (d : Nat) (a : Int) (l0 l1 l2 l3 l4 l5 l6 : Option mx_V) (v1 : mx_V) (S h : mx_H) (n : Int), mx_ex d 98 6 [l0, l1, l2, l3, l4, l5, l6] [(2, a), v1] S h n = mx_gd (8 ≤ S a (-2) ∧ S a (-2) ≤ 8) d 98 9 [l0, l1, l2, l3, l4, l5, l6] [(0, h a 4), v1] S h n) ∧
  (∀ (d : Nat) (b a : Int) (l0 l1 l2 l3 l4 l5 l6 : Option mx_V) (S h : mx_H) (n : Int), mx_ex d 98 9 [l0, l1, l2, l3, l4, l5, l6] [(0, b), (0, a)] S h n = mx_br (a < b) d 98 12 101 [l0, l1, l2, l3, l4, l5, l6] [] S h n) ∧
  (∀ (d : Nat) (x : Int) (l0 l1 l2 l4 l5 l6 : Option mx_V) (S h : mx_H) (n : Int), mx_ex d 98 12 [l0, l1, l2, some (0, x), l4, l5, l6] [] S h n = mx_ex d 98 13 [l0, l1, l2, some (0, x), l4, l5, l6] [(0, x)] S h n) ∧
  (∀ (d : Nat) (l0 l1 l2 l3 l4 l5 l6 : Option mx_V) (v0 : mx_V) (S h : mx_H) (n : Int), mx_ex d 98 13 [l0, l1, l2, l3, l4, l5, l6] [v0] S h n = mx_ex d 98 14 [l0, l1, l2, l3, l4, l5, l6] [(0, 4), v0] S h n) ∧
  (∀ (d : Nat) (b a : Int) (l0 l1 l2 l3 l4 l5 l6 : Option mx_V) (S h : mx_H) (n : Int), mx_ex d 98 14 [l0, l1, l2, l3, l4, l5, l6] [(0, b), (0, a)] S h n = mx_ex d 98 15 [l0, l1, l2, l3, l4, l5, l6] [(0, mx_w (a * b))] S h n) ∧
  (∀ (d : Nat) (x : Int) (l0 l1 l2 l3 l4 l5 l6 : Option mx_V) (S h : mx_H) (n : Int), mx_ex d 98 15 [l0, l1, l2, l3, l4, l5, l6] [(0, x)] S h n = mx_ex d 98 17 [l0, l1, l2, mx_nl l3, some (0, x), l5, l6] [] S h n) ∧
  (∀ (d : Nat) (x : Int) (l1 l2 l3 l4 l5 l6 : Option mx_V) (S h : mx_H) (n : Int), mx_ex d 98 17 [some (2, x), l1, l2, l3, l4, l5, l6] [] S h n = mx_ex d 98 18 [some (2, x), l1, l2, l3, l4, l5, l6] [(2, x)] S h n) ∧
  (∀ (d : Nat) (a : Int) (l0 l1 l2 l3 l4 l5 l6 : Option mx_V) (S h : mx_H) (n : Int), mx_ex d 98 18 [l0, l1, l2, l3, l4, l5, l6] [(2, a)] S h n = mx_gd (8 ≤ S a (-2) ∧ S a (-2) ≤ 8) d 98 21 [l0, l1, l2, l3, l4, l5, l6] [(2, S a 2)] S h n) ∧
  (∀ (d : Nat) (x : Int) (l0 l1 l2 l3 l5 l6 : Option mx_V) (v0 : mx_V) (S h : mx_H) (n : Int), mx_ex d 98 21 [l0, l1, l2, l3, some (0, x), l5, l6] [v0] S h n = mx_ex d 98 23 [l0, l1, l2, l3, some (0, x), l5, l6] [(0, x), v0] S h n) ∧
  (∀ (d : Nat) (i a : Int) (l0 l1 l2 l3 l4 l5 l6 : Option mx_V) (S h : mx_H) (n : Int), mx_ex d 98 23 [l0, l1, l2, l3, l4, l5, l6] [(0, i), (2, a)] S h n = mx_gd ((S a (-2) = 20 ∨ S a (-2) = 24) ∧ 0 ≤ i ∧ i < S a (-1)) d 98 24 [l0, l1, l2, l3, l4, l5, l6] [(0, h a i)] S h n) ∧
  (∀ (d : Nat) (x : Int) (l0 l1 l2 l3 l4 l5 l6 : Option mx_V) (S h : mx_H) (n : Int), mx_ex d 98 24 [l0, l1, l2, l3, l4, l5, l6] [(0, x)] S h n = mx_ex d 98 26 [l0, l1, l2, l3, mx_nl l4, some (0, x), l6] [] S h n) ∧
  (∀ (d : Nat) (x : Int) (l1 l2 l3 l4 l5 l6 : Option mx_V) (S h : mx_H) (n : Int), mx_ex d 98 26 [some (2, x), l1, l2, l3, l4, l5, l6] [] S h n = mx_ex d 98 27 [some (2, x), l1, l2, l3, l4, l5, l6] [(2, x)] S h n) ∧
  (∀ (d : Nat) (a : Int) (l0 l1 l2 l3 l4 l5 l6 : Option mx_V) (S h : mx_H) (n : Int), mx_ex d 98 27 [l0, l1, l2, l3, l4, l5, l6] [(2, a)] S h n = mx_gd (8 ≤ S a (-2) ∧ S a (-2) ≤ 8) d 98 30 [l0, l1, l2, l3, l4, l5, l6] [(2, S a 2)] S h n) ∧
  (∀ (d : Nat) (x : Int) (l0 l1 l2 l3 l5 l6 : Option mx_V) (v0 : mx_V) (S h : mx_H) (n : Int), mx_ex d 98 30 [l0, l1, l2, l3, some (0, x), l5, l6] [v0] S h n = mx_ex d 98 32 [l0, l1, l2, l3, some (0, x), l5, l6] [(0, x), v0] S h n) ∧
  (∀ (d : Nat) (l0 l1 l2 l3 l4 l5 l6 : Option mx_V) (v0 v1 : mx_V) (S h : mx_H) (n : Int), mx_ex d 98 32 [l0, l1, l2, l3, l4, l5, l6] [v0, v1] S h n = mx_ex d 98 33 [l0, l1, l2, l3, l4, l5, l6] [(0, 1), v0, v1] S h n) ∧
  (∀ (d : Nat) (b a : Int) (l0 l1 l2 l3 l4 l5 l6 : Option mx_V) (v2 : mx_V) (S h : mx_H) (n : Int), mx_ex d 98 33 [l0, l1, l2, l3, l4, l5, l6] [(0, b), (0, a), v2] S h n = mx_ex d 98 34 [l0, l1, l2, l3, l4, l5, l6] [(0, mx_w (a + b)), v2] S h n) ∧
  (∀ (d : Nat) (i a : Int) (l0 l1 l2 l3 l4 l5 l6 : Option mx_V) (S h : mx_H) (n : Int), mx_ex d 98 34 [l0, l1, l2, l3, l4, l5, l6] [(0, i), (2, a)] S h n = mx_gd ((S a (-2) = 20 ∨ S a (-2) = 24) ∧ 0 ≤ i ∧ i < S a (-1)) d 98 35 [l0, l1, l2, l3, l4, l5, l6] [(0, h a i)] S h n) ∧
  (∀ (d : Nat) (x : Int) (l0 l2 l3 l4 l5 l6 : Option mx_V) (v0 : mx_V) (S h : mx_H) (n : Int), mx_ex d 98 35 [l0, some (0, x), l2, l3, l4, l5, l6] [v0] S h n = mx_ex d 98 36 [l0, some (0, x), l2, l3, l4, l5, l6] [(0, x), v0] S h n) ∧
  (∀ (d : Nat) (b a : Int) (l0 l1 l2 l3 l4 l5 l6 : Option mx_V) (S h : mx_H) (n : Int), mx_ex d 98 36 [l0, l1, l2, l3, l4, l5, l6] [(0, b), (0, a)] S h n = mx_br (a = b) d 98 77 39 [l0, l1, l2, l3, l4, l5, l6] [] S h n) ∧
  (∀ (d : Nat) (x : Int) (l0 l1 l2 l3 l4 l6 : Option mx_V) (S h : mx_H) (n : Int), mx_ex d 98 39 [l0, l1, l2, l3, l4, some (0, x), l6] [] S h n = mx_ex d 98 41 [l0, l1, l2, l3, l4, some (0, x), l6] [(0, x)] S h n) ∧
  (∀ (d : Nat) (l0 l1 l2 l3 l4 l5 l6 : Option mx_V) (v0 : mx_V) (S h : mx_H) (n : Int), mx_ex d 98 41 [l0, l1, l2, l3, l4, l5, l6] [v0] S h n = mx_ex d 98 42 [l0, l1, l2, l3, l4, l5, l6] [(0, 3), v0] S h n) ∧
  (∀ (d : Nat) (b a : Int) (l0 l1 l2 l3 l4 l5 l6 : Option mx_V) (S h : mx_H) (n : Int), mx_ex d 98 42 [l0, l1, l2, l3, l4, l5, l6] [(0, b), (0, a)] S h n = mx_br (a = b) d 98 58 45 [l0, l1, l2, l3, l4, l5, l6] [] S h n) ∧
  (∀ (d : Nat) (x : Int) (l1 l2 l3 l4 l5 l6 : Option mx_V) (S h : mx_H) (n : Int), mx_ex d 98 45 [some (2, x), l1, l2, l3, l4, l5, l6] [] S h n = mx_ex d 98 46 [some (2, x), l1, l2, l3, l4, l5, l6] [(2, x)] S h n) ∧
  (∀ (d : Nat) (a : Int) (l0 l1 l2 l3 l4 l5 l6 : Option mx_V) (S h : mx_H) (n : Int), mx_ex d 98 46 [l0, l1, l2, l3, l4, l5, l6] [(2, a)] S h n = mx_gd (8 ≤ S a (-2) ∧ S a (-2) ≤ 8) d 98 49 [l0, l1, l2, l3, l4, l5, l6] [(2, S a 2)] S h n) ∧
  (∀ (d : Nat) (x : Int) (l0 l1 l2 l3 l5 l6 : Option mx_V) (v0 : mx_V) (S h : mx_H) (n : Int), mx_ex d 98 49 [l0, l1, l2, l3, some (0, x), l5, l6] [v0] S h n = mx_ex d 98 51 [l0, l1, l2, l3, some (0, x), l5, l6] [(0, x), v0] S h n) ∧
  (∀ (d : Nat) (l0 l1 l2 l3 l4 l5 l6 : Option mx_V) (v0 v1 : mx_V) (S h : mx_H) (n : Int), mx_ex d 98 51 [l0, l1, l2, l3, l4, l5, l6] [v0, v1] S h n = mx_ex d 98 52 [l0, l1, l2, l3, l4, l5, l6] [(0, 2), v0, v1] S h n) ∧
  (∀ (d : Nat) (b a : Int) (l0 l1 l2 l3 l4 l5 l6 : Option mx_V) (v2 : mx_V) (S h : mx_H) (n : Int), mx_ex d 98 52 [l0, l1, l2, l3, l4, l5, l6] [(0, b), (0, a), v2] S h n = mx_ex d 98 53 [l0, l1, l2, l3, l4, l5, l6] [(0, mx_w (a + b)), v2] S h n) ∧
  (∀ (d : Nat) (i a : Int) (l0 l1 l2 l3 l4 l5 l6 : Option mx_V) (S h : mx_H) (n : Int), mx_ex d 98 53 [l0, l1, l2, l3, l4, l5, l6] [(0, i), (2, a)] S h n = mx_gd ((S a (-2) = 20 ∨ S a (-2) = 24) ∧ 0 ≤ i ∧ i < S a (-1)) d 98 54 [l0, l1, l2, l3, l4, l5, l6] [(0, h a i)] S h n) ∧
  (∀ (d : Nat) (x : Int) (l0 l2 l3 l4 l5 l6 : Option mx_V) (v0 : mx_V) (S h : mx_H) (n : Int), mx_ex d 98 54 [l0, some (0, x), l2, l3, l4, l5, l6] [v0] S h n = mx_ex d 98 55 [l0, some (0, x), l2, l3, l4, l5, l6] [(0, x), v0] S h n) ∧
  (∀ (d : Nat) (b a : Int) (l0 l1 l2 l3 l4 l5 l6 : Option mx_V) (S h : mx_H) (n : Int), mx_ex d 98 55 [l0, l1, l2, l3, l4, l5, l6] [(0, b), (0, a)] S h n = mx_br (a = b) d 98 77 58 [l0, l1, l2, l3, l4, l5, l6] [] S h n) ∧
  (∀ (d : Nat) (x : Int) (l0 l1 l2 l3 l4 l6 : Option mx_V) (S h : mx_H) (n : Int), mx_ex d 98 58 [l0, l1, l2, l3, l4, some (0, x), l6] [] S h n = mx_ex d 98 60 [l0, l1, l2, l3, l4, some (0, x), l6] [(0, x)] S h n) ∧
  (∀ (d : Nat) (l0 l1 l2 l3 l4 l5 l6 : Option mx_V) (v0 : mx_V) (S h : mx_H) (n : Int), mx_ex d 98 60 [l0, l1, l2, l3, l4, l5, l6] [v0] S h n = mx_ex d 98 61 [l0, l1, l2, l3, l4, l5, l6] [(0, 2), v0] S h n) ∧
  (∀ (d : Nat) (b a : Int) (l0 l1 l2 l3 l4 l5 l6 : Option mx_V) (S h : mx_H) (n : Int), mx_ex d 98 61 [l0, l1, l2, l3, l4, l5, l6] [(0, b), (0, a)] S h n = mx_br (a = b) d 98 64 81 [l0, l1, l2, l3, l4, l5, l6] [] S h n) ∧
  (∀ (d : Nat) (x : Int) (l1 l2 l3 l4 l5 l6 : Option mx_V) (S h : mx_H) (n : Int), mx_ex d 98 64 [some (2, x), l1, l2, l3, l4, l5, l6] [] S h n = mx_ex d 98 65 [some (2, x), l1, l2, l3, l4, l5, l6] [(2, x)] S h n) ∧
  (∀ (d : Nat) (a : Int) (l0 l1 l2 l3 l4 l5 l6 : Option mx_V) (S h : mx_H) (n : Int), mx_ex d 98 65 [l0, l1, l2, l3, l4, l5, l6] [(2, a)] S h n = mx_gd (8 ≤ S a (-2) ∧ S a (-2) ≤ 8) d 98 68 [l0, l1, l2, l3, l4, l5, l6] [(2, S a 2)] S h n) ∧
  (∀ (d : Nat) (x : Int) (l0 l1 l2 l3 l5 l6 : Option mx_V) (v0 : mx_V) (S h : mx_H) (n : Int), mx_ex d 98 68 [l0, l1, l2, l3, some (0, x), l5, l6] [v0] S h n = mx_ex d 98 70 [l0, l1, l2, l3, some (0, x), l5, l6] [(0, x), v0] S h n) ∧
  (∀ (d : Nat) (l0 l1 l2 l3 l4 l5 l6 : Option mx_V) (v0 v1 : mx_V) (S h : mx_H) (n : Int), mx_ex d 98 70 [l0, l1, l2, l3, l4, l5, l6] [v0, v1] S h n = mx_ex d 98 71 [l0, l1, l2, l3, l4, l5, l6] [(0, 3), v0, v1] S h n) ∧
  (∀ (d : Nat) (b a : Int) (l0 l1 l2 l3 l4 l5 l6 : Option mx_V) (v2 : mx_V) (S h : mx_H) (n : Int), mx_ex d 98 71 [l0, l1, l2, l3, l4, l5, l6] [(0, b), (0, a), v2] S h n = mx_ex d 98 72 [l0, l1, l2, l3, l4, l5, l6] [(0, mx_w (a + b)), v2] S h n) ∧
  (∀ (d : Nat) (i a : Int) (l0 l1 l2 l3 l4 l5 l6 : Option mx_V) (S h : mx_H) (n : Int), mx_ex d 98 72 [l0, l1, l2, l3, l4, l5, l6] [(0, i), (2, a)] S h n = mx_gd ((S a (-2) = 20 ∨ S a (-2) = 24) ∧ 0 ≤ i ∧ i < S a (-1)) d 98 73 [l0, l1, l2, l3, l4, l5, l6] [(0, h a i)] S h n) ∧
  (∀ (d : Nat) (x : Int) (l0 l2 l3 l4 l5 l6 : Option mx_V) (v0 : mx_V) (S h : mx_H) (n : Int), mx_ex d 98 73 [l0, some (0, x), l2, l3, l4, l5, l6] [v0] S h n = mx_ex d 98 74 [l0, some (0, x), l2, l3, l4, l5, l6] [(0, x), v0] S h n) ∧
  (∀ (d : Nat) (b a : Int) (l0 l1 l2 l3 l4 l5 l6 : Option mx_V) (S h : mx_H) (n : Int), mx_ex d 98 74 [l0, l1, l2, l3, l4, l5, l6] [(0, b), (0, a)] S h n = mx_br (a = b) d 98 77 81 [l0, l1, l2, l3, l4, l5, l6] [] S h n) ∧
  (∀ (d : Nat) (l0 l1 l2 l3 l4 l5 l6 : Option mx_V) (S h : mx_H) (n : Int), mx_ex d 98 77 [l0, l1, l2, l3, l4, l5, l6] [] S h n = mx_ex d 98 78 [l0, l1, l2, l3, l4, l5, l6] [(0, 1)] S h n) ∧
  (∀ (d : Nat) (l0 l1 l2 l3 l4 l5 l6 : Option mx_V) (v0 : mx_V) (S h : mx_H) (n : Int), mx_ex d 98 78 [l0, l1, l2, l3, l4, l5, l6] [v0] S h n = mx_ex d 98 82 [l0, l1, l2, l3, l4, l5, l6] [v0] S h n) ∧
  (∀ (d : Nat) (l0 l1 l2 l3 l4 l5 l6 : Option mx_V) (S h : mx_H) (n : Int), mx_ex d 98 81 [l0, l1, l2, l3, l4, l5, l6] [] S h n = mx_ex d 98 82 [l0, l1, l2, l3, l4, l5, l6] [(0, 0)] S h n) ∧
  (∀ (d : Nat) (x : Int) (l0 l1 l2 l3 l4 l5 l6 : Option mx_V) (S h : mx_H) (n : Int), mx_ex d 98 82 [l0, l1, l2, l3, l4, l5, l6] [(0, x)] S h n = mx_ex d 98 84 [l0, l1, l2, l3, l4, mx_nl l5, some (0, x)] [] S h n) ∧
  (∀ (d : Nat) (x : Int) (l0 l1 l2 l3 l4 l5 : Option mx_V) (S h : mx_H) (n : Int), mx_ex d 98 84 [l0, l1, l2, l3, l4, l5, some (0, x)] [] S h n = mx_ex d 98 86 [l0, l1, l2, l3, l4, l5, some (0, x)] [(0, x)] S h n) ∧
  (∀ (d : Nat) (a : Int) (l0 l1 l2 l3 l4 l5 l6 : Option mx_V) (S h : mx_H) (n : Int), mx_ex d 98 86 [l0, l1, l2, l3, l4, l5, l6] [(0, a)] S h n = mx_br (a = 0) d 98 95 89 [l0, l1, l2, l3, l4, l5, l6] [] S h n) ∧
  (∀ (d : Nat) (x : Int) (l0 l1 l3 l4 l5 l6 : Option mx_V) (S h : mx_H) (n : Int), mx_ex d 98 89 [l0, l1, some (0, x), l3, l4, l5, l6] [] S h n = mx_ex d 98 90 [l0, l1, some (0, x), l3, l4, l5, l6] [(0, x)] S h n) ∧
  (∀ (d : Nat) (l0 l1 l2 l3 l4 l5 l6 : Option mx_V) (v0 : mx_V) (S h : mx_H) (n : Int), mx_ex d 98 90 [l0, l1, l2, l3, l4, l5, l6] [v0] S h n = mx_ex d 98 91 [l0, l1, l2, l3, l4, l5, l6] [(0, 1), v0] S h n) ∧
  (∀ (d : Nat) (x : Int) (l0 l1 l2 l4 l5 l6 : Option mx_V) (v0 v1 : mx_V) (S h : mx_H) (n : Int), mx_ex d 98 91 [l0, l1, l2, some (0, x), l4, l5, l6] [v0, v1] S h n = mx_ex d 98 92 [l0, l1, l2, some (0, x), l4, l5, l6] [(0, x), v0, v1] S h n) ∧
  (∀ (d : Nat) (b a : Int) (l0 l1 l2 l3 l4 l5 l6 : Option mx_V) (v2 : mx_V) (S h : mx_H) (n : Int), mx_ex d 98 92 [l0, l1, l2, l3, l4, l5, l6] [(0, b), (0, a), v2] S h n = mx_ex d 98 93 [l0, l1, l2, l3, l4, l5, l6] [(0, mx_shl a b), v2] S h n) ∧
  (∀ (d : Nat) (b a : Int) (l0 l1 l2 l3 l4 l5 l6 : Option mx_V) (S h : mx_H) (n : Int), mx_ex d 98 93 [l0, l1, l2, l3, l4, l5, l6] [(0, b), (0, a)] S h n = mx_ex d 98 94 [l0, l1, l2, l3, l4, l5, l6] [(0, mx_or a b)] S h n) ∧
  (∀ (d : Nat) (x : Int) (l0 l1 l2 l3 l4 l5 l6 : Option mx_V) (S h : mx_H) (n : Int), mx_ex d 98 94 [l0, l1, l2, l3, l4, l5, l6] [(0, x)] S h n = mx_ex d 98 95 [l0, mx_nl l1, some (0, x), l3, l4, l5, l6] [] S h n) ∧
  (∀ (d : Nat) (x : Int) (l0 l1 l2 l4 l5 l6 : Option mx_V) (S h : mx_H) (n : Int), mx_ex d 98 95 [l0, l1, l2, some (0, x), l4, l5, l6] [] S h n = mx_ex d 98 98 [l0, l1, mx_nl l2, some (0, mx_w (x + 1)), l4, l5, l6] [] S h n) ∧
  (∀ (d : Nat) (l0 l1 l2 l3 l4 l5 l6 : Option mx_V) (S h : mx_H) (n : Int), mx_ex d 98 98 [l0, l1, l2, l3, l4, l5, l6] [] S h n = mx_ex d 98 4 [l0, l1, l2, l3, l4, l5, l6] [] S h n) ∧
  (∀ (d : Nat) (x : Int) (l0 l1 l3 l4 l5 l6 : Option mx_V) (S h : mx_H) (n : Int), mx_ex d 98 101 [l0, l1, some (0, x), l3, l4, l5, l6] [] S h n = mx_ex d 98 102 [l0, l1, some (0, x), l3, l4, l5, l6] [(0, x)] S h n) ∧
  (∀ (d : Nat) (x : Int) (l0 l1 l2 l3 l4 l5 l6 : Option mx_V) (S h : mx_H) (n : Int), mx_ex d 98 102 [l0, l1, l2, l3, l4, l5, l6] [(0, x)] S h n = some (some (0, x), S, h, n)) :=
  ⟨by intros; exact rfl,
   by intros; exact eq_push rfl,
   by intros; exact eq_st rfl (by decide) (Nat.le_of_ble_eq_true rfl) rfl,
   by intros; exact eq_push rfl,
   by intros; exact eq_st rfl (by decide) (Nat.le_of_ble_eq_true rfl) rfl,
   by intros; exact eq_ld rfl rfl,
   by intros; exact eq_gi rfl,
   by intros; exact eq_ic3 rfl,
   by intros; exact eq_ld rfl rfl,
   by intros; exact eq_push rfl,
   by intros; exact eq_i2 (o := mx_mul) rfl,
   by intros; exact eq_st rfl (by decide) (Nat.le_of_ble_eq_true rfl) rfl,
   by intros; exact eq_ld rfl rfl,
   by intros; exact eq_gr rfl,
   by intros; exact eq_ld rfl rfl,
   by intros; exact eq_iald rfl,
   by intros; exact eq_st rfl (by decide) (Nat.le_of_ble_eq_true rfl) rfl,
   by intros; exact eq_ld rfl rfl,
   by intros; exact eq_gr rfl,
   by intros; exact eq_ld rfl rfl,
   by intros; exact eq_push rfl,
   by intros; exact eq_i2 (o := mx_add) rfl,
   by intros; exact eq_iald rfl,
   by intros; exact eq_ld rfl rfl,
   by intros; exact eq_ic0 rfl,
   by intros; exact eq_ld rfl rfl,
   by intros; exact eq_push rfl,
   by intros; exact eq_ic0 rfl,
   by intros; exact eq_ld rfl rfl,
   by intros; exact eq_gr rfl,
   by intros; exact eq_ld rfl rfl,
   by intros; exact eq_push rfl,
   by intros; exact eq_i2 (o := mx_add) rfl,
   by intros; exact eq_iald rfl,
   by intros; exact eq_ld rfl rfl,
   by intros; exact eq_ic0 rfl,
   by intros; exact eq_ld rfl rfl,
   by intros; exact eq_push rfl,
   by intros; exact eq_ic1 rfl,
   by intros; exact eq_ld rfl rfl,
   by intros; exact eq_gr rfl,
   by intros; exact eq_ld rfl rfl,
   by intros; exact eq_push rfl,
   by intros; exact eq_i2 (o := mx_add) rfl,
   by intros; exact eq_iald rfl,
   by intros; exact eq_ld rfl rfl,
   by intros; exact eq_ic1 rfl,
   by intros; exact eq_push rfl,
   by intros; exact eq_go rfl,
   by intros; exact eq_push rfl,
   by intros; exact eq_st rfl (by decide) (Nat.le_of_ble_eq_true rfl) rfl,
   by intros; exact eq_ld rfl rfl,
   by intros; exact eq_if0 rfl,
   by intros; exact eq_ld rfl rfl,
   by intros; exact eq_push rfl,
   by intros; exact eq_ld rfl rfl,
   by intros; exact eq_i2 (o := mx_shl) rfl,
   by intros; exact eq_i2 (o := mx_or) rfl,
   by intros; exact eq_st rfl (by decide) (Nat.le_of_ble_eq_true rfl) rfl,
   by intros; exact eq_inc rfl rfl rfl,
   by intros; exact eq_go rfl,
   by intros; exact eq_ld rfl rfl,
   by intros; exact eq_ret rfl⟩
theorem rw_X10_allLines :
  (∀ (d : Nat) (a0 : Int) (S h : mx_H) (n : Int), mx_M d 99 [(2, a0)] S h n = mx_ex d 99 0 [some (2, a0)] [] S h n) ∧
  (∀ (d : Nat) (l0 : Option mx_V) (S h : mx_H) (n : Int), mx_ex d 99 0 [l0] [] S h n = mx_ex d 99 1 [l0] [(0, 1)] S h n) ∧
  (∀ (d : Nat) (x : Int) (v0 : mx_V) (S h : mx_H) (n : Int), mx_ex d 99 1 [some (2, x)] [v0] S h n = mx_ex d 99 2 [some (2, x)] [(2, x), v0] S h n) ∧
  (∀ (d : Nat) (a : Int) (l0 : Option mx_V) (v1 : mx_V) (S h : mx_H) (n : Int), mx_ex d 99 2 [l0] [(2, a), v1] S h n = mx_gd (8 ≤ S a (-2) ∧ S a (-2) ≤ 8) d 99 5 [l0] [(0, h a 4), v1] S h n) ∧
  (∀ (d : Nat) (b a : Int) (l0 : Option mx_V) (S h : mx_H) (n : Int), mx_ex d 99 5 [l0] [(0, b), (0, a)] S h n = mx_ex d 99 6 [l0] [(0, mx_shl a b)] S h n) ∧
  (∀ (d : Nat) (l0 : Option mx_V) (v0 : mx_V) (S h : mx_H) (n : Int), mx_ex d 99 6 [l0] [v0] S h n = mx_ex d 99 7 [l0] [(0, 1), v0] S h n) ∧
  (∀ (d : Nat) (b a : Int) (l0 : Option mx_V) (S h : mx_H) (n : Int), mx_ex d 99 7 [l0] [(0, b), (0, a)] S h n = mx_ex d 99 8 [l0] [(0, mx_w (a - b))] S h n) ∧
  (∀ (d : Nat) (x : Int) (l0 : Option mx_V) (S h : mx_H) (n : Int), mx_ex d 99 8 [l0] [(0, x)] S h n = some (some (0, x), S, h, n)) :=
  ⟨by intros; exact rfl,
   by intros; exact eq_push rfl,
   by intros; exact eq_ld rfl rfl,
   by intros; exact eq_gi rfl,
   by intros; exact eq_i2 (o := mx_shl) rfl,
   by intros; exact eq_push rfl,
   by intros; exact eq_i2 (o := mx_sub) rfl,
   by intros; exact eq_ret rfl⟩
