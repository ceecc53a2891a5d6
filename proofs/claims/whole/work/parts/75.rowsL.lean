/-! PRINTED (gen_rows.py): a row an instruction -/
theorem rh_L_law_18 : ∀ (d : Nat) (x : Int) (l0 l1 l2 : Option mx_V) (S h : mx_H) (n : Int), mx_ex d 259 18 [l0, l1, l2, some (0, x)] [] S h n = mx_ex d 259 19 [l0, l1, l2, some (0, x)] [(0, x)] S h n := by intros; exact eq_ld rfl rfl
theorem rw_L_law :
  (∀ (d : Nat) (a0 : Int) (S h : mx_H) (n : Int), mx_M d 259 [(2, a0)] S h n = mx_ex d 259 0 [some (2, a0), none, none, none] [] S h n) ∧
  (∀ (d : Nat) (l0 l1 l2 l3 : Option mx_V) (S h : mx_H) (n : Int), mx_ex d 259 0 [l0, l1, l2, l3] [] S h n = mx_ex d 259 3 [l0, l1, l2, l3] [(2, n)] (mx_t S n 7 0) (mx_z h n) (n + 1)) ∧
  (∀ (d : Nat) (a : Int) (l0 l1 l2 l3 : Option mx_V) (S h : mx_H) (n : Int), mx_ex d 259 3 [l0, l1, l2, l3] [(2, a)] S h n = mx_ex d 259 4 [l0, l1, l2, l3] [(2, a), (2, a)] S h n) ∧
  (∀ (d : Nat) (a : Int) (l0 l1 l2 l3 : Option mx_V) (v1 : mx_V) (S h : mx_H) (n : Int), mx_ex (d + 1) 259 4 [l0, l1, l2, l3] [(2, a), v1] S h n = mx_cl (7 ≤ S a (-2) ∧ S a (-2) ≤ 7) d 100 [(2, a)] 259 7 [l0, l1, l2, l3] [v1] S h n) ∧
  (∀ (d : Nat) (x : Int) (l0 l1 l2 l3 : Option mx_V) (S h : mx_H) (n : Int), mx_ex d 259 7 [l0, l1, l2, l3] [(2, x)] S h n = mx_ex d 259 8 [mx_nl l0, some (2, x), l2, l3] [] S h n) ∧
  (∀ (d : Nat) (l0 l1 l2 l3 : Option mx_V) (S h : mx_H) (n : Int), mx_ex d 259 8 [l0, l1, l2, l3] [] S h n = mx_ex d 259 11 [l0, l1, l2, l3] [(2, n)] (mx_t S n 13 0) (mx_z h n) (n + 1)) ∧
  (∀ (d : Nat) (a : Int) (l0 l1 l2 l3 : Option mx_V) (S h : mx_H) (n : Int), mx_ex d 259 11 [l0, l1, l2, l3] [(2, a)] S h n = mx_ex d 259 12 [l0, l1, l2, l3] [(2, a), (2, a)] S h n) ∧
  (∀ (d : Nat) (a : Int) (l0 l1 l2 l3 : Option mx_V) (v1 : mx_V) (S h : mx_H) (n : Int), mx_ex (d + 1) 259 12 [l0, l1, l2, l3] [(2, a), v1] S h n = mx_cl (13 ≤ S a (-2) ∧ S a (-2) ≤ 13) d 156 [(2, a)] 259 15 [l0, l1, l2, l3] [v1] S h n) ∧
  (∀ (d : Nat) (x : Int) (l0 l1 l2 l3 : Option mx_V) (S h : mx_H) (n : Int), mx_ex d 259 15 [l0, l1, l2, l3] [(2, x)] S h n = mx_ex d 259 16 [l0, mx_nl l1, some (2, x), l3] [] S h n) ∧
  (∀ (d : Nat) (l0 l1 l2 l3 : Option mx_V) (S h : mx_H) (n : Int), mx_ex d 259 16 [l0, l1, l2, l3] [] S h n = mx_ex d 259 17 [l0, l1, l2, l3] [(0, 0)] S h n) ∧
  (∀ (d : Nat) (x : Int) (l0 l1 l2 l3 : Option mx_V) (S h : mx_H) (n : Int), mx_ex d 259 17 [l0, l1, l2, l3] [(0, x)] S h n = mx_ex d 259 18 [l0, l1, mx_nl l2, some (0, x)] [] S h n) ∧
  (∀ (d : Nat) (x : Int) (l1 l2 l3 : Option mx_V) (v0 : mx_V) (S h : mx_H) (n : Int), mx_ex d 259 19 [some (2, x), l1, l2, l3] [v0] S h n = mx_ex d 259 20 [some (2, x), l1, l2, l3] [(2, x), v0] S h n) ∧
  (∀ (d : Nat) (a : Int) (l0 l1 l2 l3 : Option mx_V) (v1 : mx_V) (S h : mx_H) (n : Int), mx_ex d 259 20 [l0, l1, l2, l3] [(2, a), v1] S h n = mx_gd (20 ≤ S a (-2) ∧ S a (-2) ≤ 25) d 259 21 [l0, l1, l2, l3] [(0, S a (-1)), v1] S h n) ∧
  (∀ (d : Nat) (l0 l1 l2 l3 : Option mx_V) (v0 v1 : mx_V) (S h : mx_H) (n : Int), mx_ex d 259 21 [l0, l1, l2, l3] [v0, v1] S h n = mx_ex d 259 23 [l0, l1, l2, l3] [(0, 6), v0, v1] S h n) ∧
  (∀ (d : Nat) (b a : Int) (l0 l1 l2 l3 : Option mx_V) (v2 : mx_V) (S h : mx_H) (n : Int), mx_ex d 259 23 [l0, l1, l2, l3] [(0, b), (0, a), v2] S h n = mx_ex d 259 24 [l0, l1, l2, l3] [(0, mx_w (a - b)), v2] S h n) ∧
  (∀ (d : Nat) (b a : Int) (l0 l1 l2 l3 : Option mx_V) (S h : mx_H) (n : Int), mx_ex d 259 24 [l0, l1, l2, l3] [(0, b), (0, a)] S h n = mx_br (b < a) d 259 1659 27 [l0, l1, l2, l3] [] S h n) ∧
  (∀ (d : Nat) (x : Int) (l1 l2 l3 : Option mx_V) (S h : mx_H) (n : Int), mx_ex d 259 27 [some (2, x), l1, l2, l3] [] S h n = mx_ex d 259 28 [some (2, x), l1, l2, l3] [(2, x)] S h n) ∧
  (∀ (d : Nat) (x : Int) (l0 l1 l2 : Option mx_V) (v0 : mx_V) (S h : mx_H) (n : Int), mx_ex d 259 28 [l0, l1, l2, some (0, x)] [v0] S h n = mx_ex d 259 29 [l0, l1, l2, some (0, x)] [(0, x), v0] S h n) ∧
  (∀ (d : Nat) (i a : Int) (l0 l1 l2 l3 : Option mx_V) (S h : mx_H) (n : Int), mx_ex d 259 29 [l0, l1, l2, l3] [(0, i), (2, a)] S h n = mx_gd ((S a (-2) = 20 ∨ S a (-2) = 24) ∧ 0 ≤ i ∧ i < S a (-1)) d 259 30 [l0, l1, l2, l3] [(0, h a i)] S h n) ∧
  (∀ (d : Nat) (l0 l1 l2 l3 : Option mx_V) (v0 : mx_V) (S h : mx_H) (n : Int), mx_ex d 259 30 [l0, l1, l2, l3] [v0] S h n = mx_ex d 259 32 [l0, l1, l2, l3] [(0, 63), v0] S h n) ∧
  (∀ (d : Nat) (b a : Int) (l0 l1 l2 l3 : Option mx_V) (S h : mx_H) (n : Int), mx_ex d 259 32 [l0, l1, l2, l3] [(0, b), (0, a)] S h n = mx_ex d 259 33 [l0, l1, l2, l3] [(0, mx_and a b)] S h n) ∧
  (∀ (d : Nat) (a : Int) (l0 l1 l2 l3 : Option mx_V) (S h : mx_H) (n : Int), mx_ex d 259 33 [l0, l1, l2, l3] [(0, a)] S h n = mx_sw a [(0, 220), (1, 283), (2, 296), (3, 339), (4, 372), (5, 435), (6, 468), (7, 511), (8, 544), (9, 578), (10, 601), (11, 654), (12, 687), (13, 710), (14, 723), (15, 756), (16, 779), (17, 802), (18, 855), (19, 868), (20, 891), (21, 914), (22, 958), (23, 1001), (24, 1034), (25, 1067), (26, 1100), (27, 1123), (28, 1136), (29, 1159), (30, 1193), (31, 1267), (32, 1280), (33, 1333), (34, 1376), (35, 1419), (36, 1462), (37, 1505), (38, 1538), (39, 1581), (40, 1604), (41, 1627), (42, 1640)] d 259 1653 [l0, l1, l2, l3] [] S h n) ∧
  (∀ (d : Nat) (x : Int) (l0 l2 l3 : Option mx_V) (S h : mx_H) (n : Int), mx_ex d 259 220 [l0, some (2, x), l2, l3] [] S h n = mx_ex d 259 221 [l0, some (2, x), l2, l3] [(2, x)] S h n) ∧
  (∀ (d : Nat) (x : Int) (l1 l2 l3 : Option mx_V) (v0 : mx_V) (S h : mx_H) (n : Int), mx_ex d 259 221 [some (2, x), l1, l2, l3] [v0] S h n = mx_ex d 259 222 [some (2, x), l1, l2, l3] [(2, x), v0] S h n) ∧
  (∀ (d : Nat) (x : Int) (l0 l1 l2 : Option mx_V) (v0 v1 : mx_V) (S h : mx_H) (n : Int), mx_ex d 259 222 [l0, l1, l2, some (0, x)] [v0, v1] S h n = mx_ex d 259 223 [l0, l1, l2, some (0, x)] [(0, x), v0, v1] S h n) ∧
  (∀ (d : Nat) (l0 l1 l2 l3 : Option mx_V) (v0 v1 v2 : mx_V) (S h : mx_H) (n : Int), mx_ex d 259 223 [l0, l1, l2, l3] [v0, v1, v2] S h n = mx_ex d 259 224 [l0, l1, l2, l3] [(0, 1), v0, v1, v2] S h n) ∧
  (∀ (d : Nat) (b a : Int) (l0 l1 l2 l3 : Option mx_V) (v2 v3 : mx_V) (S h : mx_H) (n : Int), mx_ex d 259 224 [l0, l1, l2, l3] [(0, b), (0, a), v2, v3] S h n = mx_ex d 259 225 [l0, l1, l2, l3] [(0, mx_w (a + b)), v2, v3] S h n) ∧
  (∀ (d : Nat) (i a : Int) (l0 l1 l2 l3 : Option mx_V) (v2 : mx_V) (S h : mx_H) (n : Int), mx_ex d 259 225 [l0, l1, l2, l3] [(0, i), (2, a), v2] S h n = mx_gd ((S a (-2) = 20 ∨ S a (-2) = 24) ∧ 0 ≤ i ∧ i < S a (-1)) d 259 226 [l0, l1, l2, l3] [(0, h a i), v2] S h n) ∧
  (∀ (d : Nat) (a : Int) (l0 l1 l2 l3 : Option mx_V) (v1 : mx_V) (S h : mx_H) (n : Int), mx_ex d 259 226 [l0, l1, l2, l3] [(0, a), v1] S h n = mx_ex d 259 227 [l0, l1, l2, l3] [(1, a), v1] S h n) ∧
  (∀ (d : Nat) (l0 l1 l2 l3 : Option mx_V) (v0 v1 : mx_V) (S h : mx_H) (n : Int), mx_ex d 259 227 [l0, l1, l2, l3] [v0, v1] S h n = mx_ex d 259 229 [l0, l1, l2, l3] [(0, 32), v0, v1] S h n) ∧
  (∀ (d : Nat) (b a : Int) (l0 l1 l2 l3 : Option mx_V) (v2 : mx_V) (S h : mx_H) (n : Int), mx_ex d 259 229 [l0, l1, l2, l3] [(0, b), (1, a), v2] S h n = mx_ex d 259 230 [l0, l1, l2, l3] [(1, ml_shl a b), v2] S h n) ∧
  (∀ (d : Nat) (x : Int) (l1 l2 l3 : Option mx_V) (v0 v1 : mx_V) (S h : mx_H) (n : Int), mx_ex d 259 230 [some (2, x), l1, l2, l3] [v0, v1] S h n = mx_ex d 259 231 [some (2, x), l1, l2, l3] [(2, x), v0, v1] S h n) ∧
  (∀ (d : Nat) (x : Int) (l0 l1 l2 : Option mx_V) (v0 v1 v2 : mx_V) (S h : mx_H) (n : Int), mx_ex d 259 231 [l0, l1, l2, some (0, x)] [v0, v1, v2] S h n = mx_ex d 259 232 [l0, l1, l2, some (0, x)] [(0, x), v0, v1, v2] S h n) ∧
  (∀ (d : Nat) (l0 l1 l2 l3 : Option mx_V) (v0 v1 v2 v3 : mx_V) (S h : mx_H) (n : Int), mx_ex d 259 232 [l0, l1, l2, l3] [v0, v1, v2, v3] S h n = mx_ex d 259 233 [l0, l1, l2, l3] [(0, 2), v0, v1, v2, v3] S h n) ∧
  (∀ (d : Nat) (b a : Int) (l0 l1 l2 l3 : Option mx_V) (v2 v3 v4 : mx_V) (S h : mx_H) (n : Int), mx_ex d 259 233 [l0, l1, l2, l3] [(0, b), (0, a), v2, v3, v4] S h n = mx_ex d 259 234 [l0, l1, l2, l3] [(0, mx_w (a + b)), v2, v3, v4] S h n) ∧
  (∀ (d : Nat) (i a : Int) (l0 l1 l2 l3 : Option mx_V) (v2 v3 : mx_V) (S h : mx_H) (n : Int), mx_ex d 259 234 [l0, l1, l2, l3] [(0, i), (2, a), v2, v3] S h n = mx_gd ((S a (-2) = 20 ∨ S a (-2) = 24) ∧ 0 ≤ i ∧ i < S a (-1)) d 259 235 [l0, l1, l2, l3] [(0, h a i), v2, v3] S h n) ∧
  (∀ (d : Nat) (a : Int) (l0 l1 l2 l3 : Option mx_V) (v1 v2 : mx_V) (S h : mx_H) (n : Int), mx_ex d 259 235 [l0, l1, l2, l3] [(0, a), v1, v2] S h n = mx_ex d 259 236 [l0, l1, l2, l3] [(1, a), v1, v2] S h n) ∧
  (∀ (d : Nat) (l0 l1 l2 l3 : Option mx_V) (v0 v1 v2 : mx_V) (S h : mx_H) (n : Int), mx_ex d 259 236 [l0, l1, l2, l3] [v0, v1, v2] S h n = mx_ex d 259 239 [l0, l1, l2, l3] [(1, 4294967295), v0, v1, v2] S h n) ∧
  (∀ (d : Nat) (b a : Int) (l0 l1 l2 l3 : Option mx_V) (v2 v3 : mx_V) (S h : mx_H) (n : Int), mx_ex d 259 239 [l0, l1, l2, l3] [(1, b), (1, a), v2, v3] S h n = mx_ex d 259 240 [l0, l1, l2, l3] [(1, ml_and a b), v2, v3] S h n) ∧
  (∀ (d : Nat) (b a : Int) (l0 l1 l2 l3 : Option mx_V) (v2 : mx_V) (S h : mx_H) (n : Int), mx_ex d 259 240 [l0, l1, l2, l3] [(1, b), (1, a), v2] S h n = mx_ex d 259 241 [l0, l1, l2, l3] [(1, ml_or a b), v2] S h n) ∧
  (∀ (d : Nat) (x : Int) (l1 l2 l3 : Option mx_V) (v0 v1 : mx_V) (S h : mx_H) (n : Int), mx_ex d 259 241 [some (2, x), l1, l2, l3] [v0, v1] S h n = mx_ex d 259 242 [some (2, x), l1, l2, l3] [(2, x), v0, v1] S h n) ∧
  (∀ (d : Nat) (x : Int) (l0 l1 l2 : Option mx_V) (v0 v1 v2 : mx_V) (S h : mx_H) (n : Int), mx_ex d 259 242 [l0, l1, l2, some (0, x)] [v0, v1, v2] S h n = mx_ex d 259 243 [l0, l1, l2, some (0, x)] [(0, x), v0, v1, v2] S h n) ∧
  (∀ (d : Nat) (l0 l1 l2 l3 : Option mx_V) (v0 v1 v2 v3 : mx_V) (S h : mx_H) (n : Int), mx_ex d 259 243 [l0, l1, l2, l3] [v0, v1, v2, v3] S h n = mx_ex d 259 244 [l0, l1, l2, l3] [(0, 3), v0, v1, v2, v3] S h n) ∧
  (∀ (d : Nat) (b a : Int) (l0 l1 l2 l3 : Option mx_V) (v2 v3 v4 : mx_V) (S h : mx_H) (n : Int), mx_ex d 259 244 [l0, l1, l2, l3] [(0, b), (0, a), v2, v3, v4] S h n = mx_ex d 259 245 [l0, l1, l2, l3] [(0, mx_w (a + b)), v2, v3, v4] S h n) ∧
  (∀ (d : Nat) (i a : Int) (l0 l1 l2 l3 : Option mx_V) (v2 v3 : mx_V) (S h : mx_H) (n : Int), mx_ex d 259 245 [l0, l1, l2, l3] [(0, i), (2, a), v2, v3] S h n = mx_gd ((S a (-2) = 20 ∨ S a (-2) = 24) ∧ 0 ≤ i ∧ i < S a (-1)) d 259 246 [l0, l1, l2, l3] [(0, h a i), v2, v3] S h n) ∧
  (∀ (d : Nat) (x0 x1 a : Int) (l0 l1 l2 l3 : Option mx_V) (S h : mx_H) (n : Int), mx_ex (d + 1) 259 246 [l0, l1, l2, l3] [(0, x0), (1, x1), (2, a)] S h n = mx_cl (S a (-2) = 7) d 101 [(2, a), (1, x1), (0, x0)] 259 249 [l0, l1, l2, l3] [] S h n) ∧
  (∀ (d : Nat) (x : Int) (l0 l1 l3 : Option mx_V) (v0 : mx_V) (S h : mx_H) (n : Int), mx_ex d 259 249 [l0, l1, some (2, x), l3] [v0] S h n = mx_ex d 259 250 [l0, l1, some (2, x), l3] [(2, x), v0] S h n) ∧
  (∀ (d : Nat) (x : Int) (l1 l2 l3 : Option mx_V) (v0 v1 : mx_V) (S h : mx_H) (n : Int), mx_ex d 259 250 [some (2, x), l1, l2, l3] [v0, v1] S h n = mx_ex d 259 251 [some (2, x), l1, l2, l3] [(2, x), v0, v1] S h n) ∧
  (∀ (d : Nat) (x : Int) (l0 l1 l2 : Option mx_V) (v0 v1 v2 : mx_V) (S h : mx_H) (n : Int), mx_ex d 259 251 [l0, l1, l2, some (0, x)] [v0, v1, v2] S h n = mx_ex d 259 252 [l0, l1, l2, some (0, x)] [(0, x), v0, v1, v2] S h n) ∧
  (∀ (d : Nat) (l0 l1 l2 l3 : Option mx_V) (v0 v1 v2 v3 : mx_V) (S h : mx_H) (n : Int), mx_ex d 259 252 [l0, l1, l2, l3] [v0, v1, v2, v3] S h n = mx_ex d 259 253 [l0, l1, l2, l3] [(0, 1), v0, v1, v2, v3] S h n) ∧
  (∀ (d : Nat) (b a : Int) (l0 l1 l2 l3 : Option mx_V) (v2 v3 v4 : mx_V) (S h : mx_H) (n : Int), mx_ex d 259 253 [l0, l1, l2, l3] [(0, b), (0, a), v2, v3, v4] S h n = mx_ex d 259 254 [l0, l1, l2, l3] [(0, mx_w (a + b)), v2, v3, v4] S h n) ∧
  (∀ (d : Nat) (i a : Int) (l0 l1 l2 l3 : Option mx_V) (v2 v3 : mx_V) (S h : mx_H) (n : Int), mx_ex d 259 254 [l0, l1, l2, l3] [(0, i), (2, a), v2, v3] S h n = mx_gd ((S a (-2) = 20 ∨ S a (-2) = 24) ∧ 0 ≤ i ∧ i < S a (-1)) d 259 255 [l0, l1, l2, l3] [(0, h a i), v2, v3] S h n) ∧
  (∀ (d : Nat) (a : Int) (l0 l1 l2 l3 : Option mx_V) (v1 v2 : mx_V) (S h : mx_H) (n : Int), mx_ex d 259 255 [l0, l1, l2, l3] [(0, a), v1, v2] S h n = mx_ex d 259 256 [l0, l1, l2, l3] [(1, a), v1, v2] S h n) ∧
  (∀ (d : Nat) (l0 l1 l2 l3 : Option mx_V) (v0 v1 v2 : mx_V) (S h : mx_H) (n : Int), mx_ex d 259 256 [l0, l1, l2, l3] [v0, v1, v2] S h n = mx_ex d 259 258 [l0, l1, l2, l3] [(0, 32), v0, v1, v2] S h n) ∧
  (∀ (d : Nat) (b a : Int) (l0 l1 l2 l3 : Option mx_V) (v2 v3 : mx_V) (S h : mx_H) (n : Int), mx_ex d 259 258 [l0, l1, l2, l3] [(0, b), (1, a), v2, v3] S h n = mx_ex d 259 259 [l0, l1, l2, l3] [(1, ml_shl a b), v2, v3] S h n) ∧
  (∀ (d : Nat) (x : Int) (l1 l2 l3 : Option mx_V) (v0 v1 v2 : mx_V) (S h : mx_H) (n : Int), mx_ex d 259 259 [some (2, x), l1, l2, l3] [v0, v1, v2] S h n = mx_ex d 259 260 [some (2, x), l1, l2, l3] [(2, x), v0, v1, v2] S h n) ∧
  (∀ (d : Nat) (x : Int) (l0 l1 l2 : Option mx_V) (v0 v1 v2 v3 : mx_V) (S h : mx_H) (n : Int), mx_ex d 259 260 [l0, l1, l2, some (0, x)] [v0, v1, v2, v3] S h n = mx_ex d 259 261 [l0, l1, l2, some (0, x)] [(0, x), v0, v1, v2, v3] S h n) ∧
  (∀ (d : Nat) (l0 l1 l2 l3 : Option mx_V) (v0 v1 v2 v3 v4 : mx_V) (S h : mx_H) (n : Int), mx_ex d 259 261 [l0, l1, l2, l3] [v0, v1, v2, v3, v4] S h n = mx_ex d 259 262 [l0, l1, l2, l3] [(0, 2), v0, v1, v2, v3, v4] S h n) ∧
  (∀ (d : Nat) (b a : Int) (l0 l1 l2 l3 : Option mx_V) (v2 v3 v4 v5 : mx_V) (S h : mx_H) (n : Int), mx_ex d 259 262 [l0, l1, l2, l3] [(0, b), (0, a), v2, v3, v4, v5] S h n = mx_ex d 259 263 [l0, l1, l2, l3] [(0, mx_w (a + b)), v2, v3, v4, v5] S h n) ∧
  (∀ (d : Nat) (i a : Int) (l0 l1 l2 l3 : Option mx_V) (v2 v3 v4 : mx_V) (S h : mx_H) (n : Int), mx_ex d 259 263 [l0, l1, l2, l3] [(0, i), (2, a), v2, v3, v4] S h n = mx_gd ((S a (-2) = 20 ∨ S a (-2) = 24) ∧ 0 ≤ i ∧ i < S a (-1)) d 259 264 [l0, l1, l2, l3] [(0, h a i), v2, v3, v4] S h n) ∧
  (∀ (d : Nat) (a : Int) (l0 l1 l2 l3 : Option mx_V) (v1 v2 v3 : mx_V) (S h : mx_H) (n : Int), mx_ex d 259 264 [l0, l1, l2, l3] [(0, a), v1, v2, v3] S h n = mx_ex d 259 265 [l0, l1, l2, l3] [(1, a), v1, v2, v3] S h n) ∧
  (∀ (d : Nat) (l0 l1 l2 l3 : Option mx_V) (v0 v1 v2 v3 : mx_V) (S h : mx_H) (n : Int), mx_ex d 259 265 [l0, l1, l2, l3] [v0, v1, v2, v3] S h n = mx_ex d 259 268 [l0, l1, l2, l3] [(1, 4294967295), v0, v1, v2, v3] S h n) ∧
  (∀ (d : Nat) (b a : Int) (l0 l1 l2 l3 : Option mx_V) (v2 v3 v4 : mx_V) (S h : mx_H) (n : Int), mx_ex d 259 268 [l0, l1, l2, l3] [(1, b), (1, a), v2, v3, v4] S h n = mx_ex d 259 269 [l0, l1, l2, l3] [(1, ml_and a b), v2, v3, v4] S h n) ∧
  (∀ (d : Nat) (b a : Int) (l0 l1 l2 l3 : Option mx_V) (v2 v3 : mx_V) (S h : mx_H) (n : Int), mx_ex d 259 269 [l0, l1, l2, l3] [(1, b), (1, a), v2, v3] S h n = mx_ex d 259 270 [l0, l1, l2, l3] [(1, ml_or a b), v2, v3] S h n) ∧
  (∀ (d : Nat) (x : Int) (l1 l2 l3 : Option mx_V) (v0 v1 v2 : mx_V) (S h : mx_H) (n : Int), mx_ex d 259 270 [some (2, x), l1, l2, l3] [v0, v1, v2] S h n = mx_ex d 259 271 [some (2, x), l1, l2, l3] [(2, x), v0, v1, v2] S h n) ∧
  (∀ (d : Nat) (x : Int) (l0 l1 l2 : Option mx_V) (v0 v1 v2 v3 : mx_V) (S h : mx_H) (n : Int), mx_ex d 259 271 [l0, l1, l2, some (0, x)] [v0, v1, v2, v3] S h n = mx_ex d 259 272 [l0, l1, l2, some (0, x)] [(0, x), v0, v1, v2, v3] S h n) ∧
  (∀ (d : Nat) (l0 l1 l2 l3 : Option mx_V) (v0 v1 v2 v3 v4 : mx_V) (S h : mx_H) (n : Int), mx_ex d 259 272 [l0, l1, l2, l3] [v0, v1, v2, v3, v4] S h n = mx_ex d 259 273 [l0, l1, l2, l3] [(0, 3), v0, v1, v2, v3, v4] S h n) ∧
  (∀ (d : Nat) (b a : Int) (l0 l1 l2 l3 : Option mx_V) (v2 v3 v4 v5 : mx_V) (S h : mx_H) (n : Int), mx_ex d 259 273 [l0, l1, l2, l3] [(0, b), (0, a), v2, v3, v4, v5] S h n = mx_ex d 259 274 [l0, l1, l2, l3] [(0, mx_w (a + b)), v2, v3, v4, v5] S h n) ∧
  (∀ (d : Nat) (i a : Int) (l0 l1 l2 l3 : Option mx_V) (v2 v3 v4 : mx_V) (S h : mx_H) (n : Int), mx_ex d 259 274 [l0, l1, l2, l3] [(0, i), (2, a), v2, v3, v4] S h n = mx_gd ((S a (-2) = 20 ∨ S a (-2) = 24) ∧ 0 ≤ i ∧ i < S a (-1)) d 259 275 [l0, l1, l2, l3] [(0, h a i), v2, v3, v4] S h n) ∧
  (∀ (d : Nat) (x0 x1 a : Int) (l0 l1 l2 l3 : Option mx_V) (v3 : mx_V) (S h : mx_H) (n : Int), mx_ex (d + 1) 259 275 [l0, l1, l2, l3] [(0, x0), (1, x1), (2, a), v3] S h n = mx_cl (S a (-2) = 13) d 165 [(2, a), (1, x1), (0, x0)] 259 278 [l0, l1, l2, l3] [v3] S h n) :=
  ⟨by intros; exact rfl,
   by intros; exact eq_new rfl,
   by intros; exact eq_dup rfl (by decide),
   by intros; exact eq_ci rfl (Nat.le_of_ble_eq_true rfl) rfl rfl rfl (Nat.le_of_ble_eq_true rfl),
   by intros; exact eq_st rfl (by decide) (Nat.le_of_ble_eq_true rfl) rfl,
   by intros; exact eq_new rfl,
   by intros; exact eq_dup rfl (by decide),
   by intros; exact eq_ci rfl (Nat.le_of_ble_eq_true rfl) rfl rfl rfl (Nat.le_of_ble_eq_true rfl),
   by intros; exact eq_st rfl (by decide) (Nat.le_of_ble_eq_true rfl) rfl,
   by intros; exact eq_push rfl,
   by intros; exact eq_st rfl (by decide) (Nat.le_of_ble_eq_true rfl) rfl,
   by intros; exact eq_ld rfl rfl,
   by intros; exact eq_alen rfl,
   by intros; exact eq_push rfl,
   by intros; exact eq_i2 (o := mx_sub) rfl,
   by intros; exact eq_ic4 rfl,
   by intros; exact eq_ld rfl rfl,
   by intros; exact eq_ld rfl rfl,
   by intros; exact eq_iald rfl,
   by intros; exact eq_push rfl,
   by intros; exact eq_i2 (o := mx_and) rfl,
   by intros; exact eq_sw rfl,
   by intros; exact eq_ld rfl rfl,
   by intros; exact eq_ld rfl rfl,
   by intros; exact eq_ld rfl rfl,
   by intros; exact eq_push rfl,
   by intros; exact eq_i2 (o := mx_add) rfl,
   by intros; exact eq_iald rfl,
   by intros; exact eq_i2l rfl,
   by intros; exact eq_push rfl,
   by intros; exact eq_ls (o := ml_shl) rfl,
   by intros; exact eq_ld rfl rfl,
   by intros; exact eq_ld rfl rfl,
   by intros; exact eq_push rfl,
   by intros; exact eq_i2 (o := mx_add) rfl,
   by intros; exact eq_iald rfl,
   by intros; exact eq_i2l rfl,
   by intros; exact eq_push rfl,
   by intros; exact eq_l2 (o := ml_and) rfl,
   by intros; exact eq_l2 (o := ml_or) rfl,
   by intros; exact eq_ld rfl rfl,
   by intros; exact eq_ld rfl rfl,
   by intros; exact eq_push rfl,
   by intros; exact eq_i2 (o := mx_add) rfl,
   by intros; exact eq_iald rfl,
   by intros; exact eq_cv rfl (Nat.le_of_ble_eq_true rfl) rfl rfl rfl (Nat.le_of_ble_eq_true rfl),
   by intros; exact eq_ld rfl rfl,
   by intros; exact eq_ld rfl rfl,
   by intros; exact eq_ld rfl rfl,
   by intros; exact eq_push rfl,
   by intros; exact eq_i2 (o := mx_add) rfl,
   by intros; exact eq_iald rfl,
   by intros; exact eq_i2l rfl,
   by intros; exact eq_push rfl,
   by intros; exact eq_ls (o := ml_shl) rfl,
   by intros; exact eq_ld rfl rfl,
   by intros; exact eq_ld rfl rfl,
   by intros; exact eq_push rfl,
   by intros; exact eq_i2 (o := mx_add) rfl,
   by intros; exact eq_iald rfl,
   by intros; exact eq_i2l rfl,
   by intros; exact eq_push rfl,
   by intros; exact eq_l2 (o := ml_and) rfl,
   by intros; exact eq_l2 (o := ml_or) rfl,
   by intros; exact eq_ld rfl rfl,
   by intros; exact eq_ld rfl rfl,
   by intros; exact eq_push rfl,
   by intros; exact eq_i2 (o := mx_add) rfl,
   by intros; exact eq_iald rfl,
   by intros; exact eq_cv rfl (Nat.le_of_ble_eq_true rfl) rfl rfl rfl (Nat.le_of_ble_eq_true rfl)⟩
theorem rw_L_law_1 :
  (∀ (d : Nat) (b a : Int) (l0 l1 l2 l3 : Option mx_V) (S h : mx_H) (n : Int), mx_ex d 259 278 [l0, l1, l2, l3] [(0, b), (0, a)] S h n = mx_br (a = b) d 259 1653 281 [l0, l1, l2, l3] [] S h n) ∧
  (∀ (d : Nat) (l0 l1 l2 l3 : Option mx_V) (S h : mx_H) (n : Int), mx_ex d 259 281 [l0, l1, l2, l3] [] S h n = mx_ex d 259 282 [l0, l1, l2, l3] [(0, 0)] S h n) ∧
  (∀ (d : Nat) (x : Int) (l0 l1 l2 l3 : Option mx_V) (S h : mx_H) (n : Int), mx_ex d 259 282 [l0, l1, l2, l3] [(0, x)] S h n = mx_re (0 ≤ x ∧ x ≤ 1) (some (0, x)) S h n) ∧
  (∀ (d : Nat) (x : Int) (l0 l2 l3 : Option mx_V) (S h : mx_H) (n : Int), mx_ex d 259 283 [l0, some (2, x), l2, l3] [] S h n = mx_ex d 259 284 [l0, some (2, x), l2, l3] [(2, x)] S h n) ∧
  (∀ (d : Nat) (a : Int) (l0 l1 l2 l3 : Option mx_V) (S h : mx_H) (n : Int), mx_ex (d + 1) 259 284 [l0, l1, l2, l3] [(2, a)] S h n = mx_cl (S a (-2) = 7) d 102 [(2, a)] 259 287 [l0, l1, l2, l3] [] S h n) ∧
  (∀ (d : Nat) (x : Int) (l0 l1 l3 : Option mx_V) (v0 : mx_V) (S h : mx_H) (n : Int), mx_ex d 259 287 [l0, l1, some (2, x), l3] [v0] S h n = mx_ex d 259 288 [l0, l1, some (2, x), l3] [(2, x), v0] S h n) ∧
  (∀ (d : Nat) (a : Int) (l0 l1 l2 l3 : Option mx_V) (v1 : mx_V) (S h : mx_H) (n : Int), mx_ex (d + 1) 259 288 [l0, l1, l2, l3] [(2, a), v1] S h n = mx_cl (S a (-2) = 13) d 176 [(2, a)] 259 291 [l0, l1, l2, l3] [v1] S h n) ∧
  (∀ (d : Nat) (b a : Int) (l0 l1 l2 l3 : Option mx_V) (S h : mx_H) (n : Int), mx_ex d 259 291 [l0, l1, l2, l3] [(0, b), (0, a)] S h n = mx_br (a = b) d 259 1653 294 [l0, l1, l2, l3] [] S h n) ∧
  (∀ (d : Nat) (l0 l1 l2 l3 : Option mx_V) (S h : mx_H) (n : Int), mx_ex d 259 294 [l0, l1, l2, l3] [] S h n = mx_ex d 259 295 [l0, l1, l2, l3] [(0, 0)] S h n) ∧
  (∀ (d : Nat) (x : Int) (l0 l1 l2 l3 : Option mx_V) (S h : mx_H) (n : Int), mx_ex d 259 295 [l0, l1, l2, l3] [(0, x)] S h n = mx_re (0 ≤ x ∧ x ≤ 1) (some (0, x)) S h n) ∧
  (∀ (d : Nat) (x : Int) (l0 l2 l3 : Option mx_V) (S h : mx_H) (n : Int), mx_ex d 259 296 [l0, some (2, x), l2, l3] [] S h n = mx_ex d 259 297 [l0, some (2, x), l2, l3] [(2, x)] S h n) ∧
  (∀ (d : Nat) (x : Int) (l1 l2 l3 : Option mx_V) (v0 : mx_V) (S h : mx_H) (n : Int), mx_ex d 259 297 [some (2, x), l1, l2, l3] [v0] S h n = mx_ex d 259 298 [some (2, x), l1, l2, l3] [(2, x), v0] S h n) ∧
  (∀ (d : Nat) (x : Int) (l0 l1 l2 : Option mx_V) (v0 v1 : mx_V) (S h : mx_H) (n : Int), mx_ex d 259 298 [l0, l1, l2, some (0, x)] [v0, v1] S h n = mx_ex d 259 299 [l0, l1, l2, some (0, x)] [(0, x), v0, v1] S h n) ∧
  (∀ (d : Nat) (l0 l1 l2 l3 : Option mx_V) (v0 v1 v2 : mx_V) (S h : mx_H) (n : Int), mx_ex d 259 299 [l0, l1, l2, l3] [v0, v1, v2] S h n = mx_ex d 259 300 [l0, l1, l2, l3] [(0, 1), v0, v1, v2] S h n) ∧
  (∀ (d : Nat) (b a : Int) (l0 l1 l2 l3 : Option mx_V) (v2 v3 : mx_V) (S h : mx_H) (n : Int), mx_ex d 259 300 [l0, l1, l2, l3] [(0, b), (0, a), v2, v3] S h n = mx_ex d 259 301 [l0, l1, l2, l3] [(0, mx_w (a + b)), v2, v3] S h n) ∧
  (∀ (d : Nat) (i a : Int) (l0 l1 l2 l3 : Option mx_V) (v2 : mx_V) (S h : mx_H) (n : Int), mx_ex d 259 301 [l0, l1, l2, l3] [(0, i), (2, a), v2] S h n = mx_gd ((S a (-2) = 20 ∨ S a (-2) = 24) ∧ 0 ≤ i ∧ i < S a (-1)) d 259 302 [l0, l1, l2, l3] [(0, h a i), v2] S h n) ∧
  (∀ (d : Nat) (x : Int) (l1 l2 l3 : Option mx_V) (v0 v1 : mx_V) (S h : mx_H) (n : Int), mx_ex d 259 302 [some (2, x), l1, l2, l3] [v0, v1] S h n = mx_ex d 259 303 [some (2, x), l1, l2, l3] [(2, x), v0, v1] S h n) ∧
  (∀ (d : Nat) (x : Int) (l0 l1 l2 : Option mx_V) (v0 v1 v2 : mx_V) (S h : mx_H) (n : Int), mx_ex d 259 303 [l0, l1, l2, some (0, x)] [v0, v1, v2] S h n = mx_ex d 259 304 [l0, l1, l2, some (0, x)] [(0, x), v0, v1, v2] S h n) ∧
  (∀ (d : Nat) (l0 l1 l2 l3 : Option mx_V) (v0 v1 v2 v3 : mx_V) (S h : mx_H) (n : Int), mx_ex d 259 304 [l0, l1, l2, l3] [v0, v1, v2, v3] S h n = mx_ex d 259 305 [l0, l1, l2, l3] [(0, 2), v0, v1, v2, v3] S h n) ∧
  (∀ (d : Nat) (b a : Int) (l0 l1 l2 l3 : Option mx_V) (v2 v3 v4 : mx_V) (S h : mx_H) (n : Int), mx_ex d 259 305 [l0, l1, l2, l3] [(0, b), (0, a), v2, v3, v4] S h n = mx_ex d 259 306 [l0, l1, l2, l3] [(0, mx_w (a + b)), v2, v3, v4] S h n) ∧
  (∀ (d : Nat) (i a : Int) (l0 l1 l2 l3 : Option mx_V) (v2 v3 : mx_V) (S h : mx_H) (n : Int), mx_ex d 259 306 [l0, l1, l2, l3] [(0, i), (2, a), v2, v3] S h n = mx_gd ((S a (-2) = 20 ∨ S a (-2) = 24) ∧ 0 ≤ i ∧ i < S a (-1)) d 259 307 [l0, l1, l2, l3] [(0, h a i), v2, v3] S h n) ∧
  (∀ (d : Nat) (x : Int) (l1 l2 l3 : Option mx_V) (v0 v1 v2 : mx_V) (S h : mx_H) (n : Int), mx_ex d 259 307 [some (2, x), l1, l2, l3] [v0, v1, v2] S h n = mx_ex d 259 308 [some (2, x), l1, l2, l3] [(2, x), v0, v1, v2] S h n) ∧
  (∀ (d : Nat) (x : Int) (l0 l1 l2 : Option mx_V) (v0 v1 v2 v3 : mx_V) (S h : mx_H) (n : Int), mx_ex d 259 308 [l0, l1, l2, some (0, x)] [v0, v1, v2, v3] S h n = mx_ex d 259 309 [l0, l1, l2, some (0, x)] [(0, x), v0, v1, v2, v3] S h n) ∧
  (∀ (d : Nat) (l0 l1 l2 l3 : Option mx_V) (v0 v1 v2 v3 v4 : mx_V) (S h : mx_H) (n : Int), mx_ex d 259 309 [l0, l1, l2, l3] [v0, v1, v2, v3, v4] S h n = mx_ex d 259 310 [l0, l1, l2, l3] [(0, 3), v0, v1, v2, v3, v4] S h n) ∧
  (∀ (d : Nat) (b a : Int) (l0 l1 l2 l3 : Option mx_V) (v2 v3 v4 v5 : mx_V) (S h : mx_H) (n : Int), mx_ex d 259 310 [l0, l1, l2, l3] [(0, b), (0, a), v2, v3, v4, v5] S h n = mx_ex d 259 311 [l0, l1, l2, l3] [(0, mx_w (a + b)), v2, v3, v4, v5] S h n) ∧
  (∀ (d : Nat) (i a : Int) (l0 l1 l2 l3 : Option mx_V) (v2 v3 v4 : mx_V) (S h : mx_H) (n : Int), mx_ex d 259 311 [l0, l1, l2, l3] [(0, i), (2, a), v2, v3, v4] S h n = mx_gd ((S a (-2) = 20 ∨ S a (-2) = 24) ∧ 0 ≤ i ∧ i < S a (-1)) d 259 312 [l0, l1, l2, l3] [(0, h a i), v2, v3, v4] S h n) ∧
  (∀ (d : Nat) (x0 x1 x2 a : Int) (l0 l1 l2 l3 : Option mx_V) (S h : mx_H) (n : Int), mx_ex (d + 1) 259 312 [l0, l1, l2, l3] [(0, x0), (0, x1), (0, x2), (2, a)] S h n = mx_cl (S a (-2) = 7) d 103 [(2, a), (0, x2), (0, x1), (0, x0)] 259 315 [l0, l1, l2, l3] [] S h n) ∧
  (∀ (d : Nat) (x : Int) (l0 l1 l3 : Option mx_V) (v0 : mx_V) (S h : mx_H) (n : Int), mx_ex d 259 315 [l0, l1, some (2, x), l3] [v0] S h n = mx_ex d 259 316 [l0, l1, some (2, x), l3] [(2, x), v0] S h n) ∧
  (∀ (d : Nat) (x : Int) (l1 l2 l3 : Option mx_V) (v0 v1 : mx_V) (S h : mx_H) (n : Int), mx_ex d 259 316 [some (2, x), l1, l2, l3] [v0, v1] S h n = mx_ex d 259 317 [some (2, x), l1, l2, l3] [(2, x), v0, v1] S h n) ∧
  (∀ (d : Nat) (x : Int) (l0 l1 l2 : Option mx_V) (v0 v1 v2 : mx_V) (S h : mx_H) (n : Int), mx_ex d 259 317 [l0, l1, l2, some (0, x)] [v0, v1, v2] S h n = mx_ex d 259 318 [l0, l1, l2, some (0, x)] [(0, x), v0, v1, v2] S h n) ∧
  (∀ (d : Nat) (l0 l1 l2 l3 : Option mx_V) (v0 v1 v2 v3 : mx_V) (S h : mx_H) (n : Int), mx_ex d 259 318 [l0, l1, l2, l3] [v0, v1, v2, v3] S h n = mx_ex d 259 319 [l0, l1, l2, l3] [(0, 1), v0, v1, v2, v3] S h n) ∧
  (∀ (d : Nat) (b a : Int) (l0 l1 l2 l3 : Option mx_V) (v2 v3 v4 : mx_V) (S h : mx_H) (n : Int), mx_ex d 259 319 [l0, l1, l2, l3] [(0, b), (0, a), v2, v3, v4] S h n = mx_ex d 259 320 [l0, l1, l2, l3] [(0, mx_w (a + b)), v2, v3, v4] S h n) ∧
  (∀ (d : Nat) (i a : Int) (l0 l1 l2 l3 : Option mx_V) (v2 v3 : mx_V) (S h : mx_H) (n : Int), mx_ex d 259 320 [l0, l1, l2, l3] [(0, i), (2, a), v2, v3] S h n = mx_gd ((S a (-2) = 20 ∨ S a (-2) = 24) ∧ 0 ≤ i ∧ i < S a (-1)) d 259 321 [l0, l1, l2, l3] [(0, h a i), v2, v3] S h n) ∧
  (∀ (d : Nat) (x : Int) (l1 l2 l3 : Option mx_V) (v0 v1 v2 : mx_V) (S h : mx_H) (n : Int), mx_ex d 259 321 [some (2, x), l1, l2, l3] [v0, v1, v2] S h n = mx_ex d 259 322 [some (2, x), l1, l2, l3] [(2, x), v0, v1, v2] S h n) ∧
  (∀ (d : Nat) (x : Int) (l0 l1 l2 : Option mx_V) (v0 v1 v2 v3 : mx_V) (S h : mx_H) (n : Int), mx_ex d 259 322 [l0, l1, l2, some (0, x)] [v0, v1, v2, v3] S h n = mx_ex d 259 323 [l0, l1, l2, some (0, x)] [(0, x), v0, v1, v2, v3] S h n) ∧
  (∀ (d : Nat) (l0 l1 l2 l3 : Option mx_V) (v0 v1 v2 v3 v4 : mx_V) (S h : mx_H) (n : Int), mx_ex d 259 323 [l0, l1, l2, l3] [v0, v1, v2, v3, v4] S h n = mx_ex d 259 324 [l0, l1, l2, l3] [(0, 2), v0, v1, v2, v3, v4] S h n) ∧
  (∀ (d : Nat) (b a : Int) (l0 l1 l2 l3 : Option mx_V) (v2 v3 v4 v5 : mx_V) (S h : mx_H) (n : Int), mx_ex d 259 324 [l0, l1, l2, l3] [(0, b), (0, a), v2, v3, v4, v5] S h n = mx_ex d 259 325 [l0, l1, l2, l3] [(0, mx_w (a + b)), v2, v3, v4, v5] S h n) ∧
  (∀ (d : Nat) (i a : Int) (l0 l1 l2 l3 : Option mx_V) (v2 v3 v4 : mx_V) (S h : mx_H) (n : Int), mx_ex d 259 325 [l0, l1, l2, l3] [(0, i), (2, a), v2, v3, v4] S h n = mx_gd ((S a (-2) = 20 ∨ S a (-2) = 24) ∧ 0 ≤ i ∧ i < S a (-1)) d 259 326 [l0, l1, l2, l3] [(0, h a i), v2, v3, v4] S h n) ∧
  (∀ (d : Nat) (x : Int) (l1 l2 l3 : Option mx_V) (v0 v1 v2 v3 : mx_V) (S h : mx_H) (n : Int), mx_ex d 259 326 [some (2, x), l1, l2, l3] [v0, v1, v2, v3] S h n = mx_ex d 259 327 [some (2, x), l1, l2, l3] [(2, x), v0, v1, v2, v3] S h n) ∧
  (∀ (d : Nat) (x : Int) (l0 l1 l2 : Option mx_V) (v0 v1 v2 v3 v4 : mx_V) (S h : mx_H) (n : Int), mx_ex d 259 327 [l0, l1, l2, some (0, x)] [v0, v1, v2, v3, v4] S h n = mx_ex d 259 328 [l0, l1, l2, some (0, x)] [(0, x), v0, v1, v2, v3, v4] S h n) ∧
  (∀ (d : Nat) (l0 l1 l2 l3 : Option mx_V) (v0 v1 v2 v3 v4 v5 : mx_V) (S h : mx_H) (n : Int), mx_ex d 259 328 [l0, l1, l2, l3] [v0, v1, v2, v3, v4, v5] S h n = mx_ex d 259 329 [l0, l1, l2, l3] [(0, 3), v0, v1, v2, v3, v4, v5] S h n) ∧
  (∀ (d : Nat) (b a : Int) (l0 l1 l2 l3 : Option mx_V) (v2 v3 v4 v5 v6 : mx_V) (S h : mx_H) (n : Int), mx_ex d 259 329 [l0, l1, l2, l3] [(0, b), (0, a), v2, v3, v4, v5, v6] S h n = mx_ex d 259 330 [l0, l1, l2, l3] [(0, mx_w (a + b)), v2, v3, v4, v5, v6] S h n) ∧
  (∀ (d : Nat) (i a : Int) (l0 l1 l2 l3 : Option mx_V) (v2 v3 v4 v5 : mx_V) (S h : mx_H) (n : Int), mx_ex d 259 330 [l0, l1, l2, l3] [(0, i), (2, a), v2, v3, v4, v5] S h n = mx_gd ((S a (-2) = 20 ∨ S a (-2) = 24) ∧ 0 ≤ i ∧ i < S a (-1)) d 259 331 [l0, l1, l2, l3] [(0, h a i), v2, v3, v4, v5] S h n) ∧
  (∀ (d : Nat) (x0 x1 x2 a : Int) (l0 l1 l2 l3 : Option mx_V) (v4 : mx_V) (S h : mx_H) (n : Int), mx_ex (d + 1) 259 331 [l0, l1, l2, l3] [(0, x0), (0, x1), (0, x2), (2, a), v4] S h n = mx_cl (S a (-2) = 13) d 177 [(2, a), (0, x2), (0, x1), (0, x0)] 259 334 [l0, l1, l2, l3] [v4] S h n) ∧
  (∀ (d : Nat) (b a : Int) (l0 l1 l2 l3 : Option mx_V) (S h : mx_H) (n : Int), mx_ex d 259 334 [l0, l1, l2, l3] [(0, b), (0, a)] S h n = mx_br (a = b) d 259 1653 337 [l0, l1, l2, l3] [] S h n) ∧
  (∀ (d : Nat) (l0 l1 l2 l3 : Option mx_V) (S h : mx_H) (n : Int), mx_ex d 259 337 [l0, l1, l2, l3] [] S h n = mx_ex d 259 338 [l0, l1, l2, l3] [(0, 0)] S h n) ∧
  (∀ (d : Nat) (x : Int) (l0 l1 l2 l3 : Option mx_V) (S h : mx_H) (n : Int), mx_ex d 259 338 [l0, l1, l2, l3] [(0, x)] S h n = mx_re (0 ≤ x ∧ x ≤ 1) (some (0, x)) S h n) ∧
  (∀ (d : Nat) (x : Int) (l0 l2 l3 : Option mx_V) (S h : mx_H) (n : Int), mx_ex d 259 339 [l0, some (2, x), l2, l3] [] S h n = mx_ex d 259 340 [l0, some (2, x), l2, l3] [(2, x)] S h n) ∧
  (∀ (d : Nat) (x : Int) (l1 l2 l3 : Option mx_V) (v0 : mx_V) (S h : mx_H) (n : Int), mx_ex d 259 340 [some (2, x), l1, l2, l3] [v0] S h n = mx_ex d 259 341 [some (2, x), l1, l2, l3] [(2, x), v0] S h n) ∧
  (∀ (d : Nat) (x : Int) (l0 l1 l2 : Option mx_V) (v0 v1 : mx_V) (S h : mx_H) (n : Int), mx_ex d 259 341 [l0, l1, l2, some (0, x)] [v0, v1] S h n = mx_ex d 259 342 [l0, l1, l2, some (0, x)] [(0, x), v0, v1] S h n) ∧
  (∀ (d : Nat) (l0 l1 l2 l3 : Option mx_V) (v0 v1 v2 : mx_V) (S h : mx_H) (n : Int), mx_ex d 259 342 [l0, l1, l2, l3] [v0, v1, v2] S h n = mx_ex d 259 343 [l0, l1, l2, l3] [(0, 1), v0, v1, v2] S h n) ∧
  (∀ (d : Nat) (b a : Int) (l0 l1 l2 l3 : Option mx_V) (v2 v3 : mx_V) (S h : mx_H) (n : Int), mx_ex d 259 343 [l0, l1, l2, l3] [(0, b), (0, a), v2, v3] S h n = mx_ex d 259 344 [l0, l1, l2, l3] [(0, mx_w (a + b)), v2, v3] S h n) ∧
  (∀ (d : Nat) (i a : Int) (l0 l1 l2 l3 : Option mx_V) (v2 : mx_V) (S h : mx_H) (n : Int), mx_ex d 259 344 [l0, l1, l2, l3] [(0, i), (2, a), v2] S h n = mx_gd ((S a (-2) = 20 ∨ S a (-2) = 24) ∧ 0 ≤ i ∧ i < S a (-1)) d 259 345 [l0, l1, l2, l3] [(0, h a i), v2] S h n) ∧
  (∀ (d : Nat) (x : Int) (l1 l2 l3 : Option mx_V) (v0 v1 : mx_V) (S h : mx_H) (n : Int), mx_ex d 259 345 [some (2, x), l1, l2, l3] [v0, v1] S h n = mx_ex d 259 346 [some (2, x), l1, l2, l3] [(2, x), v0, v1] S h n) ∧
  (∀ (d : Nat) (x : Int) (l0 l1 l2 : Option mx_V) (v0 v1 v2 : mx_V) (S h : mx_H) (n : Int), mx_ex d 259 346 [l0, l1, l2, some (0, x)] [v0, v1, v2] S h n = mx_ex d 259 347 [l0, l1, l2, some (0, x)] [(0, x), v0, v1, v2] S h n) ∧
  (∀ (d : Nat) (l0 l1 l2 l3 : Option mx_V) (v0 v1 v2 v3 : mx_V) (S h : mx_H) (n : Int), mx_ex d 259 347 [l0, l1, l2, l3] [v0, v1, v2, v3] S h n = mx_ex d 259 348 [l0, l1, l2, l3] [(0, 2), v0, v1, v2, v3] S h n) ∧
  (∀ (d : Nat) (b a : Int) (l0 l1 l2 l3 : Option mx_V) (v2 v3 v4 : mx_V) (S h : mx_H) (n : Int), mx_ex d 259 348 [l0, l1, l2, l3] [(0, b), (0, a), v2, v3, v4] S h n = mx_ex d 259 349 [l0, l1, l2, l3] [(0, mx_w (a + b)), v2, v3, v4] S h n) ∧
  (∀ (d : Nat) (i a : Int) (l0 l1 l2 l3 : Option mx_V) (v2 v3 : mx_V) (S h : mx_H) (n : Int), mx_ex d 259 349 [l0, l1, l2, l3] [(0, i), (2, a), v2, v3] S h n = mx_gd ((S a (-2) = 20 ∨ S a (-2) = 24) ∧ 0 ≤ i ∧ i < S a (-1)) d 259 350 [l0, l1, l2, l3] [(0, h a i), v2, v3] S h n) ∧
  (∀ (d : Nat) (x0 x1 a : Int) (l0 l1 l2 l3 : Option mx_V) (S h : mx_H) (n : Int), mx_ex (d + 1) 259 350 [l0, l1, l2, l3] [(0, x0), (0, x1), (2, a)] S h n = mx_cl (S a (-2) = 7) d 104 [(2, a), (0, x1), (0, x0)] 259 353 [l0, l1, l2, l3] [] S h n) ∧
  (∀ (d : Nat) (x : Int) (l0 l1 l3 : Option mx_V) (v0 : mx_V) (S h : mx_H) (n : Int), mx_ex d 259 353 [l0, l1, some (2, x), l3] [v0] S h n = mx_ex d 259 354 [l0, l1, some (2, x), l3] [(2, x), v0] S h n) ∧
  (∀ (d : Nat) (x : Int) (l1 l2 l3 : Option mx_V) (v0 v1 : mx_V) (S h : mx_H) (n : Int), mx_ex d 259 354 [some (2, x), l1, l2, l3] [v0, v1] S h n = mx_ex d 259 355 [some (2, x), l1, l2, l3] [(2, x), v0, v1] S h n) ∧
  (∀ (d : Nat) (x : Int) (l0 l1 l2 : Option mx_V) (v0 v1 v2 : mx_V) (S h : mx_H) (n : Int), mx_ex d 259 355 [l0, l1, l2, some (0, x)] [v0, v1, v2] S h n = mx_ex d 259 356 [l0, l1, l2, some (0, x)] [(0, x), v0, v1, v2] S h n) ∧
  (∀ (d : Nat) (l0 l1 l2 l3 : Option mx_V) (v0 v1 v2 v3 : mx_V) (S h : mx_H) (n : Int), mx_ex d 259 356 [l0, l1, l2, l3] [v0, v1, v2, v3] S h n = mx_ex d 259 357 [l0, l1, l2, l3] [(0, 1), v0, v1, v2, v3] S h n) ∧
  (∀ (d : Nat) (b a : Int) (l0 l1 l2 l3 : Option mx_V) (v2 v3 v4 : mx_V) (S h : mx_H) (n : Int), mx_ex d 259 357 [l0, l1, l2, l3] [(0, b), (0, a), v2, v3, v4] S h n = mx_ex d 259 358 [l0, l1, l2, l3] [(0, mx_w (a + b)), v2, v3, v4] S h n) ∧
  (∀ (d : Nat) (i a : Int) (l0 l1 l2 l3 : Option mx_V) (v2 v3 : mx_V) (S h : mx_H) (n : Int), mx_ex d 259 358 [l0, l1, l2, l3] [(0, i), (2, a), v2, v3] S h n = mx_gd ((S a (-2) = 20 ∨ S a (-2) = 24) ∧ 0 ≤ i ∧ i < S a (-1)) d 259 359 [l0, l1, l2, l3] [(0, h a i), v2, v3] S h n) ∧
  (∀ (d : Nat) (x : Int) (l1 l2 l3 : Option mx_V) (v0 v1 v2 : mx_V) (S h : mx_H) (n : Int), mx_ex d 259 359 [some (2, x), l1, l2, l3] [v0, v1, v2] S h n = mx_ex d 259 360 [some (2, x), l1, l2, l3] [(2, x), v0, v1, v2] S h n) ∧
  (∀ (d : Nat) (x : Int) (l0 l1 l2 : Option mx_V) (v0 v1 v2 v3 : mx_V) (S h : mx_H) (n : Int), mx_ex d 259 360 [l0, l1, l2, some (0, x)] [v0, v1, v2, v3] S h n = mx_ex d 259 361 [l0, l1, l2, some (0, x)] [(0, x), v0, v1, v2, v3] S h n) ∧
  (∀ (d : Nat) (l0 l1 l2 l3 : Option mx_V) (v0 v1 v2 v3 v4 : mx_V) (S h : mx_H) (n : Int), mx_ex d 259 361 [l0, l1, l2, l3] [v0, v1, v2, v3, v4] S h n = mx_ex d 259 362 [l0, l1, l2, l3] [(0, 2), v0, v1, v2, v3, v4] S h n) ∧
  (∀ (d : Nat) (b a : Int) (l0 l1 l2 l3 : Option mx_V) (v2 v3 v4 v5 : mx_V) (S h : mx_H) (n : Int), mx_ex d 259 362 [l0, l1, l2, l3] [(0, b), (0, a), v2, v3, v4, v5] S h n = mx_ex d 259 363 [l0, l1, l2, l3] [(0, mx_w (a + b)), v2, v3, v4, v5] S h n) ∧
  (∀ (d : Nat) (i a : Int) (l0 l1 l2 l3 : Option mx_V) (v2 v3 v4 : mx_V) (S h : mx_H) (n : Int), mx_ex d 259 363 [l0, l1, l2, l3] [(0, i), (2, a), v2, v3, v4] S h n = mx_gd ((S a (-2) = 20 ∨ S a (-2) = 24) ∧ 0 ≤ i ∧ i < S a (-1)) d 259 364 [l0, l1, l2, l3] [(0, h a i), v2, v3, v4] S h n) :=
  ⟨by intros; exact eq_ic0 rfl,
   by intros; exact eq_push rfl,
   by intros; exact eq_rr rfl,
   by intros; exact eq_ld rfl rfl,
   by intros; exact eq_cv rfl (Nat.le_of_ble_eq_true rfl) rfl rfl rfl (Nat.le_of_ble_eq_true rfl),
   by intros; exact eq_ld rfl rfl,
   by intros; exact eq_cv rfl (Nat.le_of_ble_eq_true rfl) rfl rfl rfl (Nat.le_of_ble_eq_true rfl),
   by intros; exact eq_ic0 rfl,
   by intros; exact eq_push rfl,
   by intros; exact eq_rr rfl,
   by intros; exact eq_ld rfl rfl,
   by intros; exact eq_ld rfl rfl,
   by intros; exact eq_ld rfl rfl,
   by intros; exact eq_push rfl,
   by intros; exact eq_i2 (o := mx_add) rfl,
   by intros; exact eq_iald rfl,
   by intros; exact eq_ld rfl rfl,
   by intros; exact eq_ld rfl rfl,
   by intros; exact eq_push rfl,
   by intros; exact eq_i2 (o := mx_add) rfl,
   by intros; exact eq_iald rfl,
   by intros; exact eq_ld rfl rfl,
   by intros; exact eq_ld rfl rfl,
   by intros; exact eq_push rfl,
   by intros; exact eq_i2 (o := mx_add) rfl,
   by intros; exact eq_iald rfl,
   by intros; exact eq_cv rfl (Nat.le_of_ble_eq_true rfl) rfl rfl rfl (Nat.le_of_ble_eq_true rfl),
   by intros; exact eq_ld rfl rfl,
   by intros; exact eq_ld rfl rfl,
   by intros; exact eq_ld rfl rfl,
   by intros; exact eq_push rfl,
   by intros; exact eq_i2 (o := mx_add) rfl,
   by intros; exact eq_iald rfl,
   by intros; exact eq_ld rfl rfl,
   by intros; exact eq_ld rfl rfl,
   by intros; exact eq_push rfl,
   by intros; exact eq_i2 (o := mx_add) rfl,
   by intros; exact eq_iald rfl,
   by intros; exact eq_ld rfl rfl,
   by intros; exact eq_ld rfl rfl,
   by intros; exact eq_push rfl,
   by intros; exact eq_i2 (o := mx_add) rfl,
   by intros; exact eq_iald rfl,
   by intros; exact eq_cv rfl (Nat.le_of_ble_eq_true rfl) rfl rfl rfl (Nat.le_of_ble_eq_true rfl),
   by intros; exact eq_ic0 rfl,
   by intros; exact eq_push rfl,
   by intros; exact eq_rr rfl,
   by intros; exact eq_ld rfl rfl,
   by intros; exact eq_ld rfl rfl,
   by intros; exact eq_ld rfl rfl,
   by intros; exact eq_push rfl,
   by intros; exact eq_i2 (o := mx_add) rfl,
   by intros; exact eq_iald rfl,
   by intros; exact eq_ld rfl rfl,
   by intros; exact eq_ld rfl rfl,
   by intros; exact eq_push rfl,
   by intros; exact eq_i2 (o := mx_add) rfl,
   by intros; exact eq_iald rfl,
   by intros; exact eq_cv rfl (Nat.le_of_ble_eq_true rfl) rfl rfl rfl (Nat.le_of_ble_eq_true rfl),
   by intros; exact eq_ld rfl rfl,
   by intros; exact eq_ld rfl rfl,
   by intros; exact eq_ld rfl rfl,
   by intros; exact eq_push rfl,
   by intros; exact eq_i2 (o := mx_add) rfl,
   by intros; exact eq_iald rfl,
   by intros; exact eq_ld rfl rfl,
   by intros; exact eq_ld rfl rfl,
   by intros; exact eq_push rfl,
   by intros; exact eq_i2 (o := mx_add) rfl,
   by intros; exact eq_iald rfl⟩
theorem rw_L_law_2 :
  (∀ (d : Nat) (x0 x1 a : Int) (l0 l1 l2 l3 : Option mx_V) (v3 : mx_V) (S h : mx_H) (n : Int), mx_ex (d + 1) 259 364 [l0, l1, l2, l3] [(0, x0), (0, x1), (2, a), v3] S h n = mx_cl (S a (-2) = 13) d 178 [(2, a), (0, x1), (0, x0)] 259 367 [l0, l1, l2, l3] [v3] S h n) ∧
  (∀ (d : Nat) (b a : Int) (l0 l1 l2 l3 : Option mx_V) (S h : mx_H) (n : Int), mx_ex d 259 367 [l0, l1, l2, l3] [(0, b), (0, a)] S h n = mx_br (a = b) d 259 1653 370 [l0, l1, l2, l3] [] S h n) ∧
  (∀ (d : Nat) (l0 l1 l2 l3 : Option mx_V) (S h : mx_H) (n : Int), mx_ex d 259 370 [l0, l1, l2, l3] [] S h n = mx_ex d 259 371 [l0, l1, l2, l3] [(0, 0)] S h n) ∧
  (∀ (d : Nat) (x : Int) (l0 l1 l2 l3 : Option mx_V) (S h : mx_H) (n : Int), mx_ex d 259 371 [l0, l1, l2, l3] [(0, x)] S h n = mx_re (0 ≤ x ∧ x ≤ 1) (some (0, x)) S h n) ∧
  (∀ (d : Nat) (x : Int) (l0 l2 l3 : Option mx_V) (S h : mx_H) (n : Int), mx_ex d 259 372 [l0, some (2, x), l2, l3] [] S h n = mx_ex d 259 373 [l0, some (2, x), l2, l3] [(2, x)] S h n) ∧
  (∀ (d : Nat) (x : Int) (l1 l2 l3 : Option mx_V) (v0 : mx_V) (S h : mx_H) (n : Int), mx_ex d 259 373 [some (2, x), l1, l2, l3] [v0] S h n = mx_ex d 259 374 [some (2, x), l1, l2, l3] [(2, x), v0] S h n) ∧
  (∀ (d : Nat) (x : Int) (l0 l1 l2 : Option mx_V) (v0 v1 : mx_V) (S h : mx_H) (n : Int), mx_ex d 259 374 [l0, l1, l2, some (0, x)] [v0, v1] S h n = mx_ex d 259 375 [l0, l1, l2, some (0, x)] [(0, x), v0, v1] S h n) ∧
  (∀ (d : Nat) (l0 l1 l2 l3 : Option mx_V) (v0 v1 v2 : mx_V) (S h : mx_H) (n : Int), mx_ex d 259 375 [l0, l1, l2, l3] [v0, v1, v2] S h n = mx_ex d 259 376 [l0, l1, l2, l3] [(0, 1), v0, v1, v2] S h n) ∧
  (∀ (d : Nat) (b a : Int) (l0 l1 l2 l3 : Option mx_V) (v2 v3 : mx_V) (S h : mx_H) (n : Int), mx_ex d 259 376 [l0, l1, l2, l3] [(0, b), (0, a), v2, v3] S h n = mx_ex d 259 377 [l0, l1, l2, l3] [(0, mx_w (a + b)), v2, v3] S h n) ∧
  (∀ (d : Nat) (i a : Int) (l0 l1 l2 l3 : Option mx_V) (v2 : mx_V) (S h : mx_H) (n : Int), mx_ex d 259 377 [l0, l1, l2, l3] [(0, i), (2, a), v2] S h n = mx_gd ((S a (-2) = 20 ∨ S a (-2) = 24) ∧ 0 ≤ i ∧ i < S a (-1)) d 259 378 [l0, l1, l2, l3] [(0, h a i), v2] S h n) ∧
  (∀ (d : Nat) (x : Int) (l1 l2 l3 : Option mx_V) (v0 v1 : mx_V) (S h : mx_H) (n : Int), mx_ex d 259 378 [some (2, x), l1, l2, l3] [v0, v1] S h n = mx_ex d 259 379 [some (2, x), l1, l2, l3] [(2, x), v0, v1] S h n) ∧
  (∀ (d : Nat) (x : Int) (l0 l1 l2 : Option mx_V) (v0 v1 v2 : mx_V) (S h : mx_H) (n : Int), mx_ex d 259 379 [l0, l1, l2, some (0, x)] [v0, v1, v2] S h n = mx_ex d 259 380 [l0, l1, l2, some (0, x)] [(0, x), v0, v1, v2] S h n) ∧
  (∀ (d : Nat) (l0 l1 l2 l3 : Option mx_V) (v0 v1 v2 v3 : mx_V) (S h : mx_H) (n : Int), mx_ex d 259 380 [l0, l1, l2, l3] [v0, v1, v2, v3] S h n = mx_ex d 259 381 [l0, l1, l2, l3] [(0, 2), v0, v1, v2, v3] S h n) ∧
  (∀ (d : Nat) (b a : Int) (l0 l1 l2 l3 : Option mx_V) (v2 v3 v4 : mx_V) (S h : mx_H) (n : Int), mx_ex d 259 381 [l0, l1, l2, l3] [(0, b), (0, a), v2, v3, v4] S h n = mx_ex d 259 382 [l0, l1, l2, l3] [(0, mx_w (a + b)), v2, v3, v4] S h n) ∧
  (∀ (d : Nat) (i a : Int) (l0 l1 l2 l3 : Option mx_V) (v2 v3 : mx_V) (S h : mx_H) (n : Int), mx_ex d 259 382 [l0, l1, l2, l3] [(0, i), (2, a), v2, v3] S h n = mx_gd ((S a (-2) = 20 ∨ S a (-2) = 24) ∧ 0 ≤ i ∧ i < S a (-1)) d 259 383 [l0, l1, l2, l3] [(0, h a i), v2, v3] S h n) ∧
  (∀ (d : Nat) (x : Int) (l1 l2 l3 : Option mx_V) (v0 v1 v2 : mx_V) (S h : mx_H) (n : Int), mx_ex d 259 383 [some (2, x), l1, l2, l3] [v0, v1, v2] S h n = mx_ex d 259 384 [some (2, x), l1, l2, l3] [(2, x), v0, v1, v2] S h n) ∧
  (∀ (d : Nat) (x : Int) (l0 l1 l2 : Option mx_V) (v0 v1 v2 v3 : mx_V) (S h : mx_H) (n : Int), mx_ex d 259 384 [l0, l1, l2, some (0, x)] [v0, v1, v2, v3] S h n = mx_ex d 259 385 [l0, l1, l2, some (0, x)] [(0, x), v0, v1, v2, v3] S h n) ∧
  (∀ (d : Nat) (l0 l1 l2 l3 : Option mx_V) (v0 v1 v2 v3 v4 : mx_V) (S h : mx_H) (n : Int), mx_ex d 259 385 [l0, l1, l2, l3] [v0, v1, v2, v3, v4] S h n = mx_ex d 259 386 [l0, l1, l2, l3] [(0, 3), v0, v1, v2, v3, v4] S h n) ∧
  (∀ (d : Nat) (b a : Int) (l0 l1 l2 l3 : Option mx_V) (v2 v3 v4 v5 : mx_V) (S h : mx_H) (n : Int), mx_ex d 259 386 [l0, l1, l2, l3] [(0, b), (0, a), v2, v3, v4, v5] S h n = mx_ex d 259 387 [l0, l1, l2, l3] [(0, mx_w (a + b)), v2, v3, v4, v5] S h n) ∧
  (∀ (d : Nat) (i a : Int) (l0 l1 l2 l3 : Option mx_V) (v2 v3 v4 : mx_V) (S h : mx_H) (n : Int), mx_ex d 259 387 [l0, l1, l2, l3] [(0, i), (2, a), v2, v3, v4] S h n = mx_gd ((S a (-2) = 20 ∨ S a (-2) = 24) ∧ 0 ≤ i ∧ i < S a (-1)) d 259 388 [l0, l1, l2, l3] [(0, h a i), v2, v3, v4] S h n) ∧
  (∀ (d : Nat) (x : Int) (l1 l2 l3 : Option mx_V) (v0 v1 v2 v3 : mx_V) (S h : mx_H) (n : Int), mx_ex d 259 388 [some (2, x), l1, l2, l3] [v0, v1, v2, v3] S h n = mx_ex d 259 389 [some (2, x), l1, l2, l3] [(2, x), v0, v1, v2, v3] S h n) ∧
  (∀ (d : Nat) (x : Int) (l0 l1 l2 : Option mx_V) (v0 v1 v2 v3 v4 : mx_V) (S h : mx_H) (n : Int), mx_ex d 259 389 [l0, l1, l2, some (0, x)] [v0, v1, v2, v3, v4] S h n = mx_ex d 259 390 [l0, l1, l2, some (0, x)] [(0, x), v0, v1, v2, v3, v4] S h n) ∧
  (∀ (d : Nat) (l0 l1 l2 l3 : Option mx_V) (v0 v1 v2 v3 v4 v5 : mx_V) (S h : mx_H) (n : Int), mx_ex d 259 390 [l0, l1, l2, l3] [v0, v1, v2, v3, v4, v5] S h n = mx_ex d 259 391 [l0, l1, l2, l3] [(0, 4), v0, v1, v2, v3, v4, v5] S h n) ∧
  (∀ (d : Nat) (b a : Int) (l0 l1 l2 l3 : Option mx_V) (v2 v3 v4 v5 v6 : mx_V) (S h : mx_H) (n : Int), mx_ex d 259 391 [l0, l1, l2, l3] [(0, b), (0, a), v2, v3, v4, v5, v6] S h n = mx_ex d 259 392 [l0, l1, l2, l3] [(0, mx_w (a + b)), v2, v3, v4, v5, v6] S h n) ∧
  (∀ (d : Nat) (i a : Int) (l0 l1 l2 l3 : Option mx_V) (v2 v3 v4 v5 : mx_V) (S h : mx_H) (n : Int), mx_ex d 259 392 [l0, l1, l2, l3] [(0, i), (2, a), v2, v3, v4, v5] S h n = mx_gd ((S a (-2) = 20 ∨ S a (-2) = 24) ∧ 0 ≤ i ∧ i < S a (-1)) d 259 393 [l0, l1, l2, l3] [(0, h a i), v2, v3, v4, v5] S h n) ∧
  (∀ (d : Nat) (x : Int) (l1 l2 l3 : Option mx_V) (v0 v1 v2 v3 v4 : mx_V) (S h : mx_H) (n : Int), mx_ex d 259 393 [some (2, x), l1, l2, l3] [v0, v1, v2, v3, v4] S h n = mx_ex d 259 394 [some (2, x), l1, l2, l3] [(2, x), v0, v1, v2, v3, v4] S h n) ∧
  (∀ (d : Nat) (x : Int) (l0 l1 l2 : Option mx_V) (v0 v1 v2 v3 v4 v5 : mx_V) (S h : mx_H) (n : Int), mx_ex d 259 394 [l0, l1, l2, some (0, x)] [v0, v1, v2, v3, v4, v5] S h n = mx_ex d 259 395 [l0, l1, l2, some (0, x)] [(0, x), v0, v1, v2, v3, v4, v5] S h n) ∧
  (∀ (d : Nat) (l0 l1 l2 l3 : Option mx_V) (v0 v1 v2 v3 v4 v5 v6 : mx_V) (S h : mx_H) (n : Int), mx_ex d 259 395 [l0, l1, l2, l3] [v0, v1, v2, v3, v4, v5, v6] S h n = mx_ex d 259 396 [l0, l1, l2, l3] [(0, 5), v0, v1, v2, v3, v4, v5, v6] S h n) ∧
  (∀ (d : Nat) (b a : Int) (l0 l1 l2 l3 : Option mx_V) (v2 v3 v4 v5 v6 v7 : mx_V) (S h : mx_H) (n : Int), mx_ex d 259 396 [l0, l1, l2, l3] [(0, b), (0, a), v2, v3, v4, v5, v6, v7] S h n = mx_ex d 259 397 [l0, l1, l2, l3] [(0, mx_w (a + b)), v2, v3, v4, v5, v6, v7] S h n) ∧
  (∀ (d : Nat) (i a : Int) (l0 l1 l2 l3 : Option mx_V) (v2 v3 v4 v5 v6 : mx_V) (S h : mx_H) (n : Int), mx_ex d 259 397 [l0, l1, l2, l3] [(0, i), (2, a), v2, v3, v4, v5, v6] S h n = mx_gd ((S a (-2) = 20 ∨ S a (-2) = 24) ∧ 0 ≤ i ∧ i < S a (-1)) d 259 398 [l0, l1, l2, l3] [(0, h a i), v2, v3, v4, v5, v6] S h n) ∧
  (∀ (d : Nat) (x0 x1 x2 x3 x4 a : Int) (l0 l1 l2 l3 : Option mx_V) (S h : mx_H) (n : Int), mx_ex (d + 1) 259 398 [l0, l1, l2, l3] [(0, x0), (0, x1), (0, x2), (0, x3), (0, x4), (2, a)] S h n = mx_cl (S a (-2) = 7) d 105 [(2, a), (0, x4), (0, x3), (0, x2), (0, x1), (0, x0)] 259 401 [l0, l1, l2, l3] [] S h n) ∧
  (∀ (d : Nat) (x : Int) (l0 l1 l3 : Option mx_V) (v0 : mx_V) (S h : mx_H) (n : Int), mx_ex d 259 401 [l0, l1, some (2, x), l3] [v0] S h n = mx_ex d 259 402 [l0, l1, some (2, x), l3] [(2, x), v0] S h n) ∧
  (∀ (d : Nat) (x : Int) (l1 l2 l3 : Option mx_V) (v0 v1 : mx_V) (S h : mx_H) (n : Int), mx_ex d 259 402 [some (2, x), l1, l2, l3] [v0, v1] S h n = mx_ex d 259 403 [some (2, x), l1, l2, l3] [(2, x), v0, v1] S h n) ∧
  (∀ (d : Nat) (x : Int) (l0 l1 l2 : Option mx_V) (v0 v1 v2 : mx_V) (S h : mx_H) (n : Int), mx_ex d 259 403 [l0, l1, l2, some (0, x)] [v0, v1, v2] S h n = mx_ex d 259 404 [l0, l1, l2, some (0, x)] [(0, x), v0, v1, v2] S h n) ∧
  (∀ (d : Nat) (l0 l1 l2 l3 : Option mx_V) (v0 v1 v2 v3 : mx_V) (S h : mx_H) (n : Int), mx_ex d 259 404 [l0, l1, l2, l3] [v0, v1, v2, v3] S h n = mx_ex d 259 405 [l0, l1, l2, l3] [(0, 1), v0, v1, v2, v3] S h n) ∧
  (∀ (d : Nat) (b a : Int) (l0 l1 l2 l3 : Option mx_V) (v2 v3 v4 : mx_V) (S h : mx_H) (n : Int), mx_ex d 259 405 [l0, l1, l2, l3] [(0, b), (0, a), v2, v3, v4] S h n = mx_ex d 259 406 [l0, l1, l2, l3] [(0, mx_w (a + b)), v2, v3, v4] S h n) ∧
  (∀ (d : Nat) (i a : Int) (l0 l1 l2 l3 : Option mx_V) (v2 v3 : mx_V) (S h : mx_H) (n : Int), mx_ex d 259 406 [l0, l1, l2, l3] [(0, i), (2, a), v2, v3] S h n = mx_gd ((S a (-2) = 20 ∨ S a (-2) = 24) ∧ 0 ≤ i ∧ i < S a (-1)) d 259 407 [l0, l1, l2, l3] [(0, h a i), v2, v3] S h n) ∧
  (∀ (d : Nat) (x : Int) (l1 l2 l3 : Option mx_V) (v0 v1 v2 : mx_V) (S h : mx_H) (n : Int), mx_ex d 259 407 [some (2, x), l1, l2, l3] [v0, v1, v2] S h n = mx_ex d 259 408 [some (2, x), l1, l2, l3] [(2, x), v0, v1, v2] S h n) ∧
  (∀ (d : Nat) (x : Int) (l0 l1 l2 : Option mx_V) (v0 v1 v2 v3 : mx_V) (S h : mx_H) (n : Int), mx_ex d 259 408 [l0, l1, l2, some (0, x)] [v0, v1, v2, v3] S h n = mx_ex d 259 409 [l0, l1, l2, some (0, x)] [(0, x), v0, v1, v2, v3] S h n) ∧
  (∀ (d : Nat) (l0 l1 l2 l3 : Option mx_V) (v0 v1 v2 v3 v4 : mx_V) (S h : mx_H) (n : Int), mx_ex d 259 409 [l0, l1, l2, l3] [v0, v1, v2, v3, v4] S h n = mx_ex d 259 410 [l0, l1, l2, l3] [(0, 2), v0, v1, v2, v3, v4] S h n) ∧
  (∀ (d : Nat) (b a : Int) (l0 l1 l2 l3 : Option mx_V) (v2 v3 v4 v5 : mx_V) (S h : mx_H) (n : Int), mx_ex d 259 410 [l0, l1, l2, l3] [(0, b), (0, a), v2, v3, v4, v5] S h n = mx_ex d 259 411 [l0, l1, l2, l3] [(0, mx_w (a + b)), v2, v3, v4, v5] S h n) ∧
  (∀ (d : Nat) (i a : Int) (l0 l1 l2 l3 : Option mx_V) (v2 v3 v4 : mx_V) (S h : mx_H) (n : Int), mx_ex d 259 411 [l0, l1, l2, l3] [(0, i), (2, a), v2, v3, v4] S h n = mx_gd ((S a (-2) = 20 ∨ S a (-2) = 24) ∧ 0 ≤ i ∧ i < S a (-1)) d 259 412 [l0, l1, l2, l3] [(0, h a i), v2, v3, v4] S h n) ∧
  (∀ (d : Nat) (x : Int) (l1 l2 l3 : Option mx_V) (v0 v1 v2 v3 : mx_V) (S h : mx_H) (n : Int), mx_ex d 259 412 [some (2, x), l1, l2, l3] [v0, v1, v2, v3] S h n = mx_ex d 259 413 [some (2, x), l1, l2, l3] [(2, x), v0, v1, v2, v3] S h n) ∧
  (∀ (d : Nat) (x : Int) (l0 l1 l2 : Option mx_V) (v0 v1 v2 v3 v4 : mx_V) (S h : mx_H) (n : Int), mx_ex d 259 413 [l0, l1, l2, some (0, x)] [v0, v1, v2, v3, v4] S h n = mx_ex d 259 414 [l0, l1, l2, some (0, x)] [(0, x), v0, v1, v2, v3, v4] S h n) ∧
  (∀ (d : Nat) (l0 l1 l2 l3 : Option mx_V) (v0 v1 v2 v3 v4 v5 : mx_V) (S h : mx_H) (n : Int), mx_ex d 259 414 [l0, l1, l2, l3] [v0, v1, v2, v3, v4, v5] S h n = mx_ex d 259 415 [l0, l1, l2, l3] [(0, 3), v0, v1, v2, v3, v4, v5] S h n) ∧
  (∀ (d : Nat) (b a : Int) (l0 l1 l2 l3 : Option mx_V) (v2 v3 v4 v5 v6 : mx_V) (S h : mx_H) (n : Int), mx_ex d 259 415 [l0, l1, l2, l3] [(0, b), (0, a), v2, v3, v4, v5, v6] S h n = mx_ex d 259 416 [l0, l1, l2, l3] [(0, mx_w (a + b)), v2, v3, v4, v5, v6] S h n) ∧
  (∀ (d : Nat) (i a : Int) (l0 l1 l2 l3 : Option mx_V) (v2 v3 v4 v5 : mx_V) (S h : mx_H) (n : Int), mx_ex d 259 416 [l0, l1, l2, l3] [(0, i), (2, a), v2, v3, v4, v5] S h n = mx_gd ((S a (-2) = 20 ∨ S a (-2) = 24) ∧ 0 ≤ i ∧ i < S a (-1)) d 259 417 [l0, l1, l2, l3] [(0, h a i), v2, v3, v4, v5] S h n) ∧
  (∀ (d : Nat) (x : Int) (l1 l2 l3 : Option mx_V) (v0 v1 v2 v3 v4 : mx_V) (S h : mx_H) (n : Int), mx_ex d 259 417 [some (2, x), l1, l2, l3] [v0, v1, v2, v3, v4] S h n = mx_ex d 259 418 [some (2, x), l1, l2, l3] [(2, x), v0, v1, v2, v3, v4] S h n) ∧
  (∀ (d : Nat) (x : Int) (l0 l1 l2 : Option mx_V) (v0 v1 v2 v3 v4 v5 : mx_V) (S h : mx_H) (n : Int), mx_ex d 259 418 [l0, l1, l2, some (0, x)] [v0, v1, v2, v3, v4, v5] S h n = mx_ex d 259 419 [l0, l1, l2, some (0, x)] [(0, x), v0, v1, v2, v3, v4, v5] S h n) ∧
  (∀ (d : Nat) (l0 l1 l2 l3 : Option mx_V) (v0 v1 v2 v3 v4 v5 v6 : mx_V) (S h : mx_H) (n : Int), mx_ex d 259 419 [l0, l1, l2, l3] [v0, v1, v2, v3, v4, v5, v6] S h n = mx_ex d 259 420 [l0, l1, l2, l3] [(0, 4), v0, v1, v2, v3, v4, v5, v6] S h n) ∧
  (∀ (d : Nat) (b a : Int) (l0 l1 l2 l3 : Option mx_V) (v2 v3 v4 v5 v6 v7 : mx_V) (S h : mx_H) (n : Int), mx_ex d 259 420 [l0, l1, l2, l3] [(0, b), (0, a), v2, v3, v4, v5, v6, v7] S h n = mx_ex d 259 421 [l0, l1, l2, l3] [(0, mx_w (a + b)), v2, v3, v4, v5, v6, v7] S h n) ∧
  (∀ (d : Nat) (i a : Int) (l0 l1 l2 l3 : Option mx_V) (v2 v3 v4 v5 v6 : mx_V) (S h : mx_H) (n : Int), mx_ex d 259 421 [l0, l1, l2, l3] [(0, i), (2, a), v2, v3, v4, v5, v6] S h n = mx_gd ((S a (-2) = 20 ∨ S a (-2) = 24) ∧ 0 ≤ i ∧ i < S a (-1)) d 259 422 [l0, l1, l2, l3] [(0, h a i), v2, v3, v4, v5, v6] S h n) ∧
  (∀ (d : Nat) (x : Int) (l1 l2 l3 : Option mx_V) (v0 v1 v2 v3 v4 v5 : mx_V) (S h : mx_H) (n : Int), mx_ex d 259 422 [some (2, x), l1, l2, l3] [v0, v1, v2, v3, v4, v5] S h n = mx_ex d 259 423 [some (2, x), l1, l2, l3] [(2, x), v0, v1, v2, v3, v4, v5] S h n) ∧
  (∀ (d : Nat) (x : Int) (l0 l1 l2 : Option mx_V) (v0 v1 v2 v3 v4 v5 v6 : mx_V) (S h : mx_H) (n : Int), mx_ex d 259 423 [l0, l1, l2, some (0, x)] [v0, v1, v2, v3, v4, v5, v6] S h n = mx_ex d 259 424 [l0, l1, l2, some (0, x)] [(0, x), v0, v1, v2, v3, v4, v5, v6] S h n) ∧
  (∀ (d : Nat) (l0 l1 l2 l3 : Option mx_V) (v0 v1 v2 v3 v4 v5 v6 v7 : mx_V) (S h : mx_H) (n : Int), mx_ex d 259 424 [l0, l1, l2, l3] [v0, v1, v2, v3, v4, v5, v6, v7] S h n = mx_ex d 259 425 [l0, l1, l2, l3] [(0, 5), v0, v1, v2, v3, v4, v5, v6, v7] S h n) ∧
  (∀ (d : Nat) (b a : Int) (l0 l1 l2 l3 : Option mx_V) (v2 v3 v4 v5 v6 v7 v8 : mx_V) (S h : mx_H) (n : Int), mx_ex d 259 425 [l0, l1, l2, l3] [(0, b), (0, a), v2, v3, v4, v5, v6, v7, v8] S h n = mx_ex d 259 426 [l0, l1, l2, l3] [(0, mx_w (a + b)), v2, v3, v4, v5, v6, v7, v8] S h n) ∧
  (∀ (d : Nat) (i a : Int) (l0 l1 l2 l3 : Option mx_V) (v2 v3 v4 v5 v6 v7 : mx_V) (S h : mx_H) (n : Int), mx_ex d 259 426 [l0, l1, l2, l3] [(0, i), (2, a), v2, v3, v4, v5, v6, v7] S h n = mx_gd ((S a (-2) = 20 ∨ S a (-2) = 24) ∧ 0 ≤ i ∧ i < S a (-1)) d 259 427 [l0, l1, l2, l3] [(0, h a i), v2, v3, v4, v5, v6, v7] S h n) ∧
  (∀ (d : Nat) (x0 x1 x2 x3 x4 a : Int) (l0 l1 l2 l3 : Option mx_V) (v6 : mx_V) (S h : mx_H) (n : Int), mx_ex (d + 1) 259 427 [l0, l1, l2, l3] [(0, x0), (0, x1), (0, x2), (0, x3), (0, x4), (2, a), v6] S h n = mx_cl (S a (-2) = 13) d 179 [(2, a), (0, x4), (0, x3), (0, x2), (0, x1), (0, x0)] 259 430 [l0, l1, l2, l3] [v6] S h n) ∧
  (∀ (d : Nat) (b a : Int) (l0 l1 l2 l3 : Option mx_V) (S h : mx_H) (n : Int), mx_ex d 259 430 [l0, l1, l2, l3] [(0, b), (0, a)] S h n = mx_br (a = b) d 259 1653 433 [l0, l1, l2, l3] [] S h n) ∧
  (∀ (d : Nat) (l0 l1 l2 l3 : Option mx_V) (S h : mx_H) (n : Int), mx_ex d 259 433 [l0, l1, l2, l3] [] S h n = mx_ex d 259 434 [l0, l1, l2, l3] [(0, 0)] S h n) ∧
  (∀ (d : Nat) (x : Int) (l0 l1 l2 l3 : Option mx_V) (S h : mx_H) (n : Int), mx_ex d 259 434 [l0, l1, l2, l3] [(0, x)] S h n = mx_re (0 ≤ x ∧ x ≤ 1) (some (0, x)) S h n) ∧
  (∀ (d : Nat) (x : Int) (l0 l2 l3 : Option mx_V) (S h : mx_H) (n : Int), mx_ex d 259 435 [l0, some (2, x), l2, l3] [] S h n = mx_ex d 259 436 [l0, some (2, x), l2, l3] [(2, x)] S h n) ∧
  (∀ (d : Nat) (x : Int) (l1 l2 l3 : Option mx_V) (v0 : mx_V) (S h : mx_H) (n : Int), mx_ex d 259 436 [some (2, x), l1, l2, l3] [v0] S h n = mx_ex d 259 437 [some (2, x), l1, l2, l3] [(2, x), v0] S h n) ∧
  (∀ (d : Nat) (x : Int) (l0 l1 l2 : Option mx_V) (v0 v1 : mx_V) (S h : mx_H) (n : Int), mx_ex d 259 437 [l0, l1, l2, some (0, x)] [v0, v1] S h n = mx_ex d 259 438 [l0, l1, l2, some (0, x)] [(0, x), v0, v1] S h n) ∧
  (∀ (d : Nat) (l0 l1 l2 l3 : Option mx_V) (v0 v1 v2 : mx_V) (S h : mx_H) (n : Int), mx_ex d 259 438 [l0, l1, l2, l3] [v0, v1, v2] S h n = mx_ex d 259 439 [l0, l1, l2, l3] [(0, 1), v0, v1, v2] S h n) ∧
  (∀ (d : Nat) (b a : Int) (l0 l1 l2 l3 : Option mx_V) (v2 v3 : mx_V) (S h : mx_H) (n : Int), mx_ex d 259 439 [l0, l1, l2, l3] [(0, b), (0, a), v2, v3] S h n = mx_ex d 259 440 [l0, l1, l2, l3] [(0, mx_w (a + b)), v2, v3] S h n) ∧
  (∀ (d : Nat) (i a : Int) (l0 l1 l2 l3 : Option mx_V) (v2 : mx_V) (S h : mx_H) (n : Int), mx_ex d 259 440 [l0, l1, l2, l3] [(0, i), (2, a), v2] S h n = mx_gd ((S a (-2) = 20 ∨ S a (-2) = 24) ∧ 0 ≤ i ∧ i < S a (-1)) d 259 441 [l0, l1, l2, l3] [(0, h a i), v2] S h n) ∧
  (∀ (d : Nat) (x : Int) (l1 l2 l3 : Option mx_V) (v0 v1 : mx_V) (S h : mx_H) (n : Int), mx_ex d 259 441 [some (2, x), l1, l2, l3] [v0, v1] S h n = mx_ex d 259 442 [some (2, x), l1, l2, l3] [(2, x), v0, v1] S h n) ∧
  (∀ (d : Nat) (x : Int) (l0 l1 l2 : Option mx_V) (v0 v1 v2 : mx_V) (S h : mx_H) (n : Int), mx_ex d 259 442 [l0, l1, l2, some (0, x)] [v0, v1, v2] S h n = mx_ex d 259 443 [l0, l1, l2, some (0, x)] [(0, x), v0, v1, v2] S h n) ∧
  (∀ (d : Nat) (l0 l1 l2 l3 : Option mx_V) (v0 v1 v2 v3 : mx_V) (S h : mx_H) (n : Int), mx_ex d 259 443 [l0, l1, l2, l3] [v0, v1, v2, v3] S h n = mx_ex d 259 444 [l0, l1, l2, l3] [(0, 2), v0, v1, v2, v3] S h n) :=
  ⟨by intros; exact eq_cv rfl (Nat.le_of_ble_eq_true rfl) rfl rfl rfl (Nat.le_of_ble_eq_true rfl),
   by intros; exact eq_ic0 rfl,
   by intros; exact eq_push rfl,
   by intros; exact eq_rr rfl,
   by intros; exact eq_ld rfl rfl,
   by intros; exact eq_ld rfl rfl,
   by intros; exact eq_ld rfl rfl,
   by intros; exact eq_push rfl,
   by intros; exact eq_i2 (o := mx_add) rfl,
   by intros; exact eq_iald rfl,
   by intros; exact eq_ld rfl rfl,
   by intros; exact eq_ld rfl rfl,
   by intros; exact eq_push rfl,
   by intros; exact eq_i2 (o := mx_add) rfl,
   by intros; exact eq_iald rfl,
   by intros; exact eq_ld rfl rfl,
   by intros; exact eq_ld rfl rfl,
   by intros; exact eq_push rfl,
   by intros; exact eq_i2 (o := mx_add) rfl,
   by intros; exact eq_iald rfl,
   by intros; exact eq_ld rfl rfl,
   by intros; exact eq_ld rfl rfl,
   by intros; exact eq_push rfl,
   by intros; exact eq_i2 (o := mx_add) rfl,
   by intros; exact eq_iald rfl,
   by intros; exact eq_ld rfl rfl,
   by intros; exact eq_ld rfl rfl,
   by intros; exact eq_push rfl,
   by intros; exact eq_i2 (o := mx_add) rfl,
   by intros; exact eq_iald rfl,
   by intros; exact eq_cv rfl (Nat.le_of_ble_eq_true rfl) rfl rfl rfl (Nat.le_of_ble_eq_true rfl),
   by intros; exact eq_ld rfl rfl,
   by intros; exact eq_ld rfl rfl,
   by intros; exact eq_ld rfl rfl,
   by intros; exact eq_push rfl,
   by intros; exact eq_i2 (o := mx_add) rfl,
   by intros; exact eq_iald rfl,
   by intros; exact eq_ld rfl rfl,
   by intros; exact eq_ld rfl rfl,
   by intros; exact eq_push rfl,
   by intros; exact eq_i2 (o := mx_add) rfl,
   by intros; exact eq_iald rfl,
   by intros; exact eq_ld rfl rfl,
   by intros; exact eq_ld rfl rfl,
   by intros; exact eq_push rfl,
   by intros; exact eq_i2 (o := mx_add) rfl,
   by intros; exact eq_iald rfl,
   by intros; exact eq_ld rfl rfl,
   by intros; exact eq_ld rfl rfl,
   by intros; exact eq_push rfl,
   by intros; exact eq_i2 (o := mx_add) rfl,
   by intros; exact eq_iald rfl,
   by intros; exact eq_ld rfl rfl,
   by intros; exact eq_ld rfl rfl,
   by intros; exact eq_push rfl,
   by intros; exact eq_i2 (o := mx_add) rfl,
   by intros; exact eq_iald rfl,
   by intros; exact eq_cv rfl (Nat.le_of_ble_eq_true rfl) rfl rfl rfl (Nat.le_of_ble_eq_true rfl),
   by intros; exact eq_ic0 rfl,
   by intros; exact eq_push rfl,
   by intros; exact eq_rr rfl,
   by intros; exact eq_ld rfl rfl,
   by intros; exact eq_ld rfl rfl,
   by intros; exact eq_ld rfl rfl,
   by intros; exact eq_push rfl,
   by intros; exact eq_i2 (o := mx_add) rfl,
   by intros; exact eq_iald rfl,
   by intros; exact eq_ld rfl rfl,
   by intros; exact eq_ld rfl rfl,
   by intros; exact eq_push rfl⟩
theorem rw_L_law_3 :
  (∀ (d : Nat) (b a : Int) (l0 l1 l2 l3 : Option mx_V) (v2 v3 v4 : mx_V) (S h : mx_H) (n : Int), mx_ex d 259 444 [l0, l1, l2, l3] [(0, b), (0, a), v2, v3, v4] S h n = mx_ex d 259 445 [l0, l1, l2, l3] [(0, mx_w (a + b)), v2, v3, v4] S h n) ∧
  (∀ (d : Nat) (i a : Int) (l0 l1 l2 l3 : Option mx_V) (v2 v3 : mx_V) (S h : mx_H) (n : Int), mx_ex d 259 445 [l0, l1, l2, l3] [(0, i), (2, a), v2, v3] S h n = mx_gd ((S a (-2) = 20 ∨ S a (-2) = 24) ∧ 0 ≤ i ∧ i < S a (-1)) d 259 446 [l0, l1, l2, l3] [(0, h a i), v2, v3] S h n) ∧
  (∀ (d : Nat) (x0 x1 a : Int) (l0 l1 l2 l3 : Option mx_V) (S h : mx_H) (n : Int), mx_ex (d + 1) 259 446 [l0, l1, l2, l3] [(0, x0), (0, x1), (2, a)] S h n = mx_cl (S a (-2) = 7) d 106 [(2, a), (0, x1), (0, x0)] 259 449 [l0, l1, l2, l3] [] S h n) ∧
  (∀ (d : Nat) (x : Int) (l0 l1 l3 : Option mx_V) (v0 : mx_V) (S h : mx_H) (n : Int), mx_ex d 259 449 [l0, l1, some (2, x), l3] [v0] S h n = mx_ex d 259 450 [l0, l1, some (2, x), l3] [(2, x), v0] S h n) ∧
  (∀ (d : Nat) (x : Int) (l1 l2 l3 : Option mx_V) (v0 v1 : mx_V) (S h : mx_H) (n : Int), mx_ex d 259 450 [some (2, x), l1, l2, l3] [v0, v1] S h n = mx_ex d 259 451 [some (2, x), l1, l2, l3] [(2, x), v0, v1] S h n) ∧
  (∀ (d : Nat) (x : Int) (l0 l1 l2 : Option mx_V) (v0 v1 v2 : mx_V) (S h : mx_H) (n : Int), mx_ex d 259 451 [l0, l1, l2, some (0, x)] [v0, v1, v2] S h n = mx_ex d 259 452 [l0, l1, l2, some (0, x)] [(0, x), v0, v1, v2] S h n) ∧
  (∀ (d : Nat) (l0 l1 l2 l3 : Option mx_V) (v0 v1 v2 v3 : mx_V) (S h : mx_H) (n : Int), mx_ex d 259 452 [l0, l1, l2, l3] [v0, v1, v2, v3] S h n = mx_ex d 259 453 [l0, l1, l2, l3] [(0, 1), v0, v1, v2, v3] S h n) ∧
  (∀ (d : Nat) (b a : Int) (l0 l1 l2 l3 : Option mx_V) (v2 v3 v4 : mx_V) (S h : mx_H) (n : Int), mx_ex d 259 453 [l0, l1, l2, l3] [(0, b), (0, a), v2, v3, v4] S h n = mx_ex d 259 454 [l0, l1, l2, l3] [(0, mx_w (a + b)), v2, v3, v4] S h n) ∧
  (∀ (d : Nat) (i a : Int) (l0 l1 l2 l3 : Option mx_V) (v2 v3 : mx_V) (S h : mx_H) (n : Int), mx_ex d 259 454 [l0, l1, l2, l3] [(0, i), (2, a), v2, v3] S h n = mx_gd ((S a (-2) = 20 ∨ S a (-2) = 24) ∧ 0 ≤ i ∧ i < S a (-1)) d 259 455 [l0, l1, l2, l3] [(0, h a i), v2, v3] S h n) ∧
  (∀ (d : Nat) (x : Int) (l1 l2 l3 : Option mx_V) (v0 v1 v2 : mx_V) (S h : mx_H) (n : Int), mx_ex d 259 455 [some (2, x), l1, l2, l3] [v0, v1, v2] S h n = mx_ex d 259 456 [some (2, x), l1, l2, l3] [(2, x), v0, v1, v2] S h n) ∧
  (∀ (d : Nat) (x : Int) (l0 l1 l2 : Option mx_V) (v0 v1 v2 v3 : mx_V) (S h : mx_H) (n : Int), mx_ex d 259 456 [l0, l1, l2, some (0, x)] [v0, v1, v2, v3] S h n = mx_ex d 259 457 [l0, l1, l2, some (0, x)] [(0, x), v0, v1, v2, v3] S h n) ∧
  (∀ (d : Nat) (l0 l1 l2 l3 : Option mx_V) (v0 v1 v2 v3 v4 : mx_V) (S h : mx_H) (n : Int), mx_ex d 259 457 [l0, l1, l2, l3] [v0, v1, v2, v3, v4] S h n = mx_ex d 259 458 [l0, l1, l2, l3] [(0, 2), v0, v1, v2, v3, v4] S h n) ∧
  (∀ (d : Nat) (b a : Int) (l0 l1 l2 l3 : Option mx_V) (v2 v3 v4 v5 : mx_V) (S h : mx_H) (n : Int), mx_ex d 259 458 [l0, l1, l2, l3] [(0, b), (0, a), v2, v3, v4, v5] S h n = mx_ex d 259 459 [l0, l1, l2, l3] [(0, mx_w (a + b)), v2, v3, v4, v5] S h n) ∧
  (∀ (d : Nat) (i a : Int) (l0 l1 l2 l3 : Option mx_V) (v2 v3 v4 : mx_V) (S h : mx_H) (n : Int), mx_ex d 259 459 [l0, l1, l2, l3] [(0, i), (2, a), v2, v3, v4] S h n = mx_gd ((S a (-2) = 20 ∨ S a (-2) = 24) ∧ 0 ≤ i ∧ i < S a (-1)) d 259 460 [l0, l1, l2, l3] [(0, h a i), v2, v3, v4] S h n) ∧
  (∀ (d : Nat) (x0 x1 a : Int) (l0 l1 l2 l3 : Option mx_V) (v3 : mx_V) (S h : mx_H) (n : Int), mx_ex (d + 1) 259 460 [l0, l1, l2, l3] [(0, x0), (0, x1), (2, a), v3] S h n = mx_cl (S a (-2) = 13) d 180 [(2, a), (0, x1), (0, x0)] 259 463 [l0, l1, l2, l3] [v3] S h n) ∧
  (∀ (d : Nat) (b a : Int) (l0 l1 l2 l3 : Option mx_V) (S h : mx_H) (n : Int), mx_ex d 259 463 [l0, l1, l2, l3] [(0, b), (0, a)] S h n = mx_br (a = b) d 259 1653 466 [l0, l1, l2, l3] [] S h n) ∧
  (∀ (d : Nat) (l0 l1 l2 l3 : Option mx_V) (S h : mx_H) (n : Int), mx_ex d 259 466 [l0, l1, l2, l3] [] S h n = mx_ex d 259 467 [l0, l1, l2, l3] [(0, 0)] S h n) ∧
  (∀ (d : Nat) (x : Int) (l0 l1 l2 l3 : Option mx_V) (S h : mx_H) (n : Int), mx_ex d 259 467 [l0, l1, l2, l3] [(0, x)] S h n = mx_re (0 ≤ x ∧ x ≤ 1) (some (0, x)) S h n) ∧
  (∀ (d : Nat) (x : Int) (l0 l2 l3 : Option mx_V) (S h : mx_H) (n : Int), mx_ex d 259 468 [l0, some (2, x), l2, l3] [] S h n = mx_ex d 259 469 [l0, some (2, x), l2, l3] [(2, x)] S h n) ∧
  (∀ (d : Nat) (x : Int) (l1 l2 l3 : Option mx_V) (v0 : mx_V) (S h : mx_H) (n : Int), mx_ex d 259 469 [some (2, x), l1, l2, l3] [v0] S h n = mx_ex d 259 470 [some (2, x), l1, l2, l3] [(2, x), v0] S h n) ∧
  (∀ (d : Nat) (x : Int) (l0 l1 l2 : Option mx_V) (v0 v1 : mx_V) (S h : mx_H) (n : Int), mx_ex d 259 470 [l0, l1, l2, some (0, x)] [v0, v1] S h n = mx_ex d 259 471 [l0, l1, l2, some (0, x)] [(0, x), v0, v1] S h n) ∧
  (∀ (d : Nat) (l0 l1 l2 l3 : Option mx_V) (v0 v1 v2 : mx_V) (S h : mx_H) (n : Int), mx_ex d 259 471 [l0, l1, l2, l3] [v0, v1, v2] S h n = mx_ex d 259 472 [l0, l1, l2, l3] [(0, 1), v0, v1, v2] S h n) ∧
  (∀ (d : Nat) (b a : Int) (l0 l1 l2 l3 : Option mx_V) (v2 v3 : mx_V) (S h : mx_H) (n : Int), mx_ex d 259 472 [l0, l1, l2, l3] [(0, b), (0, a), v2, v3] S h n = mx_ex d 259 473 [l0, l1, l2, l3] [(0, mx_w (a + b)), v2, v3] S h n) ∧
  (∀ (d : Nat) (i a : Int) (l0 l1 l2 l3 : Option mx_V) (v2 : mx_V) (S h : mx_H) (n : Int), mx_ex d 259 473 [l0, l1, l2, l3] [(0, i), (2, a), v2] S h n = mx_gd ((S a (-2) = 20 ∨ S a (-2) = 24) ∧ 0 ≤ i ∧ i < S a (-1)) d 259 474 [l0, l1, l2, l3] [(0, h a i), v2] S h n) ∧
  (∀ (d : Nat) (x : Int) (l1 l2 l3 : Option mx_V) (v0 v1 : mx_V) (S h : mx_H) (n : Int), mx_ex d 259 474 [some (2, x), l1, l2, l3] [v0, v1] S h n = mx_ex d 259 475 [some (2, x), l1, l2, l3] [(2, x), v0, v1] S h n) ∧
  (∀ (d : Nat) (x : Int) (l0 l1 l2 : Option mx_V) (v0 v1 v2 : mx_V) (S h : mx_H) (n : Int), mx_ex d 259 475 [l0, l1, l2, some (0, x)] [v0, v1, v2] S h n = mx_ex d 259 476 [l0, l1, l2, some (0, x)] [(0, x), v0, v1, v2] S h n) ∧
  (∀ (d : Nat) (l0 l1 l2 l3 : Option mx_V) (v0 v1 v2 v3 : mx_V) (S h : mx_H) (n : Int), mx_ex d 259 476 [l0, l1, l2, l3] [v0, v1, v2, v3] S h n = mx_ex d 259 477 [l0, l1, l2, l3] [(0, 2), v0, v1, v2, v3] S h n) ∧
  (∀ (d : Nat) (b a : Int) (l0 l1 l2 l3 : Option mx_V) (v2 v3 v4 : mx_V) (S h : mx_H) (n : Int), mx_ex d 259 477 [l0, l1, l2, l3] [(0, b), (0, a), v2, v3, v4] S h n = mx_ex d 259 478 [l0, l1, l2, l3] [(0, mx_w (a + b)), v2, v3, v4] S h n) ∧
  (∀ (d : Nat) (i a : Int) (l0 l1 l2 l3 : Option mx_V) (v2 v3 : mx_V) (S h : mx_H) (n : Int), mx_ex d 259 478 [l0, l1, l2, l3] [(0, i), (2, a), v2, v3] S h n = mx_gd ((S a (-2) = 20 ∨ S a (-2) = 24) ∧ 0 ≤ i ∧ i < S a (-1)) d 259 479 [l0, l1, l2, l3] [(0, h a i), v2, v3] S h n) ∧
  (∀ (d : Nat) (x : Int) (l1 l2 l3 : Option mx_V) (v0 v1 v2 : mx_V) (S h : mx_H) (n : Int), mx_ex d 259 479 [some (2, x), l1, l2, l3] [v0, v1, v2] S h n = mx_ex d 259 480 [some (2, x), l1, l2, l3] [(2, x), v0, v1, v2] S h n) ∧
  (∀ (d : Nat) (x : Int) (l0 l1 l2 : Option mx_V) (v0 v1 v2 v3 : mx_V) (S h : mx_H) (n : Int), mx_ex d 259 480 [l0, l1, l2, some (0, x)] [v0, v1, v2, v3] S h n = mx_ex d 259 481 [l0, l1, l2, some (0, x)] [(0, x), v0, v1, v2, v3] S h n) ∧
  (∀ (d : Nat) (l0 l1 l2 l3 : Option mx_V) (v0 v1 v2 v3 v4 : mx_V) (S h : mx_H) (n : Int), mx_ex d 259 481 [l0, l1, l2, l3] [v0, v1, v2, v3, v4] S h n = mx_ex d 259 482 [l0, l1, l2, l3] [(0, 3), v0, v1, v2, v3, v4] S h n) ∧
  (∀ (d : Nat) (b a : Int) (l0 l1 l2 l3 : Option mx_V) (v2 v3 v4 v5 : mx_V) (S h : mx_H) (n : Int), mx_ex d 259 482 [l0, l1, l2, l3] [(0, b), (0, a), v2, v3, v4, v5] S h n = mx_ex d 259 483 [l0, l1, l2, l3] [(0, mx_w (a + b)), v2, v3, v4, v5] S h n) ∧
  (∀ (d : Nat) (i a : Int) (l0 l1 l2 l3 : Option mx_V) (v2 v3 v4 : mx_V) (S h : mx_H) (n : Int), mx_ex d 259 483 [l0, l1, l2, l3] [(0, i), (2, a), v2, v3, v4] S h n = mx_gd ((S a (-2) = 20 ∨ S a (-2) = 24) ∧ 0 ≤ i ∧ i < S a (-1)) d 259 484 [l0, l1, l2, l3] [(0, h a i), v2, v3, v4] S h n) ∧
  (∀ (d : Nat) (x0 x1 x2 a : Int) (l0 l1 l2 l3 : Option mx_V) (S h : mx_H) (n : Int), mx_ex (d + 1) 259 484 [l0, l1, l2, l3] [(0, x0), (0, x1), (0, x2), (2, a)] S h n = mx_cl (S a (-2) = 7) d 107 [(2, a), (0, x2), (0, x1), (0, x0)] 259 487 [l0, l1, l2, l3] [] S h n) ∧
  (∀ (d : Nat) (x : Int) (l0 l1 l3 : Option mx_V) (v0 : mx_V) (S h : mx_H) (n : Int), mx_ex d 259 487 [l0, l1, some (2, x), l3] [v0] S h n = mx_ex d 259 488 [l0, l1, some (2, x), l3] [(2, x), v0] S h n) ∧
  (∀ (d : Nat) (x : Int) (l1 l2 l3 : Option mx_V) (v0 v1 : mx_V) (S h : mx_H) (n : Int), mx_ex d 259 488 [some (2, x), l1, l2, l3] [v0, v1] S h n = mx_ex d 259 489 [some (2, x), l1, l2, l3] [(2, x), v0, v1] S h n) ∧
  (∀ (d : Nat) (x : Int) (l0 l1 l2 : Option mx_V) (v0 v1 v2 : mx_V) (S h : mx_H) (n : Int), mx_ex d 259 489 [l0, l1, l2, some (0, x)] [v0, v1, v2] S h n = mx_ex d 259 490 [l0, l1, l2, some (0, x)] [(0, x), v0, v1, v2] S h n) ∧
  (∀ (d : Nat) (l0 l1 l2 l3 : Option mx_V) (v0 v1 v2 v3 : mx_V) (S h : mx_H) (n : Int), mx_ex d 259 490 [l0, l1, l2, l3] [v0, v1, v2, v3] S h n = mx_ex d 259 491 [l0, l1, l2, l3] [(0, 1), v0, v1, v2, v3] S h n) ∧
  (∀ (d : Nat) (b a : Int) (l0 l1 l2 l3 : Option mx_V) (v2 v3 v4 : mx_V) (S h : mx_H) (n : Int), mx_ex d 259 491 [l0, l1, l2, l3] [(0, b), (0, a), v2, v3, v4] S h n = mx_ex d 259 492 [l0, l1, l2, l3] [(0, mx_w (a + b)), v2, v3, v4] S h n) ∧
  (∀ (d : Nat) (i a : Int) (l0 l1 l2 l3 : Option mx_V) (v2 v3 : mx_V) (S h : mx_H) (n : Int), mx_ex d 259 492 [l0, l1, l2, l3] [(0, i), (2, a), v2, v3] S h n = mx_gd ((S a (-2) = 20 ∨ S a (-2) = 24) ∧ 0 ≤ i ∧ i < S a (-1)) d 259 493 [l0, l1, l2, l3] [(0, h a i), v2, v3] S h n) ∧
  (∀ (d : Nat) (x : Int) (l1 l2 l3 : Option mx_V) (v0 v1 v2 : mx_V) (S h : mx_H) (n : Int), mx_ex d 259 493 [some (2, x), l1, l2, l3] [v0, v1, v2] S h n = mx_ex d 259 494 [some (2, x), l1, l2, l3] [(2, x), v0, v1, v2] S h n) ∧
  (∀ (d : Nat) (x : Int) (l0 l1 l2 : Option mx_V) (v0 v1 v2 v3 : mx_V) (S h : mx_H) (n : Int), mx_ex d 259 494 [l0, l1, l2, some (0, x)] [v0, v1, v2, v3] S h n = mx_ex d 259 495 [l0, l1, l2, some (0, x)] [(0, x), v0, v1, v2, v3] S h n) ∧
  (∀ (d : Nat) (l0 l1 l2 l3 : Option mx_V) (v0 v1 v2 v3 v4 : mx_V) (S h : mx_H) (n : Int), mx_ex d 259 495 [l0, l1, l2, l3] [v0, v1, v2, v3, v4] S h n = mx_ex d 259 496 [l0, l1, l2, l3] [(0, 2), v0, v1, v2, v3, v4] S h n) ∧
  (∀ (d : Nat) (b a : Int) (l0 l1 l2 l3 : Option mx_V) (v2 v3 v4 v5 : mx_V) (S h : mx_H) (n : Int), mx_ex d 259 496 [l0, l1, l2, l3] [(0, b), (0, a), v2, v3, v4, v5] S h n = mx_ex d 259 497 [l0, l1, l2, l3] [(0, mx_w (a + b)), v2, v3, v4, v5] S h n) ∧
  (∀ (d : Nat) (i a : Int) (l0 l1 l2 l3 : Option mx_V) (v2 v3 v4 : mx_V) (S h : mx_H) (n : Int), mx_ex d 259 497 [l0, l1, l2, l3] [(0, i), (2, a), v2, v3, v4] S h n = mx_gd ((S a (-2) = 20 ∨ S a (-2) = 24) ∧ 0 ≤ i ∧ i < S a (-1)) d 259 498 [l0, l1, l2, l3] [(0, h a i), v2, v3, v4] S h n) ∧
  (∀ (d : Nat) (x : Int) (l1 l2 l3 : Option mx_V) (v0 v1 v2 v3 : mx_V) (S h : mx_H) (n : Int), mx_ex d 259 498 [some (2, x), l1, l2, l3] [v0, v1, v2, v3] S h n = mx_ex d 259 499 [some (2, x), l1, l2, l3] [(2, x), v0, v1, v2, v3] S h n) ∧
  (∀ (d : Nat) (x : Int) (l0 l1 l2 : Option mx_V) (v0 v1 v2 v3 v4 : mx_V) (S h : mx_H) (n : Int), mx_ex d 259 499 [l0, l1, l2, some (0, x)] [v0, v1, v2, v3, v4] S h n = mx_ex d 259 500 [l0, l1, l2, some (0, x)] [(0, x), v0, v1, v2, v3, v4] S h n) ∧
  (∀ (d : Nat) (l0 l1 l2 l3 : Option mx_V) (v0 v1 v2 v3 v4 v5 : mx_V) (S h : mx_H) (n : Int), mx_ex d 259 500 [l0, l1, l2, l3] [v0, v1, v2, v3, v4, v5] S h n = mx_ex d 259 501 [l0, l1, l2, l3] [(0, 3), v0, v1, v2, v3, v4, v5] S h n) ∧
  (∀ (d : Nat) (b a : Int) (l0 l1 l2 l3 : Option mx_V) (v2 v3 v4 v5 v6 : mx_V) (S h : mx_H) (n : Int), mx_ex d 259 501 [l0, l1, l2, l3] [(0, b), (0, a), v2, v3, v4, v5, v6] S h n = mx_ex d 259 502 [l0, l1, l2, l3] [(0, mx_w (a + b)), v2, v3, v4, v5, v6] S h n) ∧
  (∀ (d : Nat) (i a : Int) (l0 l1 l2 l3 : Option mx_V) (v2 v3 v4 v5 : mx_V) (S h : mx_H) (n : Int), mx_ex d 259 502 [l0, l1, l2, l3] [(0, i), (2, a), v2, v3, v4, v5] S h n = mx_gd ((S a (-2) = 20 ∨ S a (-2) = 24) ∧ 0 ≤ i ∧ i < S a (-1)) d 259 503 [l0, l1, l2, l3] [(0, h a i), v2, v3, v4, v5] S h n) ∧
  (∀ (d : Nat) (x0 x1 x2 a : Int) (l0 l1 l2 l3 : Option mx_V) (v4 : mx_V) (S h : mx_H) (n : Int), mx_ex (d + 1) 259 503 [l0, l1, l2, l3] [(0, x0), (0, x1), (0, x2), (2, a), v4] S h n = mx_cl (S a (-2) = 13) d 182 [(2, a), (0, x2), (0, x1), (0, x0)] 259 506 [l0, l1, l2, l3] [v4] S h n) ∧
  (∀ (d : Nat) (b a : Int) (l0 l1 l2 l3 : Option mx_V) (S h : mx_H) (n : Int), mx_ex d 259 506 [l0, l1, l2, l3] [(0, b), (0, a)] S h n = mx_br (a = b) d 259 1653 509 [l0, l1, l2, l3] [] S h n) ∧
  (∀ (d : Nat) (l0 l1 l2 l3 : Option mx_V) (S h : mx_H) (n : Int), mx_ex d 259 509 [l0, l1, l2, l3] [] S h n = mx_ex d 259 510 [l0, l1, l2, l3] [(0, 0)] S h n) ∧
  (∀ (d : Nat) (x : Int) (l0 l1 l2 l3 : Option mx_V) (S h : mx_H) (n : Int), mx_ex d 259 510 [l0, l1, l2, l3] [(0, x)] S h n = mx_re (0 ≤ x ∧ x ≤ 1) (some (0, x)) S h n) ∧
  (∀ (d : Nat) (x : Int) (l0 l2 l3 : Option mx_V) (S h : mx_H) (n : Int), mx_ex d 259 511 [l0, some (2, x), l2, l3] [] S h n = mx_ex d 259 512 [l0, some (2, x), l2, l3] [(2, x)] S h n) ∧
  (∀ (d : Nat) (x : Int) (l1 l2 l3 : Option mx_V) (v0 : mx_V) (S h : mx_H) (n : Int), mx_ex d 259 512 [some (2, x), l1, l2, l3] [v0] S h n = mx_ex d 259 513 [some (2, x), l1, l2, l3] [(2, x), v0] S h n) ∧
  (∀ (d : Nat) (x : Int) (l0 l1 l2 : Option mx_V) (v0 v1 : mx_V) (S h : mx_H) (n : Int), mx_ex d 259 513 [l0, l1, l2, some (0, x)] [v0, v1] S h n = mx_ex d 259 514 [l0, l1, l2, some (0, x)] [(0, x), v0, v1] S h n) ∧
  (∀ (d : Nat) (l0 l1 l2 l3 : Option mx_V) (v0 v1 v2 : mx_V) (S h : mx_H) (n : Int), mx_ex d 259 514 [l0, l1, l2, l3] [v0, v1, v2] S h n = mx_ex d 259 515 [l0, l1, l2, l3] [(0, 1), v0, v1, v2] S h n) ∧
  (∀ (d : Nat) (b a : Int) (l0 l1 l2 l3 : Option mx_V) (v2 v3 : mx_V) (S h : mx_H) (n : Int), mx_ex d 259 515 [l0, l1, l2, l3] [(0, b), (0, a), v2, v3] S h n = mx_ex d 259 516 [l0, l1, l2, l3] [(0, mx_w (a + b)), v2, v3] S h n) ∧
  (∀ (d : Nat) (i a : Int) (l0 l1 l2 l3 : Option mx_V) (v2 : mx_V) (S h : mx_H) (n : Int), mx_ex d 259 516 [l0, l1, l2, l3] [(0, i), (2, a), v2] S h n = mx_gd ((S a (-2) = 20 ∨ S a (-2) = 24) ∧ 0 ≤ i ∧ i < S a (-1)) d 259 517 [l0, l1, l2, l3] [(0, h a i), v2] S h n) ∧
  (∀ (d : Nat) (x : Int) (l1 l2 l3 : Option mx_V) (v0 v1 : mx_V) (S h : mx_H) (n : Int), mx_ex d 259 517 [some (2, x), l1, l2, l3] [v0, v1] S h n = mx_ex d 259 518 [some (2, x), l1, l2, l3] [(2, x), v0, v1] S h n) ∧
  (∀ (d : Nat) (x : Int) (l0 l1 l2 : Option mx_V) (v0 v1 v2 : mx_V) (S h : mx_H) (n : Int), mx_ex d 259 518 [l0, l1, l2, some (0, x)] [v0, v1, v2] S h n = mx_ex d 259 519 [l0, l1, l2, some (0, x)] [(0, x), v0, v1, v2] S h n) ∧
  (∀ (d : Nat) (l0 l1 l2 l3 : Option mx_V) (v0 v1 v2 v3 : mx_V) (S h : mx_H) (n : Int), mx_ex d 259 519 [l0, l1, l2, l3] [v0, v1, v2, v3] S h n = mx_ex d 259 520 [l0, l1, l2, l3] [(0, 2), v0, v1, v2, v3] S h n) ∧
  (∀ (d : Nat) (b a : Int) (l0 l1 l2 l3 : Option mx_V) (v2 v3 v4 : mx_V) (S h : mx_H) (n : Int), mx_ex d 259 520 [l0, l1, l2, l3] [(0, b), (0, a), v2, v3, v4] S h n = mx_ex d 259 521 [l0, l1, l2, l3] [(0, mx_w (a + b)), v2, v3, v4] S h n) ∧
  (∀ (d : Nat) (i a : Int) (l0 l1 l2 l3 : Option mx_V) (v2 v3 : mx_V) (S h : mx_H) (n : Int), mx_ex d 259 521 [l0, l1, l2, l3] [(0, i), (2, a), v2, v3] S h n = mx_gd ((S a (-2) = 20 ∨ S a (-2) = 24) ∧ 0 ≤ i ∧ i < S a (-1)) d 259 522 [l0, l1, l2, l3] [(0, h a i), v2, v3] S h n) ∧
  (∀ (d : Nat) (x0 x1 a : Int) (l0 l1 l2 l3 : Option mx_V) (S h : mx_H) (n : Int), mx_ex (d + 1) 259 522 [l0, l1, l2, l3] [(0, x0), (0, x1), (2, a)] S h n = mx_cl (S a (-2) = 7) d 108 [(2, a), (0, x1), (0, x0)] 259 525 [l0, l1, l2, l3] [] S h n) ∧
  (∀ (d : Nat) (x : Int) (l0 l1 l3 : Option mx_V) (v0 : mx_V) (S h : mx_H) (n : Int), mx_ex d 259 525 [l0, l1, some (2, x), l3] [v0] S h n = mx_ex d 259 526 [l0, l1, some (2, x), l3] [(2, x), v0] S h n) ∧
  (∀ (d : Nat) (x : Int) (l1 l2 l3 : Option mx_V) (v0 v1 : mx_V) (S h : mx_H) (n : Int), mx_ex d 259 526 [some (2, x), l1, l2, l3] [v0, v1] S h n = mx_ex d 259 527 [some (2, x), l1, l2, l3] [(2, x), v0, v1] S h n) ∧
  (∀ (d : Nat) (x : Int) (l0 l1 l2 : Option mx_V) (v0 v1 v2 : mx_V) (S h : mx_H) (n : Int), mx_ex d 259 527 [l0, l1, l2, some (0, x)] [v0, v1, v2] S h n = mx_ex d 259 528 [l0, l1, l2, some (0, x)] [(0, x), v0, v1, v2] S h n) :=
  ⟨by intros; exact eq_i2 (o := mx_add) rfl,
   by intros; exact eq_iald rfl,
   by intros; exact eq_cv rfl (Nat.le_of_ble_eq_true rfl) rfl rfl rfl (Nat.le_of_ble_eq_true rfl),
   by intros; exact eq_ld rfl rfl,
   by intros; exact eq_ld rfl rfl,
   by intros; exact eq_ld rfl rfl,
   by intros; exact eq_push rfl,
   by intros; exact eq_i2 (o := mx_add) rfl,
   by intros; exact eq_iald rfl,
   by intros; exact eq_ld rfl rfl,
   by intros; exact eq_ld rfl rfl,
   by intros; exact eq_push rfl,
   by intros; exact eq_i2 (o := mx_add) rfl,
   by intros; exact eq_iald rfl,
   by intros; exact eq_cv rfl (Nat.le_of_ble_eq_true rfl) rfl rfl rfl (Nat.le_of_ble_eq_true rfl),
   by intros; exact eq_ic0 rfl,
   by intros; exact eq_push rfl,
   by intros; exact eq_rr rfl,
   by intros; exact eq_ld rfl rfl,
   by intros; exact eq_ld rfl rfl,
   by intros; exact eq_ld rfl rfl,
   by intros; exact eq_push rfl,
   by intros; exact eq_i2 (o := mx_add) rfl,
   by intros; exact eq_iald rfl,
   by intros; exact eq_ld rfl rfl,
   by intros; exact eq_ld rfl rfl,
   by intros; exact eq_push rfl,
   by intros; exact eq_i2 (o := mx_add) rfl,
   by intros; exact eq_iald rfl,
   by intros; exact eq_ld rfl rfl,
   by intros; exact eq_ld rfl rfl,
   by intros; exact eq_push rfl,
   by intros; exact eq_i2 (o := mx_add) rfl,
   by intros; exact eq_iald rfl,
   by intros; exact eq_cv rfl (Nat.le_of_ble_eq_true rfl) rfl rfl rfl (Nat.le_of_ble_eq_true rfl),
   by intros; exact eq_ld rfl rfl,
   by intros; exact eq_ld rfl rfl,
   by intros; exact eq_ld rfl rfl,
   by intros; exact eq_push rfl,
   by intros; exact eq_i2 (o := mx_add) rfl,
   by intros; exact eq_iald rfl,
   by intros; exact eq_ld rfl rfl,
   by intros; exact eq_ld rfl rfl,
   by intros; exact eq_push rfl,
   by intros; exact eq_i2 (o := mx_add) rfl,
   by intros; exact eq_iald rfl,
   by intros; exact eq_ld rfl rfl,
   by intros; exact eq_ld rfl rfl,
   by intros; exact eq_push rfl,
   by intros; exact eq_i2 (o := mx_add) rfl,
   by intros; exact eq_iald rfl,
   by intros; exact eq_cv rfl (Nat.le_of_ble_eq_true rfl) rfl rfl rfl (Nat.le_of_ble_eq_true rfl),
   by intros; exact eq_ic0 rfl,
   by intros; exact eq_push rfl,
   by intros; exact eq_rr rfl,
   by intros; exact eq_ld rfl rfl,
   by intros; exact eq_ld rfl rfl,
   by intros; exact eq_ld rfl rfl,
   by intros; exact eq_push rfl,
   by intros; exact eq_i2 (o := mx_add) rfl,
   by intros; exact eq_iald rfl,
   by intros; exact eq_ld rfl rfl,
   by intros; exact eq_ld rfl rfl,
   by intros; exact eq_push rfl,
   by intros; exact eq_i2 (o := mx_add) rfl,
   by intros; exact eq_iald rfl,
   by intros; exact eq_cv rfl (Nat.le_of_ble_eq_true rfl) rfl rfl rfl (Nat.le_of_ble_eq_true rfl),
   by intros; exact eq_ld rfl rfl,
   by intros; exact eq_ld rfl rfl,
   by intros; exact eq_ld rfl rfl⟩
theorem rw_L_law_4 :
  (∀ (d : Nat) (l0 l1 l2 l3 : Option mx_V) (v0 v1 v2 v3 : mx_V) (S h : mx_H) (n : Int), mx_ex d 259 528 [l0, l1, l2, l3] [v0, v1, v2, v3] S h n = mx_ex d 259 529 [l0, l1, l2, l3] [(0, 1), v0, v1, v2, v3] S h n) ∧
  (∀ (d : Nat) (b a : Int) (l0 l1 l2 l3 : Option mx_V) (v2 v3 v4 : mx_V) (S h : mx_H) (n : Int), mx_ex d 259 529 [l0, l1, l2, l3] [(0, b), (0, a), v2, v3, v4] S h n = mx_ex d 259 530 [l0, l1, l2, l3] [(0, mx_w (a + b)), v2, v3, v4] S h n) ∧
  (∀ (d : Nat) (i a : Int) (l0 l1 l2 l3 : Option mx_V) (v2 v3 : mx_V) (S h : mx_H) (n : Int), mx_ex d 259 530 [l0, l1, l2, l3] [(0, i), (2, a), v2, v3] S h n = mx_gd ((S a (-2) = 20 ∨ S a (-2) = 24) ∧ 0 ≤ i ∧ i < S a (-1)) d 259 531 [l0, l1, l2, l3] [(0, h a i), v2, v3] S h n) ∧
  (∀ (d : Nat) (x : Int) (l1 l2 l3 : Option mx_V) (v0 v1 v2 : mx_V) (S h : mx_H) (n : Int), mx_ex d 259 531 [some (2, x), l1, l2, l3] [v0, v1, v2] S h n = mx_ex d 259 532 [some (2, x), l1, l2, l3] [(2, x), v0, v1, v2] S h n) ∧
  (∀ (d : Nat) (x : Int) (l0 l1 l2 : Option mx_V) (v0 v1 v2 v3 : mx_V) (S h : mx_H) (n : Int), mx_ex d 259 532 [l0, l1, l2, some (0, x)] [v0, v1, v2, v3] S h n = mx_ex d 259 533 [l0, l1, l2, some (0, x)] [(0, x), v0, v1, v2, v3] S h n) ∧
  (∀ (d : Nat) (l0 l1 l2 l3 : Option mx_V) (v0 v1 v2 v3 v4 : mx_V) (S h : mx_H) (n : Int), mx_ex d 259 533 [l0, l1, l2, l3] [v0, v1, v2, v3, v4] S h n = mx_ex d 259 534 [l0, l1, l2, l3] [(0, 2), v0, v1, v2, v3, v4] S h n) ∧
  (∀ (d : Nat) (b a : Int) (l0 l1 l2 l3 : Option mx_V) (v2 v3 v4 v5 : mx_V) (S h : mx_H) (n : Int), mx_ex d 259 534 [l0, l1, l2, l3] [(0, b), (0, a), v2, v3, v4, v5] S h n = mx_ex d 259 535 [l0, l1, l2, l3] [(0, mx_w (a + b)), v2, v3, v4, v5] S h n) ∧
  (∀ (d : Nat) (i a : Int) (l0 l1 l2 l3 : Option mx_V) (v2 v3 v4 : mx_V) (S h : mx_H) (n : Int), mx_ex d 259 535 [l0, l1, l2, l3] [(0, i), (2, a), v2, v3, v4] S h n = mx_gd ((S a (-2) = 20 ∨ S a (-2) = 24) ∧ 0 ≤ i ∧ i < S a (-1)) d 259 536 [l0, l1, l2, l3] [(0, h a i), v2, v3, v4] S h n) ∧
  (∀ (d : Nat) (x0 x1 a : Int) (l0 l1 l2 l3 : Option mx_V) (v3 : mx_V) (S h : mx_H) (n : Int), mx_ex (d + 1) 259 536 [l0, l1, l2, l3] [(0, x0), (0, x1), (2, a), v3] S h n = mx_cl (S a (-2) = 13) d 183 [(2, a), (0, x1), (0, x0)] 259 539 [l0, l1, l2, l3] [v3] S h n) ∧
  (∀ (d : Nat) (b a : Int) (l0 l1 l2 l3 : Option mx_V) (S h : mx_H) (n : Int), mx_ex d 259 539 [l0, l1, l2, l3] [(0, b), (0, a)] S h n = mx_br (a = b) d 259 1653 542 [l0, l1, l2, l3] [] S h n) ∧
  (∀ (d : Nat) (l0 l1 l2 l3 : Option mx_V) (S h : mx_H) (n : Int), mx_ex d 259 542 [l0, l1, l2, l3] [] S h n = mx_ex d 259 543 [l0, l1, l2, l3] [(0, 0)] S h n) ∧
  (∀ (d : Nat) (x : Int) (l0 l1 l2 l3 : Option mx_V) (S h : mx_H) (n : Int), mx_ex d 259 543 [l0, l1, l2, l3] [(0, x)] S h n = mx_re (0 ≤ x ∧ x ≤ 1) (some (0, x)) S h n) ∧
  (∀ (d : Nat) (x : Int) (l0 l2 l3 : Option mx_V) (S h : mx_H) (n : Int), mx_ex d 259 544 [l0, some (2, x), l2, l3] [] S h n = mx_ex d 259 545 [l0, some (2, x), l2, l3] [(2, x)] S h n) ∧
  (∀ (d : Nat) (x : Int) (l1 l2 l3 : Option mx_V) (v0 : mx_V) (S h : mx_H) (n : Int), mx_ex d 259 545 [some (2, x), l1, l2, l3] [v0] S h n = mx_ex d 259 546 [some (2, x), l1, l2, l3] [(2, x), v0] S h n) ∧
  (∀ (d : Nat) (x : Int) (l0 l1 l2 : Option mx_V) (v0 v1 : mx_V) (S h : mx_H) (n : Int), mx_ex d 259 546 [l0, l1, l2, some (0, x)] [v0, v1] S h n = mx_ex d 259 547 [l0, l1, l2, some (0, x)] [(0, x), v0, v1] S h n) ∧
  (∀ (d : Nat) (l0 l1 l2 l3 : Option mx_V) (v0 v1 v2 : mx_V) (S h : mx_H) (n : Int), mx_ex d 259 547 [l0, l1, l2, l3] [v0, v1, v2] S h n = mx_ex d 259 548 [l0, l1, l2, l3] [(0, 1), v0, v1, v2] S h n) ∧
  (∀ (d : Nat) (b a : Int) (l0 l1 l2 l3 : Option mx_V) (v2 v3 : mx_V) (S h : mx_H) (n : Int), mx_ex d 259 548 [l0, l1, l2, l3] [(0, b), (0, a), v2, v3] S h n = mx_ex d 259 549 [l0, l1, l2, l3] [(0, mx_w (a + b)), v2, v3] S h n) ∧
  (∀ (d : Nat) (i a : Int) (l0 l1 l2 l3 : Option mx_V) (v2 : mx_V) (S h : mx_H) (n : Int), mx_ex d 259 549 [l0, l1, l2, l3] [(0, i), (2, a), v2] S h n = mx_gd ((S a (-2) = 20 ∨ S a (-2) = 24) ∧ 0 ≤ i ∧ i < S a (-1)) d 259 550 [l0, l1, l2, l3] [(0, h a i), v2] S h n) ∧
  (∀ (d : Nat) (x : Int) (l1 l2 l3 : Option mx_V) (v0 v1 : mx_V) (S h : mx_H) (n : Int), mx_ex d 259 550 [some (2, x), l1, l2, l3] [v0, v1] S h n = mx_ex d 259 551 [some (2, x), l1, l2, l3] [(2, x), v0, v1] S h n) ∧
  (∀ (d : Nat) (x : Int) (l0 l1 l2 : Option mx_V) (v0 v1 v2 : mx_V) (S h : mx_H) (n : Int), mx_ex d 259 551 [l0, l1, l2, some (0, x)] [v0, v1, v2] S h n = mx_ex d 259 552 [l0, l1, l2, some (0, x)] [(0, x), v0, v1, v2] S h n) ∧
  (∀ (d : Nat) (l0 l1 l2 l3 : Option mx_V) (v0 v1 v2 v3 : mx_V) (S h : mx_H) (n : Int), mx_ex d 259 552 [l0, l1, l2, l3] [v0, v1, v2, v3] S h n = mx_ex d 259 553 [l0, l1, l2, l3] [(0, 2), v0, v1, v2, v3] S h n) ∧
  (∀ (d : Nat) (b a : Int) (l0 l1 l2 l3 : Option mx_V) (v2 v3 v4 : mx_V) (S h : mx_H) (n : Int), mx_ex d 259 553 [l0, l1, l2, l3] [(0, b), (0, a), v2, v3, v4] S h n = mx_ex d 259 554 [l0, l1, l2, l3] [(0, mx_w (a + b)), v2, v3, v4] S h n) ∧
  (∀ (d : Nat) (i a : Int) (l0 l1 l2 l3 : Option mx_V) (v2 v3 : mx_V) (S h : mx_H) (n : Int), mx_ex d 259 554 [l0, l1, l2, l3] [(0, i), (2, a), v2, v3] S h n = mx_gd ((S a (-2) = 20 ∨ S a (-2) = 24) ∧ 0 ≤ i ∧ i < S a (-1)) d 259 555 [l0, l1, l2, l3] [(0, h a i), v2, v3] S h n) ∧
  (∀ (d : Nat) (x0 x1 a : Int) (l0 l1 l2 l3 : Option mx_V) (S h : mx_H) (n : Int), mx_ex (d + 1) 259 555 [l0, l1, l2, l3] [(0, x0), (0, x1), (2, a)] S h n = mx_cl (S a (-2) = 7) d 109 [(2, a), (0, x1), (0, x0)] 259 558 [l0, l1, l2, l3] [] S h n) ∧
  (∀ (d : Nat) (x : Int) (l0 l1 l3 : Option mx_V) (v0 : mx_V) (S h : mx_H) (n : Int), mx_ex d 259 558 [l0, l1, some (2, x), l3] [v0] S h n = mx_ex d 259 559 [l0, l1, some (2, x), l3] [(2, x), v0] S h n) ∧
  (∀ (d : Nat) (x : Int) (l1 l2 l3 : Option mx_V) (v0 v1 : mx_V) (S h : mx_H) (n : Int), mx_ex d 259 559 [some (2, x), l1, l2, l3] [v0, v1] S h n = mx_ex d 259 560 [some (2, x), l1, l2, l3] [(2, x), v0, v1] S h n) ∧
  (∀ (d : Nat) (x : Int) (l0 l1 l2 : Option mx_V) (v0 v1 v2 : mx_V) (S h : mx_H) (n : Int), mx_ex d 259 560 [l0, l1, l2, some (0, x)] [v0, v1, v2] S h n = mx_ex d 259 561 [l0, l1, l2, some (0, x)] [(0, x), v0, v1, v2] S h n) ∧
  (∀ (d : Nat) (l0 l1 l2 l3 : Option mx_V) (v0 v1 v2 v3 : mx_V) (S h : mx_H) (n : Int), mx_ex d 259 561 [l0, l1, l2, l3] [v0, v1, v2, v3] S h n = mx_ex d 259 562 [l0, l1, l2, l3] [(0, 1), v0, v1, v2, v3] S h n) ∧
  (∀ (d : Nat) (b a : Int) (l0 l1 l2 l3 : Option mx_V) (v2 v3 v4 : mx_V) (S h : mx_H) (n : Int), mx_ex d 259 562 [l0, l1, l2, l3] [(0, b), (0, a), v2, v3, v4] S h n = mx_ex d 259 563 [l0, l1, l2, l3] [(0, mx_w (a + b)), v2, v3, v4] S h n) ∧
  (∀ (d : Nat) (i a : Int) (l0 l1 l2 l3 : Option mx_V) (v2 v3 : mx_V) (S h : mx_H) (n : Int), mx_ex d 259 563 [l0, l1, l2, l3] [(0, i), (2, a), v2, v3] S h n = mx_gd ((S a (-2) = 20 ∨ S a (-2) = 24) ∧ 0 ≤ i ∧ i < S a (-1)) d 259 564 [l0, l1, l2, l3] [(0, h a i), v2, v3] S h n) ∧
  (∀ (d : Nat) (x : Int) (l1 l2 l3 : Option mx_V) (v0 v1 v2 : mx_V) (S h : mx_H) (n : Int), mx_ex d 259 564 [some (2, x), l1, l2, l3] [v0, v1, v2] S h n = mx_ex d 259 565 [some (2, x), l1, l2, l3] [(2, x), v0, v1, v2] S h n) ∧
  (∀ (d : Nat) (x : Int) (l0 l1 l2 : Option mx_V) (v0 v1 v2 v3 : mx_V) (S h : mx_H) (n : Int), mx_ex d 259 565 [l0, l1, l2, some (0, x)] [v0, v1, v2, v3] S h n = mx_ex d 259 566 [l0, l1, l2, some (0, x)] [(0, x), v0, v1, v2, v3] S h n) ∧
  (∀ (d : Nat) (l0 l1 l2 l3 : Option mx_V) (v0 v1 v2 v3 v4 : mx_V) (S h : mx_H) (n : Int), mx_ex d 259 566 [l0, l1, l2, l3] [v0, v1, v2, v3, v4] S h n = mx_ex d 259 567 [l0, l1, l2, l3] [(0, 2), v0, v1, v2, v3, v4] S h n) ∧
  (∀ (d : Nat) (b a : Int) (l0 l1 l2 l3 : Option mx_V) (v2 v3 v4 v5 : mx_V) (S h : mx_H) (n : Int), mx_ex d 259 567 [l0, l1, l2, l3] [(0, b), (0, a), v2, v3, v4, v5] S h n = mx_ex d 259 568 [l0, l1, l2, l3] [(0, mx_w (a + b)), v2, v3, v4, v5] S h n) ∧
  (∀ (d : Nat) (i a : Int) (l0 l1 l2 l3 : Option mx_V) (v2 v3 v4 : mx_V) (S h : mx_H) (n : Int), mx_ex d 259 568 [l0, l1, l2, l3] [(0, i), (2, a), v2, v3, v4] S h n = mx_gd ((S a (-2) = 20 ∨ S a (-2) = 24) ∧ 0 ≤ i ∧ i < S a (-1)) d 259 569 [l0, l1, l2, l3] [(0, h a i), v2, v3, v4] S h n) ∧
  (∀ (d : Nat) (x0 x1 a : Int) (l0 l1 l2 l3 : Option mx_V) (v3 : mx_V) (S h : mx_H) (n : Int), mx_ex (d + 1) 259 569 [l0, l1, l2, l3] [(0, x0), (0, x1), (2, a), v3] S h n = mx_cl (S a (-2) = 13) d 187 [(2, a), (0, x1), (0, x0)] 259 572 [l0, l1, l2, l3] [v3] S h n) ∧
  (∀ (d : Nat) (b a : Int) (l0 l1 l2 l3 : Option mx_V) (S h : mx_H) (n : Int), mx_ex d 259 572 [l0, l1, l2, l3] [(1, b), (1, a)] S h n = mx_ex d 259 573 [l0, l1, l2, l3] [(0, mx_cmp a b)] S h n) ∧
  (∀ (d : Nat) (a : Int) (l0 l1 l2 l3 : Option mx_V) (S h : mx_H) (n : Int), mx_ex d 259 573 [l0, l1, l2, l3] [(0, a)] S h n = mx_br (a = 0) d 259 1653 576 [l0, l1, l2, l3] [] S h n) ∧
  (∀ (d : Nat) (l0 l1 l2 l3 : Option mx_V) (S h : mx_H) (n : Int), mx_ex d 259 576 [l0, l1, l2, l3] [] S h n = mx_ex d 259 577 [l0, l1, l2, l3] [(0, 0)] S h n) ∧
  (∀ (d : Nat) (x : Int) (l0 l1 l2 l3 : Option mx_V) (S h : mx_H) (n : Int), mx_ex d 259 577 [l0, l1, l2, l3] [(0, x)] S h n = mx_re (0 ≤ x ∧ x ≤ 1) (some (0, x)) S h n) ∧
  (∀ (d : Nat) (x : Int) (l0 l2 l3 : Option mx_V) (S h : mx_H) (n : Int), mx_ex d 259 578 [l0, some (2, x), l2, l3] [] S h n = mx_ex d 259 579 [l0, some (2, x), l2, l3] [(2, x)] S h n) ∧
  (∀ (d : Nat) (x : Int) (l1 l2 l3 : Option mx_V) (v0 : mx_V) (S h : mx_H) (n : Int), mx_ex d 259 579 [some (2, x), l1, l2, l3] [v0] S h n = mx_ex d 259 580 [some (2, x), l1, l2, l3] [(2, x), v0] S h n) ∧
  (∀ (d : Nat) (x : Int) (l0 l1 l2 : Option mx_V) (v0 v1 : mx_V) (S h : mx_H) (n : Int), mx_ex d 259 580 [l0, l1, l2, some (0, x)] [v0, v1] S h n = mx_ex d 259 581 [l0, l1, l2, some (0, x)] [(0, x), v0, v1] S h n) ∧
  (∀ (d : Nat) (l0 l1 l2 l3 : Option mx_V) (v0 v1 v2 : mx_V) (S h : mx_H) (n : Int), mx_ex d 259 581 [l0, l1, l2, l3] [v0, v1, v2] S h n = mx_ex d 259 582 [l0, l1, l2, l3] [(0, 1), v0, v1, v2] S h n) ∧
  (∀ (d : Nat) (b a : Int) (l0 l1 l2 l3 : Option mx_V) (v2 v3 : mx_V) (S h : mx_H) (n : Int), mx_ex d 259 582 [l0, l1, l2, l3] [(0, b), (0, a), v2, v3] S h n = mx_ex d 259 583 [l0, l1, l2, l3] [(0, mx_w (a + b)), v2, v3] S h n) ∧
  (∀ (d : Nat) (i a : Int) (l0 l1 l2 l3 : Option mx_V) (v2 : mx_V) (S h : mx_H) (n : Int), mx_ex d 259 583 [l0, l1, l2, l3] [(0, i), (2, a), v2] S h n = mx_gd ((S a (-2) = 20 ∨ S a (-2) = 24) ∧ 0 ≤ i ∧ i < S a (-1)) d 259 584 [l0, l1, l2, l3] [(0, h a i), v2] S h n) ∧
  (∀ (d : Nat) (x0 a : Int) (l0 l1 l2 l3 : Option mx_V) (S h : mx_H) (n : Int), mx_ex (d + 1) 259 584 [l0, l1, l2, l3] [(0, x0), (2, a)] S h n = mx_cl (S a (-2) = 7) d 110 [(2, a), (0, x0)] 259 587 [l0, l1, l2, l3] [] S h n) ∧
  (∀ (d : Nat) (x : Int) (l0 l1 l3 : Option mx_V) (v0 : mx_V) (S h : mx_H) (n : Int), mx_ex d 259 587 [l0, l1, some (2, x), l3] [v0] S h n = mx_ex d 259 588 [l0, l1, some (2, x), l3] [(2, x), v0] S h n) ∧
  (∀ (d : Nat) (x : Int) (l1 l2 l3 : Option mx_V) (v0 v1 : mx_V) (S h : mx_H) (n : Int), mx_ex d 259 588 [some (2, x), l1, l2, l3] [v0, v1] S h n = mx_ex d 259 589 [some (2, x), l1, l2, l3] [(2, x), v0, v1] S h n) ∧
  (∀ (d : Nat) (x : Int) (l0 l1 l2 : Option mx_V) (v0 v1 v2 : mx_V) (S h : mx_H) (n : Int), mx_ex d 259 589 [l0, l1, l2, some (0, x)] [v0, v1, v2] S h n = mx_ex d 259 590 [l0, l1, l2, some (0, x)] [(0, x), v0, v1, v2] S h n) ∧
  (∀ (d : Nat) (l0 l1 l2 l3 : Option mx_V) (v0 v1 v2 v3 : mx_V) (S h : mx_H) (n : Int), mx_ex d 259 590 [l0, l1, l2, l3] [v0, v1, v2, v3] S h n = mx_ex d 259 591 [l0, l1, l2, l3] [(0, 1), v0, v1, v2, v3] S h n) ∧
  (∀ (d : Nat) (b a : Int) (l0 l1 l2 l3 : Option mx_V) (v2 v3 v4 : mx_V) (S h : mx_H) (n : Int), mx_ex d 259 591 [l0, l1, l2, l3] [(0, b), (0, a), v2, v3, v4] S h n = mx_ex d 259 592 [l0, l1, l2, l3] [(0, mx_w (a + b)), v2, v3, v4] S h n) ∧
  (∀ (d : Nat) (i a : Int) (l0 l1 l2 l3 : Option mx_V) (v2 v3 : mx_V) (S h : mx_H) (n : Int), mx_ex d 259 592 [l0, l1, l2, l3] [(0, i), (2, a), v2, v3] S h n = mx_gd ((S a (-2) = 20 ∨ S a (-2) = 24) ∧ 0 ≤ i ∧ i < S a (-1)) d 259 593 [l0, l1, l2, l3] [(0, h a i), v2, v3] S h n) ∧
  (∀ (d : Nat) (x0 a : Int) (l0 l1 l2 l3 : Option mx_V) (v2 : mx_V) (S h : mx_H) (n : Int), mx_ex (d + 1) 259 593 [l0, l1, l2, l3] [(0, x0), (2, a), v2] S h n = mx_cl (S a (-2) = 13) d 188 [(2, a), (0, x0)] 259 596 [l0, l1, l2, l3] [v2] S h n) ∧
  (∀ (d : Nat) (b a : Int) (l0 l1 l2 l3 : Option mx_V) (S h : mx_H) (n : Int), mx_ex d 259 596 [l0, l1, l2, l3] [(0, b), (0, a)] S h n = mx_br (a = b) d 259 1653 599 [l0, l1, l2, l3] [] S h n) ∧
  (∀ (d : Nat) (l0 l1 l2 l3 : Option mx_V) (S h : mx_H) (n : Int), mx_ex d 259 599 [l0, l1, l2, l3] [] S h n = mx_ex d 259 600 [l0, l1, l2, l3] [(0, 0)] S h n) ∧
  (∀ (d : Nat) (x : Int) (l0 l1 l2 l3 : Option mx_V) (S h : mx_H) (n : Int), mx_ex d 259 600 [l0, l1, l2, l3] [(0, x)] S h n = mx_re (0 ≤ x ∧ x ≤ 1) (some (0, x)) S h n) ∧
  (∀ (d : Nat) (x : Int) (l0 l2 l3 : Option mx_V) (S h : mx_H) (n : Int), mx_ex d 259 601 [l0, some (2, x), l2, l3] [] S h n = mx_ex d 259 602 [l0, some (2, x), l2, l3] [(2, x)] S h n) ∧
  (∀ (d : Nat) (x : Int) (l1 l2 l3 : Option mx_V) (v0 : mx_V) (S h : mx_H) (n : Int), mx_ex d 259 602 [some (2, x), l1, l2, l3] [v0] S h n = mx_ex d 259 603 [some (2, x), l1, l2, l3] [(2, x), v0] S h n) ∧
  (∀ (d : Nat) (x : Int) (l0 l1 l2 : Option mx_V) (v0 v1 : mx_V) (S h : mx_H) (n : Int), mx_ex d 259 603 [l0, l1, l2, some (0, x)] [v0, v1] S h n = mx_ex d 259 604 [l0, l1, l2, some (0, x)] [(0, x), v0, v1] S h n) ∧
  (∀ (d : Nat) (l0 l1 l2 l3 : Option mx_V) (v0 v1 v2 : mx_V) (S h : mx_H) (n : Int), mx_ex d 259 604 [l0, l1, l2, l3] [v0, v1, v2] S h n = mx_ex d 259 605 [l0, l1, l2, l3] [(0, 1), v0, v1, v2] S h n) ∧
  (∀ (d : Nat) (b a : Int) (l0 l1 l2 l3 : Option mx_V) (v2 v3 : mx_V) (S h : mx_H) (n : Int), mx_ex d 259 605 [l0, l1, l2, l3] [(0, b), (0, a), v2, v3] S h n = mx_ex d 259 606 [l0, l1, l2, l3] [(0, mx_w (a + b)), v2, v3] S h n) ∧
  (∀ (d : Nat) (i a : Int) (l0 l1 l2 l3 : Option mx_V) (v2 : mx_V) (S h : mx_H) (n : Int), mx_ex d 259 606 [l0, l1, l2, l3] [(0, i), (2, a), v2] S h n = mx_gd ((S a (-2) = 20 ∨ S a (-2) = 24) ∧ 0 ≤ i ∧ i < S a (-1)) d 259 607 [l0, l1, l2, l3] [(0, h a i), v2] S h n) ∧
  (∀ (d : Nat) (x : Int) (l1 l2 l3 : Option mx_V) (v0 v1 : mx_V) (S h : mx_H) (n : Int), mx_ex d 259 607 [some (2, x), l1, l2, l3] [v0, v1] S h n = mx_ex d 259 608 [some (2, x), l1, l2, l3] [(2, x), v0, v1] S h n) ∧
  (∀ (d : Nat) (x : Int) (l0 l1 l2 : Option mx_V) (v0 v1 v2 : mx_V) (S h : mx_H) (n : Int), mx_ex d 259 608 [l0, l1, l2, some (0, x)] [v0, v1, v2] S h n = mx_ex d 259 609 [l0, l1, l2, some (0, x)] [(0, x), v0, v1, v2] S h n) ∧
  (∀ (d : Nat) (l0 l1 l2 l3 : Option mx_V) (v0 v1 v2 v3 : mx_V) (S h : mx_H) (n : Int), mx_ex d 259 609 [l0, l1, l2, l3] [v0, v1, v2, v3] S h n = mx_ex d 259 610 [l0, l1, l2, l3] [(0, 2), v0, v1, v2, v3] S h n) ∧
  (∀ (d : Nat) (b a : Int) (l0 l1 l2 l3 : Option mx_V) (v2 v3 v4 : mx_V) (S h : mx_H) (n : Int), mx_ex d 259 610 [l0, l1, l2, l3] [(0, b), (0, a), v2, v3, v4] S h n = mx_ex d 259 611 [l0, l1, l2, l3] [(0, mx_w (a + b)), v2, v3, v4] S h n) ∧
  (∀ (d : Nat) (i a : Int) (l0 l1 l2 l3 : Option mx_V) (v2 v3 : mx_V) (S h : mx_H) (n : Int), mx_ex d 259 611 [l0, l1, l2, l3] [(0, i), (2, a), v2, v3] S h n = mx_gd ((S a (-2) = 20 ∨ S a (-2) = 24) ∧ 0 ≤ i ∧ i < S a (-1)) d 259 612 [l0, l1, l2, l3] [(0, h a i), v2, v3] S h n) ∧
  (∀ (d : Nat) (x : Int) (l1 l2 l3 : Option mx_V) (v0 v1 v2 : mx_V) (S h : mx_H) (n : Int), mx_ex d 259 612 [some (2, x), l1, l2, l3] [v0, v1, v2] S h n = mx_ex d 259 613 [some (2, x), l1, l2, l3] [(2, x), v0, v1, v2] S h n) ∧
  (∀ (d : Nat) (x : Int) (l0 l1 l2 : Option mx_V) (v0 v1 v2 v3 : mx_V) (S h : mx_H) (n : Int), mx_ex d 259 613 [l0, l1, l2, some (0, x)] [v0, v1, v2, v3] S h n = mx_ex d 259 614 [l0, l1, l2, some (0, x)] [(0, x), v0, v1, v2, v3] S h n) :=
  ⟨by intros; exact eq_push rfl,
   by intros; exact eq_i2 (o := mx_add) rfl,
   by intros; exact eq_iald rfl,
   by intros; exact eq_ld rfl rfl,
   by intros; exact eq_ld rfl rfl,
   by intros; exact eq_push rfl,
   by intros; exact eq_i2 (o := mx_add) rfl,
   by intros; exact eq_iald rfl,
   by intros; exact eq_cv rfl (Nat.le_of_ble_eq_true rfl) rfl rfl rfl (Nat.le_of_ble_eq_true rfl),
   by intros; exact eq_ic0 rfl,
   by intros; exact eq_push rfl,
   by intros; exact eq_rr rfl,
   by intros; exact eq_ld rfl rfl,
   by intros; exact eq_ld rfl rfl,
   by intros; exact eq_ld rfl rfl,
   by intros; exact eq_push rfl,
   by intros; exact eq_i2 (o := mx_add) rfl,
   by intros; exact eq_iald rfl,
   by intros; exact eq_ld rfl rfl,
   by intros; exact eq_ld rfl rfl,
   by intros; exact eq_push rfl,
   by intros; exact eq_i2 (o := mx_add) rfl,
   by intros; exact eq_iald rfl,
   by intros; exact eq_cv rfl (Nat.le_of_ble_eq_true rfl) rfl rfl rfl (Nat.le_of_ble_eq_true rfl),
   by intros; exact eq_ld rfl rfl,
   by intros; exact eq_ld rfl rfl,
   by intros; exact eq_ld rfl rfl,
   by intros; exact eq_push rfl,
   by intros; exact eq_i2 (o := mx_add) rfl,
   by intros; exact eq_iald rfl,
   by intros; exact eq_ld rfl rfl,
   by intros; exact eq_ld rfl rfl,
   by intros; exact eq_push rfl,
   by intros; exact eq_i2 (o := mx_add) rfl,
   by intros; exact eq_iald rfl,
   by intros; exact eq_cv rfl (Nat.le_of_ble_eq_true rfl) rfl rfl rfl (Nat.le_of_ble_eq_true rfl),
   by intros; exact eq_lcmp rfl,
   by intros; exact eq_if0 rfl,
   by intros; exact eq_push rfl,
   by intros; exact eq_rr rfl,
   by intros; exact eq_ld rfl rfl,
   by intros; exact eq_ld rfl rfl,
   by intros; exact eq_ld rfl rfl,
   by intros; exact eq_push rfl,
   by intros; exact eq_i2 (o := mx_add) rfl,
   by intros; exact eq_iald rfl,
   by intros; exact eq_cv rfl (Nat.le_of_ble_eq_true rfl) rfl rfl rfl (Nat.le_of_ble_eq_true rfl),
   by intros; exact eq_ld rfl rfl,
   by intros; exact eq_ld rfl rfl,
   by intros; exact eq_ld rfl rfl,
   by intros; exact eq_push rfl,
   by intros; exact eq_i2 (o := mx_add) rfl,
   by intros; exact eq_iald rfl,
   by intros; exact eq_cv rfl (Nat.le_of_ble_eq_true rfl) rfl rfl rfl (Nat.le_of_ble_eq_true rfl),
   by intros; exact eq_ic0 rfl,
   by intros; exact eq_push rfl,
   by intros; exact eq_rr rfl,
   by intros; exact eq_ld rfl rfl,
   by intros; exact eq_ld rfl rfl,
   by intros; exact eq_ld rfl rfl,
   by intros; exact eq_push rfl,
   by intros; exact eq_i2 (o := mx_add) rfl,
   by intros; exact eq_iald rfl,
   by intros; exact eq_ld rfl rfl,
   by intros; exact eq_ld rfl rfl,
   by intros; exact eq_push rfl,
   by intros; exact eq_i2 (o := mx_add) rfl,
   by intros; exact eq_iald rfl,
   by intros; exact eq_ld rfl rfl,
   by intros; exact eq_ld rfl rfl⟩
theorem rw_L_law_5 :
  (∀ (d : Nat) (l0 l1 l2 l3 : Option mx_V) (v0 v1 v2 v3 v4 : mx_V) (S h : mx_H) (n : Int), mx_ex d 259 614 [l0, l1, l2, l3] [v0, v1, v2, v3, v4] S h n = mx_ex d 259 615 [l0, l1, l2, l3] [(0, 3), v0, v1, v2, v3, v4] S h n) ∧
  (∀ (d : Nat) (b a : Int) (l0 l1 l2 l3 : Option mx_V) (v2 v3 v4 v5 : mx_V) (S h : mx_H) (n : Int), mx_ex d 259 615 [l0, l1, l2, l3] [(0, b), (0, a), v2, v3, v4, v5] S h n = mx_ex d 259 616 [l0, l1, l2, l3] [(0, mx_w (a + b)), v2, v3, v4, v5] S h n) ∧
  (∀ (d : Nat) (i a : Int) (l0 l1 l2 l3 : Option mx_V) (v2 v3 v4 : mx_V) (S h : mx_H) (n : Int), mx_ex d 259 616 [l0, l1, l2, l3] [(0, i), (2, a), v2, v3, v4] S h n = mx_gd ((S a (-2) = 20 ∨ S a (-2) = 24) ∧ 0 ≤ i ∧ i < S a (-1)) d 259 617 [l0, l1, l2, l3] [(0, h a i), v2, v3, v4] S h n) ∧
  (∀ (d : Nat) (x : Int) (l1 l2 l3 : Option mx_V) (v0 v1 v2 v3 : mx_V) (S h : mx_H) (n : Int), mx_ex d 259 617 [some (2, x), l1, l2, l3] [v0, v1, v2, v3] S h n = mx_ex d 259 618 [some (2, x), l1, l2, l3] [(2, x), v0, v1, v2, v3] S h n) ∧
  (∀ (d : Nat) (x : Int) (l0 l1 l2 : Option mx_V) (v0 v1 v2 v3 v4 : mx_V) (S h : mx_H) (n : Int), mx_ex d 259 618 [l0, l1, l2, some (0, x)] [v0, v1, v2, v3, v4] S h n = mx_ex d 259 619 [l0, l1, l2, some (0, x)] [(0, x), v0, v1, v2, v3, v4] S h n) ∧
  (∀ (d : Nat) (l0 l1 l2 l3 : Option mx_V) (v0 v1 v2 v3 v4 v5 : mx_V) (S h : mx_H) (n : Int), mx_ex d 259 619 [l0, l1, l2, l3] [v0, v1, v2, v3, v4, v5] S h n = mx_ex d 259 620 [l0, l1, l2, l3] [(0, 4), v0, v1, v2, v3, v4, v5] S h n) ∧
  (∀ (d : Nat) (b a : Int) (l0 l1 l2 l3 : Option mx_V) (v2 v3 v4 v5 v6 : mx_V) (S h : mx_H) (n : Int), mx_ex d 259 620 [l0, l1, l2, l3] [(0, b), (0, a), v2, v3, v4, v5, v6] S h n = mx_ex d 259 621 [l0, l1, l2, l3] [(0, mx_w (a + b)), v2, v3, v4, v5, v6] S h n) ∧
  (∀ (d : Nat) (i a : Int) (l0 l1 l2 l3 : Option mx_V) (v2 v3 v4 v5 : mx_V) (S h : mx_H) (n : Int), mx_ex d 259 621 [l0, l1, l2, l3] [(0, i), (2, a), v2, v3, v4, v5] S h n = mx_gd ((S a (-2) = 20 ∨ S a (-2) = 24) ∧ 0 ≤ i ∧ i < S a (-1)) d 259 622 [l0, l1, l2, l3] [(0, h a i), v2, v3, v4, v5] S h n) ∧
  (∀ (d : Nat) (x0 x1 x2 x3 a : Int) (l0 l1 l2 l3 : Option mx_V) (S h : mx_H) (n : Int), mx_ex (d + 1) 259 622 [l0, l1, l2, l3] [(0, x0), (0, x1), (0, x2), (0, x3), (2, a)] S h n = mx_cl (S a (-2) = 7) d 111 [(2, a), (0, x3), (0, x2), (0, x1), (0, x0)] 259 625 [l0, l1, l2, l3] [] S h n) ∧
  (∀ (d : Nat) (x : Int) (l0 l1 l3 : Option mx_V) (v0 : mx_V) (S h : mx_H) (n : Int), mx_ex d 259 625 [l0, l1, some (2, x), l3] [v0] S h n = mx_ex d 259 626 [l0, l1, some (2, x), l3] [(2, x), v0] S h n) ∧
  (∀ (d : Nat) (x : Int) (l1 l2 l3 : Option mx_V) (v0 v1 : mx_V) (S h : mx_H) (n : Int), mx_ex d 259 626 [some (2, x), l1, l2, l3] [v0, v1] S h n = mx_ex d 259 627 [some (2, x), l1, l2, l3] [(2, x), v0, v1] S h n) ∧
  (∀ (d : Nat) (x : Int) (l0 l1 l2 : Option mx_V) (v0 v1 v2 : mx_V) (S h : mx_H) (n : Int), mx_ex d 259 627 [l0, l1, l2, some (0, x)] [v0, v1, v2] S h n = mx_ex d 259 628 [l0, l1, l2, some (0, x)] [(0, x), v0, v1, v2] S h n) ∧
  (∀ (d : Nat) (l0 l1 l2 l3 : Option mx_V) (v0 v1 v2 v3 : mx_V) (S h : mx_H) (n : Int), mx_ex d 259 628 [l0, l1, l2, l3] [v0, v1, v2, v3] S h n = mx_ex d 259 629 [l0, l1, l2, l3] [(0, 1), v0, v1, v2, v3] S h n) ∧
  (∀ (d : Nat) (b a : Int) (l0 l1 l2 l3 : Option mx_V) (v2 v3 v4 : mx_V) (S h : mx_H) (n : Int), mx_ex d 259 629 [l0, l1, l2, l3] [(0, b), (0, a), v2, v3, v4] S h n = mx_ex d 259 630 [l0, l1, l2, l3] [(0, mx_w (a + b)), v2, v3, v4] S h n) ∧
  (∀ (d : Nat) (i a : Int) (l0 l1 l2 l3 : Option mx_V) (v2 v3 : mx_V) (S h : mx_H) (n : Int), mx_ex d 259 630 [l0, l1, l2, l3] [(0, i), (2, a), v2, v3] S h n = mx_gd ((S a (-2) = 20 ∨ S a (-2) = 24) ∧ 0 ≤ i ∧ i < S a (-1)) d 259 631 [l0, l1, l2, l3] [(0, h a i), v2, v3] S h n) ∧
  (∀ (d : Nat) (x : Int) (l1 l2 l3 : Option mx_V) (v0 v1 v2 : mx_V) (S h : mx_H) (n : Int), mx_ex d 259 631 [some (2, x), l1, l2, l3] [v0, v1, v2] S h n = mx_ex d 259 632 [some (2, x), l1, l2, l3] [(2, x), v0, v1, v2] S h n) ∧
  (∀ (d : Nat) (x : Int) (l0 l1 l2 : Option mx_V) (v0 v1 v2 v3 : mx_V) (S h : mx_H) (n : Int), mx_ex d 259 632 [l0, l1, l2, some (0, x)] [v0, v1, v2, v3] S h n = mx_ex d 259 633 [l0, l1, l2, some (0, x)] [(0, x), v0, v1, v2, v3] S h n) ∧
  (∀ (d : Nat) (l0 l1 l2 l3 : Option mx_V) (v0 v1 v2 v3 v4 : mx_V) (S h : mx_H) (n : Int), mx_ex d 259 633 [l0, l1, l2, l3] [v0, v1, v2, v3, v4] S h n = mx_ex d 259 634 [l0, l1, l2, l3] [(0, 2), v0, v1, v2, v3, v4] S h n) ∧
  (∀ (d : Nat) (b a : Int) (l0 l1 l2 l3 : Option mx_V) (v2 v3 v4 v5 : mx_V) (S h : mx_H) (n : Int), mx_ex d 259 634 [l0, l1, l2, l3] [(0, b), (0, a), v2, v3, v4, v5] S h n = mx_ex d 259 635 [l0, l1, l2, l3] [(0, mx_w (a + b)), v2, v3, v4, v5] S h n) ∧
  (∀ (d : Nat) (i a : Int) (l0 l1 l2 l3 : Option mx_V) (v2 v3 v4 : mx_V) (S h : mx_H) (n : Int), mx_ex d 259 635 [l0, l1, l2, l3] [(0, i), (2, a), v2, v3, v4] S h n = mx_gd ((S a (-2) = 20 ∨ S a (-2) = 24) ∧ 0 ≤ i ∧ i < S a (-1)) d 259 636 [l0, l1, l2, l3] [(0, h a i), v2, v3, v4] S h n) ∧
  (∀ (d : Nat) (x : Int) (l1 l2 l3 : Option mx_V) (v0 v1 v2 v3 : mx_V) (S h : mx_H) (n : Int), mx_ex d 259 636 [some (2, x), l1, l2, l3] [v0, v1, v2, v3] S h n = mx_ex d 259 637 [some (2, x), l1, l2, l3] [(2, x), v0, v1, v2, v3] S h n) ∧
  (∀ (d : Nat) (x : Int) (l0 l1 l2 : Option mx_V) (v0 v1 v2 v3 v4 : mx_V) (S h : mx_H) (n : Int), mx_ex d 259 637 [l0, l1, l2, some (0, x)] [v0, v1, v2, v3, v4] S h n = mx_ex d 259 638 [l0, l1, l2, some (0, x)] [(0, x), v0, v1, v2, v3, v4] S h n) ∧
  (∀ (d : Nat) (l0 l1 l2 l3 : Option mx_V) (v0 v1 v2 v3 v4 v5 : mx_V) (S h : mx_H) (n : Int), mx_ex d 259 638 [l0, l1, l2, l3] [v0, v1, v2, v3, v4, v5] S h n = mx_ex d 259 639 [l0, l1, l2, l3] [(0, 3), v0, v1, v2, v3, v4, v5] S h n) ∧
  (∀ (d : Nat) (b a : Int) (l0 l1 l2 l3 : Option mx_V) (v2 v3 v4 v5 v6 : mx_V) (S h : mx_H) (n : Int), mx_ex d 259 639 [l0, l1, l2, l3] [(0, b), (0, a), v2, v3, v4, v5, v6] S h n = mx_ex d 259 640 [l0, l1, l2, l3] [(0, mx_w (a + b)), v2, v3, v4, v5, v6] S h n) ∧
  (∀ (d : Nat) (i a : Int) (l0 l1 l2 l3 : Option mx_V) (v2 v3 v4 v5 : mx_V) (S h : mx_H) (n : Int), mx_ex d 259 640 [l0, l1, l2, l3] [(0, i), (2, a), v2, v3, v4, v5] S h n = mx_gd ((S a (-2) = 20 ∨ S a (-2) = 24) ∧ 0 ≤ i ∧ i < S a (-1)) d 259 641 [l0, l1, l2, l3] [(0, h a i), v2, v3, v4, v5] S h n) ∧
  (∀ (d : Nat) (x : Int) (l1 l2 l3 : Option mx_V) (v0 v1 v2 v3 v4 : mx_V) (S h : mx_H) (n : Int), mx_ex d 259 641 [some (2, x), l1, l2, l3] [v0, v1, v2, v3, v4] S h n = mx_ex d 259 642 [some (2, x), l1, l2, l3] [(2, x), v0, v1, v2, v3, v4] S h n) ∧
  (∀ (d : Nat) (x : Int) (l0 l1 l2 : Option mx_V) (v0 v1 v2 v3 v4 v5 : mx_V) (S h : mx_H) (n : Int), mx_ex d 259 642 [l0, l1, l2, some (0, x)] [v0, v1, v2, v3, v4, v5] S h n = mx_ex d 259 643 [l0, l1, l2, some (0, x)] [(0, x), v0, v1, v2, v3, v4, v5] S h n) ∧
  (∀ (d : Nat) (l0 l1 l2 l3 : Option mx_V) (v0 v1 v2 v3 v4 v5 v6 : mx_V) (S h : mx_H) (n : Int), mx_ex d 259 643 [l0, l1, l2, l3] [v0, v1, v2, v3, v4, v5, v6] S h n = mx_ex d 259 644 [l0, l1, l2, l3] [(0, 4), v0, v1, v2, v3, v4, v5, v6] S h n) ∧
  (∀ (d : Nat) (b a : Int) (l0 l1 l2 l3 : Option mx_V) (v2 v3 v4 v5 v6 v7 : mx_V) (S h : mx_H) (n : Int), mx_ex d 259 644 [l0, l1, l2, l3] [(0, b), (0, a), v2, v3, v4, v5, v6, v7] S h n = mx_ex d 259 645 [l0, l1, l2, l3] [(0, mx_w (a + b)), v2, v3, v4, v5, v6, v7] S h n) ∧
  (∀ (d : Nat) (i a : Int) (l0 l1 l2 l3 : Option mx_V) (v2 v3 v4 v5 v6 : mx_V) (S h : mx_H) (n : Int), mx_ex d 259 645 [l0, l1, l2, l3] [(0, i), (2, a), v2, v3, v4, v5, v6] S h n = mx_gd ((S a (-2) = 20 ∨ S a (-2) = 24) ∧ 0 ≤ i ∧ i < S a (-1)) d 259 646 [l0, l1, l2, l3] [(0, h a i), v2, v3, v4, v5, v6] S h n) ∧
  (∀ (d : Nat) (x0 x1 x2 x3 a : Int) (l0 l1 l2 l3 : Option mx_V) (v5 : mx_V) (S h : mx_H) (n : Int), mx_ex (d + 1) 259 646 [l0, l1, l2, l3] [(0, x0), (0, x1), (0, x2), (0, x3), (2, a), v5] S h n = mx_cl (S a (-2) = 13) d 190 [(2, a), (0, x3), (0, x2), (0, x1), (0, x0)] 259 649 [l0, l1, l2, l3] [v5] S h n) ∧
  (∀ (d : Nat) (b a : Int) (l0 l1 l2 l3 : Option mx_V) (S h : mx_H) (n : Int), mx_ex d 259 649 [l0, l1, l2, l3] [(0, b), (0, a)] S h n = mx_br (a = b) d 259 1653 652 [l0, l1, l2, l3] [] S h n) ∧
  (∀ (d : Nat) (l0 l1 l2 l3 : Option mx_V) (S h : mx_H) (n : Int), mx_ex d 259 652 [l0, l1, l2, l3] [] S h n = mx_ex d 259 653 [l0, l1, l2, l3] [(0, 0)] S h n) ∧
  (∀ (d : Nat) (x : Int) (l0 l1 l2 l3 : Option mx_V) (S h : mx_H) (n : Int), mx_ex d 259 653 [l0, l1, l2, l3] [(0, x)] S h n = mx_re (0 ≤ x ∧ x ≤ 1) (some (0, x)) S h n) ∧
  (∀ (d : Nat) (x : Int) (l0 l2 l3 : Option mx_V) (S h : mx_H) (n : Int), mx_ex d 259 654 [l0, some (2, x), l2, l3] [] S h n = mx_ex d 259 655 [l0, some (2, x), l2, l3] [(2, x)] S h n) ∧
  (∀ (d : Nat) (x : Int) (l1 l2 l3 : Option mx_V) (v0 : mx_V) (S h : mx_H) (n : Int), mx_ex d 259 655 [some (2, x), l1, l2, l3] [v0] S h n = mx_ex d 259 656 [some (2, x), l1, l2, l3] [(2, x), v0] S h n) ∧
  (∀ (d : Nat) (x : Int) (l0 l1 l2 : Option mx_V) (v0 v1 : mx_V) (S h : mx_H) (n : Int), mx_ex d 259 656 [l0, l1, l2, some (0, x)] [v0, v1] S h n = mx_ex d 259 657 [l0, l1, l2, some (0, x)] [(0, x), v0, v1] S h n) ∧
  (∀ (d : Nat) (l0 l1 l2 l3 : Option mx_V) (v0 v1 v2 : mx_V) (S h : mx_H) (n : Int), mx_ex d 259 657 [l0, l1, l2, l3] [v0, v1, v2] S h n = mx_ex d 259 658 [l0, l1, l2, l3] [(0, 1), v0, v1, v2] S h n) ∧
  (∀ (d : Nat) (b a : Int) (l0 l1 l2 l3 : Option mx_V) (v2 v3 : mx_V) (S h : mx_H) (n : Int), mx_ex d 259 658 [l0, l1, l2, l3] [(0, b), (0, a), v2, v3] S h n = mx_ex d 259 659 [l0, l1, l2, l3] [(0, mx_w (a + b)), v2, v3] S h n) ∧
  (∀ (d : Nat) (i a : Int) (l0 l1 l2 l3 : Option mx_V) (v2 : mx_V) (S h : mx_H) (n : Int), mx_ex d 259 659 [l0, l1, l2, l3] [(0, i), (2, a), v2] S h n = mx_gd ((S a (-2) = 20 ∨ S a (-2) = 24) ∧ 0 ≤ i ∧ i < S a (-1)) d 259 660 [l0, l1, l2, l3] [(0, h a i), v2] S h n) ∧
  (∀ (d : Nat) (x : Int) (l1 l2 l3 : Option mx_V) (v0 v1 : mx_V) (S h : mx_H) (n : Int), mx_ex d 259 660 [some (2, x), l1, l2, l3] [v0, v1] S h n = mx_ex d 259 661 [some (2, x), l1, l2, l3] [(2, x), v0, v1] S h n) ∧
  (∀ (d : Nat) (x : Int) (l0 l1 l2 : Option mx_V) (v0 v1 v2 : mx_V) (S h : mx_H) (n : Int), mx_ex d 259 661 [l0, l1, l2, some (0, x)] [v0, v1, v2] S h n = mx_ex d 259 662 [l0, l1, l2, some (0, x)] [(0, x), v0, v1, v2] S h n) ∧
  (∀ (d : Nat) (l0 l1 l2 l3 : Option mx_V) (v0 v1 v2 v3 : mx_V) (S h : mx_H) (n : Int), mx_ex d 259 662 [l0, l1, l2, l3] [v0, v1, v2, v3] S h n = mx_ex d 259 663 [l0, l1, l2, l3] [(0, 2), v0, v1, v2, v3] S h n) ∧
  (∀ (d : Nat) (b a : Int) (l0 l1 l2 l3 : Option mx_V) (v2 v3 v4 : mx_V) (S h : mx_H) (n : Int), mx_ex d 259 663 [l0, l1, l2, l3] [(0, b), (0, a), v2, v3, v4] S h n = mx_ex d 259 664 [l0, l1, l2, l3] [(0, mx_w (a + b)), v2, v3, v4] S h n) ∧
  (∀ (d : Nat) (i a : Int) (l0 l1 l2 l3 : Option mx_V) (v2 v3 : mx_V) (S h : mx_H) (n : Int), mx_ex d 259 664 [l0, l1, l2, l3] [(0, i), (2, a), v2, v3] S h n = mx_gd ((S a (-2) = 20 ∨ S a (-2) = 24) ∧ 0 ≤ i ∧ i < S a (-1)) d 259 665 [l0, l1, l2, l3] [(0, h a i), v2, v3] S h n) ∧
  (∀ (d : Nat) (x0 x1 a : Int) (l0 l1 l2 l3 : Option mx_V) (S h : mx_H) (n : Int), mx_ex (d + 1) 259 665 [l0, l1, l2, l3] [(0, x0), (0, x1), (2, a)] S h n = mx_cl (S a (-2) = 7) d 112 [(2, a), (0, x1), (0, x0)] 259 668 [l0, l1, l2, l3] [] S h n) ∧
  (∀ (d : Nat) (x : Int) (l0 l1 l3 : Option mx_V) (v0 : mx_V) (S h : mx_H) (n : Int), mx_ex d 259 668 [l0, l1, some (2, x), l3] [v0] S h n = mx_ex d 259 669 [l0, l1, some (2, x), l3] [(2, x), v0] S h n) ∧
  (∀ (d : Nat) (x : Int) (l1 l2 l3 : Option mx_V) (v0 v1 : mx_V) (S h : mx_H) (n : Int), mx_ex d 259 669 [some (2, x), l1, l2, l3] [v0, v1] S h n = mx_ex d 259 670 [some (2, x), l1, l2, l3] [(2, x), v0, v1] S h n) ∧
  (∀ (d : Nat) (x : Int) (l0 l1 l2 : Option mx_V) (v0 v1 v2 : mx_V) (S h : mx_H) (n : Int), mx_ex d 259 670 [l0, l1, l2, some (0, x)] [v0, v1, v2] S h n = mx_ex d 259 671 [l0, l1, l2, some (0, x)] [(0, x), v0, v1, v2] S h n) ∧
  (∀ (d : Nat) (l0 l1 l2 l3 : Option mx_V) (v0 v1 v2 v3 : mx_V) (S h : mx_H) (n : Int), mx_ex d 259 671 [l0, l1, l2, l3] [v0, v1, v2, v3] S h n = mx_ex d 259 672 [l0, l1, l2, l3] [(0, 1), v0, v1, v2, v3] S h n) ∧
  (∀ (d : Nat) (b a : Int) (l0 l1 l2 l3 : Option mx_V) (v2 v3 v4 : mx_V) (S h : mx_H) (n : Int), mx_ex d 259 672 [l0, l1, l2, l3] [(0, b), (0, a), v2, v3, v4] S h n = mx_ex d 259 673 [l0, l1, l2, l3] [(0, mx_w (a + b)), v2, v3, v4] S h n) ∧
  (∀ (d : Nat) (i a : Int) (l0 l1 l2 l3 : Option mx_V) (v2 v3 : mx_V) (S h : mx_H) (n : Int), mx_ex d 259 673 [l0, l1, l2, l3] [(0, i), (2, a), v2, v3] S h n = mx_gd ((S a (-2) = 20 ∨ S a (-2) = 24) ∧ 0 ≤ i ∧ i < S a (-1)) d 259 674 [l0, l1, l2, l3] [(0, h a i), v2, v3] S h n) ∧
  (∀ (d : Nat) (x : Int) (l1 l2 l3 : Option mx_V) (v0 v1 v2 : mx_V) (S h : mx_H) (n : Int), mx_ex d 259 674 [some (2, x), l1, l2, l3] [v0, v1, v2] S h n = mx_ex d 259 675 [some (2, x), l1, l2, l3] [(2, x), v0, v1, v2] S h n) ∧
  (∀ (d : Nat) (x : Int) (l0 l1 l2 : Option mx_V) (v0 v1 v2 v3 : mx_V) (S h : mx_H) (n : Int), mx_ex d 259 675 [l0, l1, l2, some (0, x)] [v0, v1, v2, v3] S h n = mx_ex d 259 676 [l0, l1, l2, some (0, x)] [(0, x), v0, v1, v2, v3] S h n) ∧
  (∀ (d : Nat) (l0 l1 l2 l3 : Option mx_V) (v0 v1 v2 v3 v4 : mx_V) (S h : mx_H) (n : Int), mx_ex d 259 676 [l0, l1, l2, l3] [v0, v1, v2, v3, v4] S h n = mx_ex d 259 677 [l0, l1, l2, l3] [(0, 2), v0, v1, v2, v3, v4] S h n) ∧
  (∀ (d : Nat) (b a : Int) (l0 l1 l2 l3 : Option mx_V) (v2 v3 v4 v5 : mx_V) (S h : mx_H) (n : Int), mx_ex d 259 677 [l0, l1, l2, l3] [(0, b), (0, a), v2, v3, v4, v5] S h n = mx_ex d 259 678 [l0, l1, l2, l3] [(0, mx_w (a + b)), v2, v3, v4, v5] S h n) ∧
  (∀ (d : Nat) (i a : Int) (l0 l1 l2 l3 : Option mx_V) (v2 v3 v4 : mx_V) (S h : mx_H) (n : Int), mx_ex d 259 678 [l0, l1, l2, l3] [(0, i), (2, a), v2, v3, v4] S h n = mx_gd ((S a (-2) = 20 ∨ S a (-2) = 24) ∧ 0 ≤ i ∧ i < S a (-1)) d 259 679 [l0, l1, l2, l3] [(0, h a i), v2, v3, v4] S h n) ∧
  (∀ (d : Nat) (x0 x1 a : Int) (l0 l1 l2 l3 : Option mx_V) (v3 : mx_V) (S h : mx_H) (n : Int), mx_ex (d + 1) 259 679 [l0, l1, l2, l3] [(0, x0), (0, x1), (2, a), v3] S h n = mx_cl (S a (-2) = 13) d 191 [(2, a), (0, x1), (0, x0)] 259 682 [l0, l1, l2, l3] [v3] S h n) ∧
  (∀ (d : Nat) (b a : Int) (l0 l1 l2 l3 : Option mx_V) (S h : mx_H) (n : Int), mx_ex d 259 682 [l0, l1, l2, l3] [(0, b), (0, a)] S h n = mx_br (a = b) d 259 1653 685 [l0, l1, l2, l3] [] S h n) ∧
  (∀ (d : Nat) (l0 l1 l2 l3 : Option mx_V) (S h : mx_H) (n : Int), mx_ex d 259 685 [l0, l1, l2, l3] [] S h n = mx_ex d 259 686 [l0, l1, l2, l3] [(0, 0)] S h n) ∧
  (∀ (d : Nat) (x : Int) (l0 l1 l2 l3 : Option mx_V) (S h : mx_H) (n : Int), mx_ex d 259 686 [l0, l1, l2, l3] [(0, x)] S h n = mx_re (0 ≤ x ∧ x ≤ 1) (some (0, x)) S h n) ∧
  (∀ (d : Nat) (x : Int) (l0 l2 l3 : Option mx_V) (S h : mx_H) (n : Int), mx_ex d 259 687 [l0, some (2, x), l2, l3] [] S h n = mx_ex d 259 688 [l0, some (2, x), l2, l3] [(2, x)] S h n) ∧
  (∀ (d : Nat) (x : Int) (l1 l2 l3 : Option mx_V) (v0 : mx_V) (S h : mx_H) (n : Int), mx_ex d 259 688 [some (2, x), l1, l2, l3] [v0] S h n = mx_ex d 259 689 [some (2, x), l1, l2, l3] [(2, x), v0] S h n) ∧
  (∀ (d : Nat) (x : Int) (l0 l1 l2 : Option mx_V) (v0 v1 : mx_V) (S h : mx_H) (n : Int), mx_ex d 259 689 [l0, l1, l2, some (0, x)] [v0, v1] S h n = mx_ex d 259 690 [l0, l1, l2, some (0, x)] [(0, x), v0, v1] S h n) ∧
  (∀ (d : Nat) (l0 l1 l2 l3 : Option mx_V) (v0 v1 v2 : mx_V) (S h : mx_H) (n : Int), mx_ex d 259 690 [l0, l1, l2, l3] [v0, v1, v2] S h n = mx_ex d 259 691 [l0, l1, l2, l3] [(0, 1), v0, v1, v2] S h n) ∧
  (∀ (d : Nat) (b a : Int) (l0 l1 l2 l3 : Option mx_V) (v2 v3 : mx_V) (S h : mx_H) (n : Int), mx_ex d 259 691 [l0, l1, l2, l3] [(0, b), (0, a), v2, v3] S h n = mx_ex d 259 692 [l0, l1, l2, l3] [(0, mx_w (a + b)), v2, v3] S h n) ∧
  (∀ (d : Nat) (i a : Int) (l0 l1 l2 l3 : Option mx_V) (v2 : mx_V) (S h : mx_H) (n : Int), mx_ex d 259 692 [l0, l1, l2, l3] [(0, i), (2, a), v2] S h n = mx_gd ((S a (-2) = 20 ∨ S a (-2) = 24) ∧ 0 ≤ i ∧ i < S a (-1)) d 259 693 [l0, l1, l2, l3] [(0, h a i), v2] S h n) ∧
  (∀ (d : Nat) (x0 a : Int) (l0 l1 l2 l3 : Option mx_V) (S h : mx_H) (n : Int), mx_ex (d + 1) 259 693 [l0, l1, l2, l3] [(0, x0), (2, a)] S h n = mx_cl (S a (-2) = 7) d 113 [(2, a), (0, x0)] 259 696 [l0, l1, l2, l3] [] S h n) ∧
  (∀ (d : Nat) (x : Int) (l0 l1 l3 : Option mx_V) (v0 : mx_V) (S h : mx_H) (n : Int), mx_ex d 259 696 [l0, l1, some (2, x), l3] [v0] S h n = mx_ex d 259 697 [l0, l1, some (2, x), l3] [(2, x), v0] S h n) ∧
  (∀ (d : Nat) (x : Int) (l1 l2 l3 : Option mx_V) (v0 v1 : mx_V) (S h : mx_H) (n : Int), mx_ex d 259 697 [some (2, x), l1, l2, l3] [v0, v1] S h n = mx_ex d 259 698 [some (2, x), l1, l2, l3] [(2, x), v0, v1] S h n) :=
  ⟨by intros; exact eq_push rfl,
   by intros; exact eq_i2 (o := mx_add) rfl,
   by intros; exact eq_iald rfl,
   by intros; exact eq_ld rfl rfl,
   by intros; exact eq_ld rfl rfl,
   by intros; exact eq_push rfl,
   by intros; exact eq_i2 (o := mx_add) rfl,
   by intros; exact eq_iald rfl,
   by intros; exact eq_cv rfl (Nat.le_of_ble_eq_true rfl) rfl rfl rfl (Nat.le_of_ble_eq_true rfl),
   by intros; exact eq_ld rfl rfl,
   by intros; exact eq_ld rfl rfl,
   by intros; exact eq_ld rfl rfl,
   by intros; exact eq_push rfl,
   by intros; exact eq_i2 (o := mx_add) rfl,
   by intros; exact eq_iald rfl,
   by intros; exact eq_ld rfl rfl,
   by intros; exact eq_ld rfl rfl,
   by intros; exact eq_push rfl,
   by intros; exact eq_i2 (o := mx_add) rfl,
   by intros; exact eq_iald rfl,
   by intros; exact eq_ld rfl rfl,
   by intros; exact eq_ld rfl rfl,
   by intros; exact eq_push rfl,
   by intros; exact eq_i2 (o := mx_add) rfl,
   by intros; exact eq_iald rfl,
   by intros; exact eq_ld rfl rfl,
   by intros; exact eq_ld rfl rfl,
   by intros; exact eq_push rfl,
   by intros; exact eq_i2 (o := mx_add) rfl,
   by intros; exact eq_iald rfl,
   by intros; exact eq_cv rfl (Nat.le_of_ble_eq_true rfl) rfl rfl rfl (Nat.le_of_ble_eq_true rfl),
   by intros; exact eq_ic0 rfl,
   by intros; exact eq_push rfl,
   by intros; exact eq_rr rfl,
   by intros; exact eq_ld rfl rfl,
   by intros; exact eq_ld rfl rfl,
   by intros; exact eq_ld rfl rfl,
   by intros; exact eq_push rfl,
   by intros; exact eq_i2 (o := mx_add) rfl,
   by intros; exact eq_iald rfl,
   by intros; exact eq_ld rfl rfl,
   by intros; exact eq_ld rfl rfl,
   by intros; exact eq_push rfl,
   by intros; exact eq_i2 (o := mx_add) rfl,
   by intros; exact eq_iald rfl,
   by intros; exact eq_cv rfl (Nat.le_of_ble_eq_true rfl) rfl rfl rfl (Nat.le_of_ble_eq_true rfl),
   by intros; exact eq_ld rfl rfl,
   by intros; exact eq_ld rfl rfl,
   by intros; exact eq_ld rfl rfl,
   by intros; exact eq_push rfl,
   by intros; exact eq_i2 (o := mx_add) rfl,
   by intros; exact eq_iald rfl,
   by intros; exact eq_ld rfl rfl,
   by intros; exact eq_ld rfl rfl,
   by intros; exact eq_push rfl,
   by intros; exact eq_i2 (o := mx_add) rfl,
   by intros; exact eq_iald rfl,
   by intros; exact eq_cv rfl (Nat.le_of_ble_eq_true rfl) rfl rfl rfl (Nat.le_of_ble_eq_true rfl),
   by intros; exact eq_ic0 rfl,
   by intros; exact eq_push rfl,
   by intros; exact eq_rr rfl,
   by intros; exact eq_ld rfl rfl,
   by intros; exact eq_ld rfl rfl,
   by intros; exact eq_ld rfl rfl,
   by intros; exact eq_push rfl,
   by intros; exact eq_i2 (o := mx_add) rfl,
   by intros; exact eq_iald rfl,
   by intros; exact eq_cv rfl (Nat.le_of_ble_eq_true rfl) rfl rfl rfl (Nat.le_of_ble_eq_true rfl),
   by intros; exact eq_ld rfl rfl,
   by intros; exact eq_ld rfl rfl⟩
theorem rw_L_law_6 :
  (∀ (d : Nat) (x : Int) (l0 l1 l2 : Option mx_V) (v0 v1 v2 : mx_V) (S h : mx_H) (n : Int), mx_ex d 259 698 [l0, l1, l2, some (0, x)] [v0, v1, v2] S h n = mx_ex d 259 699 [l0, l1, l2, some (0, x)] [(0, x), v0, v1, v2] S h n) ∧
  (∀ (d : Nat) (l0 l1 l2 l3 : Option mx_V) (v0 v1 v2 v3 : mx_V) (S h : mx_H) (n : Int), mx_ex d 259 699 [l0, l1, l2, l3] [v0, v1, v2, v3] S h n = mx_ex d 259 700 [l0, l1, l2, l3] [(0, 1), v0, v1, v2, v3] S h n) ∧
  (∀ (d : Nat) (b a : Int) (l0 l1 l2 l3 : Option mx_V) (v2 v3 v4 : mx_V) (S h : mx_H) (n : Int), mx_ex d 259 700 [l0, l1, l2, l3] [(0, b), (0, a), v2, v3, v4] S h n = mx_ex d 259 701 [l0, l1, l2, l3] [(0, mx_w (a + b)), v2, v3, v4] S h n) ∧
  (∀ (d : Nat) (i a : Int) (l0 l1 l2 l3 : Option mx_V) (v2 v3 : mx_V) (S h : mx_H) (n : Int), mx_ex d 259 701 [l0, l1, l2, l3] [(0, i), (2, a), v2, v3] S h n = mx_gd ((S a (-2) = 20 ∨ S a (-2) = 24) ∧ 0 ≤ i ∧ i < S a (-1)) d 259 702 [l0, l1, l2, l3] [(0, h a i), v2, v3] S h n) ∧
  (∀ (d : Nat) (x0 a : Int) (l0 l1 l2 l3 : Option mx_V) (v2 : mx_V) (S h : mx_H) (n : Int), mx_ex (d + 1) 259 702 [l0, l1, l2, l3] [(0, x0), (2, a), v2] S h n = mx_cl (S a (-2) = 13) d 192 [(2, a), (0, x0)] 259 705 [l0, l1, l2, l3] [v2] S h n) ∧
  (∀ (d : Nat) (b a : Int) (l0 l1 l2 l3 : Option mx_V) (S h : mx_H) (n : Int), mx_ex d 259 705 [l0, l1, l2, l3] [(0, b), (0, a)] S h n = mx_br (a = b) d 259 1653 708 [l0, l1, l2, l3] [] S h n) ∧
  (∀ (d : Nat) (l0 l1 l2 l3 : Option mx_V) (S h : mx_H) (n : Int), mx_ex d 259 708 [l0, l1, l2, l3] [] S h n = mx_ex d 259 709 [l0, l1, l2, l3] [(0, 0)] S h n) ∧
  (∀ (d : Nat) (x : Int) (l0 l1 l2 l3 : Option mx_V) (S h : mx_H) (n : Int), mx_ex d 259 709 [l0, l1, l2, l3] [(0, x)] S h n = mx_re (0 ≤ x ∧ x ≤ 1) (some (0, x)) S h n) ∧
  (∀ (d : Nat) (x : Int) (l0 l2 l3 : Option mx_V) (S h : mx_H) (n : Int), mx_ex d 259 710 [l0, some (2, x), l2, l3] [] S h n = mx_ex d 259 711 [l0, some (2, x), l2, l3] [(2, x)] S h n) ∧
  (∀ (d : Nat) (a : Int) (l0 l1 l2 l3 : Option mx_V) (S h : mx_H) (n : Int), mx_ex (d + 1) 259 711 [l0, l1, l2, l3] [(2, a)] S h n = mx_cl (S a (-2) = 7) d 114 [(2, a)] 259 714 [l0, l1, l2, l3] [] S h n) ∧
  (∀ (d : Nat) (x : Int) (l0 l1 l3 : Option mx_V) (v0 : mx_V) (S h : mx_H) (n : Int), mx_ex d 259 714 [l0, l1, some (2, x), l3] [v0] S h n = mx_ex d 259 715 [l0, l1, some (2, x), l3] [(2, x), v0] S h n) ∧
  (∀ (d : Nat) (a : Int) (l0 l1 l2 l3 : Option mx_V) (v1 : mx_V) (S h : mx_H) (n : Int), mx_ex (d + 1) 259 715 [l0, l1, l2, l3] [(2, a), v1] S h n = mx_cl (S a (-2) = 13) d 198 [(2, a)] 259 718 [l0, l1, l2, l3] [v1] S h n) ∧
  (∀ (d : Nat) (b a : Int) (l0 l1 l2 l3 : Option mx_V) (S h : mx_H) (n : Int), mx_ex d 259 718 [l0, l1, l2, l3] [(0, b), (0, a)] S h n = mx_br (a = b) d 259 1653 721 [l0, l1, l2, l3] [] S h n) ∧
  (∀ (d : Nat) (l0 l1 l2 l3 : Option mx_V) (S h : mx_H) (n : Int), mx_ex d 259 721 [l0, l1, l2, l3] [] S h n = mx_ex d 259 722 [l0, l1, l2, l3] [(0, 0)] S h n) ∧
  (∀ (d : Nat) (x : Int) (l0 l1 l2 l3 : Option mx_V) (S h : mx_H) (n : Int), mx_ex d 259 722 [l0, l1, l2, l3] [(0, x)] S h n = mx_re (0 ≤ x ∧ x ≤ 1) (some (0, x)) S h n) ∧
  (∀ (d : Nat) (x : Int) (l0 l2 l3 : Option mx_V) (S h : mx_H) (n : Int), mx_ex d 259 723 [l0, some (2, x), l2, l3] [] S h n = mx_ex d 259 724 [l0, some (2, x), l2, l3] [(2, x)] S h n) ∧
  (∀ (d : Nat) (x : Int) (l1 l2 l3 : Option mx_V) (v0 : mx_V) (S h : mx_H) (n : Int), mx_ex d 259 724 [some (2, x), l1, l2, l3] [v0] S h n = mx_ex d 259 725 [some (2, x), l1, l2, l3] [(2, x), v0] S h n) ∧
  (∀ (d : Nat) (x : Int) (l0 l1 l2 : Option mx_V) (v0 v1 : mx_V) (S h : mx_H) (n : Int), mx_ex d 259 725 [l0, l1, l2, some (0, x)] [v0, v1] S h n = mx_ex d 259 726 [l0, l1, l2, some (0, x)] [(0, x), v0, v1] S h n) ∧
  (∀ (d : Nat) (l0 l1 l2 l3 : Option mx_V) (v0 v1 v2 : mx_V) (S h : mx_H) (n : Int), mx_ex d 259 726 [l0, l1, l2, l3] [v0, v1, v2] S h n = mx_ex d 259 727 [l0, l1, l2, l3] [(0, 1), v0, v1, v2] S h n) ∧
  (∀ (d : Nat) (b a : Int) (l0 l1 l2 l3 : Option mx_V) (v2 v3 : mx_V) (S h : mx_H) (n : Int), mx_ex d 259 727 [l0, l1, l2, l3] [(0, b), (0, a), v2, v3] S h n = mx_ex d 259 728 [l0, l1, l2, l3] [(0, mx_w (a + b)), v2, v3] S h n) ∧
  (∀ (d : Nat) (i a : Int) (l0 l1 l2 l3 : Option mx_V) (v2 : mx_V) (S h : mx_H) (n : Int), mx_ex d 259 728 [l0, l1, l2, l3] [(0, i), (2, a), v2] S h n = mx_gd ((S a (-2) = 20 ∨ S a (-2) = 24) ∧ 0 ≤ i ∧ i < S a (-1)) d 259 729 [l0, l1, l2, l3] [(0, h a i), v2] S h n) ∧
  (∀ (d : Nat) (x : Int) (l1 l2 l3 : Option mx_V) (v0 v1 : mx_V) (S h : mx_H) (n : Int), mx_ex d 259 729 [some (2, x), l1, l2, l3] [v0, v1] S h n = mx_ex d 259 730 [some (2, x), l1, l2, l3] [(2, x), v0, v1] S h n) ∧
  (∀ (d : Nat) (x : Int) (l0 l1 l2 : Option mx_V) (v0 v1 v2 : mx_V) (S h : mx_H) (n : Int), mx_ex d 259 730 [l0, l1, l2, some (0, x)] [v0, v1, v2] S h n = mx_ex d 259 731 [l0, l1, l2, some (0, x)] [(0, x), v0, v1, v2] S h n) ∧
  (∀ (d : Nat) (l0 l1 l2 l3 : Option mx_V) (v0 v1 v2 v3 : mx_V) (S h : mx_H) (n : Int), mx_ex d 259 731 [l0, l1, l2, l3] [v0, v1, v2, v3] S h n = mx_ex d 259 732 [l0, l1, l2, l3] [(0, 2), v0, v1, v2, v3] S h n) ∧
  (∀ (d : Nat) (b a : Int) (l0 l1 l2 l3 : Option mx_V) (v2 v3 v4 : mx_V) (S h : mx_H) (n : Int), mx_ex d 259 732 [l0, l1, l2, l3] [(0, b), (0, a), v2, v3, v4] S h n = mx_ex d 259 733 [l0, l1, l2, l3] [(0, mx_w (a + b)), v2, v3, v4] S h n) ∧
  (∀ (d : Nat) (i a : Int) (l0 l1 l2 l3 : Option mx_V) (v2 v3 : mx_V) (S h : mx_H) (n : Int), mx_ex d 259 733 [l0, l1, l2, l3] [(0, i), (2, a), v2, v3] S h n = mx_gd ((S a (-2) = 20 ∨ S a (-2) = 24) ∧ 0 ≤ i ∧ i < S a (-1)) d 259 734 [l0, l1, l2, l3] [(0, h a i), v2, v3] S h n) ∧
  (∀ (d : Nat) (x0 x1 a : Int) (l0 l1 l2 l3 : Option mx_V) (S h : mx_H) (n : Int), mx_ex (d + 1) 259 734 [l0, l1, l2, l3] [(0, x0), (0, x1), (2, a)] S h n = mx_cl (S a (-2) = 7) d 115 [(2, a), (0, x1), (0, x0)] 259 737 [l0, l1, l2, l3] [] S h n) ∧
  (∀ (d : Nat) (x : Int) (l0 l1 l3 : Option mx_V) (v0 : mx_V) (S h : mx_H) (n : Int), mx_ex d 259 737 [l0, l1, some (2, x), l3] [v0] S h n = mx_ex d 259 738 [l0, l1, some (2, x), l3] [(2, x), v0] S h n) ∧
  (∀ (d : Nat) (x : Int) (l1 l2 l3 : Option mx_V) (v0 v1 : mx_V) (S h : mx_H) (n : Int), mx_ex d 259 738 [some (2, x), l1, l2, l3] [v0, v1] S h n = mx_ex d 259 739 [some (2, x), l1, l2, l3] [(2, x), v0, v1] S h n) ∧
  (∀ (d : Nat) (x : Int) (l0 l1 l2 : Option mx_V) (v0 v1 v2 : mx_V) (S h : mx_H) (n : Int), mx_ex d 259 739 [l0, l1, l2, some (0, x)] [v0, v1, v2] S h n = mx_ex d 259 740 [l0, l1, l2, some (0, x)] [(0, x), v0, v1, v2] S h n) ∧
  (∀ (d : Nat) (l0 l1 l2 l3 : Option mx_V) (v0 v1 v2 v3 : mx_V) (S h : mx_H) (n : Int), mx_ex d 259 740 [l0, l1, l2, l3] [v0, v1, v2, v3] S h n = mx_ex d 259 741 [l0, l1, l2, l3] [(0, 1), v0, v1, v2, v3] S h n) ∧
  (∀ (d : Nat) (b a : Int) (l0 l1 l2 l3 : Option mx_V) (v2 v3 v4 : mx_V) (S h : mx_H) (n : Int), mx_ex d 259 741 [l0, l1, l2, l3] [(0, b), (0, a), v2, v3, v4] S h n = mx_ex d 259 742 [l0, l1, l2, l3] [(0, mx_w (a + b)), v2, v3, v4] S h n) ∧
  (∀ (d : Nat) (i a : Int) (l0 l1 l2 l3 : Option mx_V) (v2 v3 : mx_V) (S h : mx_H) (n : Int), mx_ex d 259 742 [l0, l1, l2, l3] [(0, i), (2, a), v2, v3] S h n = mx_gd ((S a (-2) = 20 ∨ S a (-2) = 24) ∧ 0 ≤ i ∧ i < S a (-1)) d 259 743 [l0, l1, l2, l3] [(0, h a i), v2, v3] S h n) ∧
  (∀ (d : Nat) (x : Int) (l1 l2 l3 : Option mx_V) (v0 v1 v2 : mx_V) (S h : mx_H) (n : Int), mx_ex d 259 743 [some (2, x), l1, l2, l3] [v0, v1, v2] S h n = mx_ex d 259 744 [some (2, x), l1, l2, l3] [(2, x), v0, v1, v2] S h n) ∧
  (∀ (d : Nat) (x : Int) (l0 l1 l2 : Option mx_V) (v0 v1 v2 v3 : mx_V) (S h : mx_H) (n : Int), mx_ex d 259 744 [l0, l1, l2, some (0, x)] [v0, v1, v2, v3] S h n = mx_ex d 259 745 [l0, l1, l2, some (0, x)] [(0, x), v0, v1, v2, v3] S h n) ∧
  (∀ (d : Nat) (l0 l1 l2 l3 : Option mx_V) (v0 v1 v2 v3 v4 : mx_V) (S h : mx_H) (n : Int), mx_ex d 259 745 [l0, l1, l2, l3] [v0, v1, v2, v3, v4] S h n = mx_ex d 259 746 [l0, l1, l2, l3] [(0, 2), v0, v1, v2, v3, v4] S h n) ∧
  (∀ (d : Nat) (b a : Int) (l0 l1 l2 l3 : Option mx_V) (v2 v3 v4 v5 : mx_V) (S h : mx_H) (n : Int), mx_ex d 259 746 [l0, l1, l2, l3] [(0, b), (0, a), v2, v3, v4, v5] S h n = mx_ex d 259 747 [l0, l1, l2, l3] [(0, mx_w (a + b)), v2, v3, v4, v5] S h n) ∧
  (∀ (d : Nat) (i a : Int) (l0 l1 l2 l3 : Option mx_V) (v2 v3 v4 : mx_V) (S h : mx_H) (n : Int), mx_ex d 259 747 [l0, l1, l2, l3] [(0, i), (2, a), v2, v3, v4] S h n = mx_gd ((S a (-2) = 20 ∨ S a (-2) = 24) ∧ 0 ≤ i ∧ i < S a (-1)) d 259 748 [l0, l1, l2, l3] [(0, h a i), v2, v3, v4] S h n) ∧
  (∀ (d : Nat) (x0 x1 a : Int) (l0 l1 l2 l3 : Option mx_V) (v3 : mx_V) (S h : mx_H) (n : Int), mx_ex (d + 1) 259 748 [l0, l1, l2, l3] [(0, x0), (0, x1), (2, a), v3] S h n = mx_cl (S a (-2) = 13) d 201 [(2, a), (0, x1), (0, x0)] 259 751 [l0, l1, l2, l3] [v3] S h n) ∧
  (∀ (d : Nat) (b a : Int) (l0 l1 l2 l3 : Option mx_V) (S h : mx_H) (n : Int), mx_ex d 259 751 [l0, l1, l2, l3] [(0, b), (0, a)] S h n = mx_br (a = b) d 259 1653 754 [l0, l1, l2, l3] [] S h n) ∧
  (∀ (d : Nat) (l0 l1 l2 l3 : Option mx_V) (S h : mx_H) (n : Int), mx_ex d 259 754 [l0, l1, l2, l3] [] S h n = mx_ex d 259 755 [l0, l1, l2, l3] [(0, 0)] S h n) ∧
  (∀ (d : Nat) (x : Int) (l0 l1 l2 l3 : Option mx_V) (S h : mx_H) (n : Int), mx_ex d 259 755 [l0, l1, l2, l3] [(0, x)] S h n = mx_re (0 ≤ x ∧ x ≤ 1) (some (0, x)) S h n) ∧
  (∀ (d : Nat) (x : Int) (l0 l2 l3 : Option mx_V) (S h : mx_H) (n : Int), mx_ex d 259 756 [l0, some (2, x), l2, l3] [] S h n = mx_ex d 259 757 [l0, some (2, x), l2, l3] [(2, x)] S h n) ∧
  (∀ (d : Nat) (x : Int) (l1 l2 l3 : Option mx_V) (v0 : mx_V) (S h : mx_H) (n : Int), mx_ex d 259 757 [some (2, x), l1, l2, l3] [v0] S h n = mx_ex d 259 758 [some (2, x), l1, l2, l3] [(2, x), v0] S h n) ∧
  (∀ (d : Nat) (x : Int) (l0 l1 l2 : Option mx_V) (v0 v1 : mx_V) (S h : mx_H) (n : Int), mx_ex d 259 758 [l0, l1, l2, some (0, x)] [v0, v1] S h n = mx_ex d 259 759 [l0, l1, l2, some (0, x)] [(0, x), v0, v1] S h n) ∧
  (∀ (d : Nat) (l0 l1 l2 l3 : Option mx_V) (v0 v1 v2 : mx_V) (S h : mx_H) (n : Int), mx_ex d 259 759 [l0, l1, l2, l3] [v0, v1, v2] S h n = mx_ex d 259 760 [l0, l1, l2, l3] [(0, 1), v0, v1, v2] S h n) ∧
  (∀ (d : Nat) (b a : Int) (l0 l1 l2 l3 : Option mx_V) (v2 v3 : mx_V) (S h : mx_H) (n : Int), mx_ex d 259 760 [l0, l1, l2, l3] [(0, b), (0, a), v2, v3] S h n = mx_ex d 259 761 [l0, l1, l2, l3] [(0, mx_w (a + b)), v2, v3] S h n) ∧
  (∀ (d : Nat) (i a : Int) (l0 l1 l2 l3 : Option mx_V) (v2 : mx_V) (S h : mx_H) (n : Int), mx_ex d 259 761 [l0, l1, l2, l3] [(0, i), (2, a), v2] S h n = mx_gd ((S a (-2) = 20 ∨ S a (-2) = 24) ∧ 0 ≤ i ∧ i < S a (-1)) d 259 762 [l0, l1, l2, l3] [(0, h a i), v2] S h n) ∧
  (∀ (d : Nat) (x0 a : Int) (l0 l1 l2 l3 : Option mx_V) (S h : mx_H) (n : Int), mx_ex (d + 1) 259 762 [l0, l1, l2, l3] [(0, x0), (2, a)] S h n = mx_cl (S a (-2) = 7) d 116 [(2, a), (0, x0)] 259 765 [l0, l1, l2, l3] [] S h n) ∧
  (∀ (d : Nat) (x : Int) (l0 l1 l3 : Option mx_V) (v0 : mx_V) (S h : mx_H) (n : Int), mx_ex d 259 765 [l0, l1, some (2, x), l3] [v0] S h n = mx_ex d 259 766 [l0, l1, some (2, x), l3] [(2, x), v0] S h n) ∧
  (∀ (d : Nat) (x : Int) (l1 l2 l3 : Option mx_V) (v0 v1 : mx_V) (S h : mx_H) (n : Int), mx_ex d 259 766 [some (2, x), l1, l2, l3] [v0, v1] S h n = mx_ex d 259 767 [some (2, x), l1, l2, l3] [(2, x), v0, v1] S h n) ∧
  (∀ (d : Nat) (x : Int) (l0 l1 l2 : Option mx_V) (v0 v1 v2 : mx_V) (S h : mx_H) (n : Int), mx_ex d 259 767 [l0, l1, l2, some (0, x)] [v0, v1, v2] S h n = mx_ex d 259 768 [l0, l1, l2, some (0, x)] [(0, x), v0, v1, v2] S h n) ∧
  (∀ (d : Nat) (l0 l1 l2 l3 : Option mx_V) (v0 v1 v2 v3 : mx_V) (S h : mx_H) (n : Int), mx_ex d 259 768 [l0, l1, l2, l3] [v0, v1, v2, v3] S h n = mx_ex d 259 769 [l0, l1, l2, l3] [(0, 1), v0, v1, v2, v3] S h n) ∧
  (∀ (d : Nat) (b a : Int) (l0 l1 l2 l3 : Option mx_V) (v2 v3 v4 : mx_V) (S h : mx_H) (n : Int), mx_ex d 259 769 [l0, l1, l2, l3] [(0, b), (0, a), v2, v3, v4] S h n = mx_ex d 259 770 [l0, l1, l2, l3] [(0, mx_w (a + b)), v2, v3, v4] S h n) ∧
  (∀ (d : Nat) (i a : Int) (l0 l1 l2 l3 : Option mx_V) (v2 v3 : mx_V) (S h : mx_H) (n : Int), mx_ex d 259 770 [l0, l1, l2, l3] [(0, i), (2, a), v2, v3] S h n = mx_gd ((S a (-2) = 20 ∨ S a (-2) = 24) ∧ 0 ≤ i ∧ i < S a (-1)) d 259 771 [l0, l1, l2, l3] [(0, h a i), v2, v3] S h n) ∧
  (∀ (d : Nat) (x0 a : Int) (l0 l1 l2 l3 : Option mx_V) (v2 : mx_V) (S h : mx_H) (n : Int), mx_ex (d + 1) 259 771 [l0, l1, l2, l3] [(0, x0), (2, a), v2] S h n = mx_cl (S a (-2) = 13) d 202 [(2, a), (0, x0)] 259 774 [l0, l1, l2, l3] [v2] S h n) ∧
  (∀ (d : Nat) (b a : Int) (l0 l1 l2 l3 : Option mx_V) (S h : mx_H) (n : Int), mx_ex d 259 774 [l0, l1, l2, l3] [(0, b), (0, a)] S h n = mx_br (a = b) d 259 1653 777 [l0, l1, l2, l3] [] S h n) ∧
  (∀ (d : Nat) (l0 l1 l2 l3 : Option mx_V) (S h : mx_H) (n : Int), mx_ex d 259 777 [l0, l1, l2, l3] [] S h n = mx_ex d 259 778 [l0, l1, l2, l3] [(0, 0)] S h n) ∧
  (∀ (d : Nat) (x : Int) (l0 l1 l2 l3 : Option mx_V) (S h : mx_H) (n : Int), mx_ex d 259 778 [l0, l1, l2, l3] [(0, x)] S h n = mx_re (0 ≤ x ∧ x ≤ 1) (some (0, x)) S h n) ∧
  (∀ (d : Nat) (x : Int) (l0 l2 l3 : Option mx_V) (S h : mx_H) (n : Int), mx_ex d 259 779 [l0, some (2, x), l2, l3] [] S h n = mx_ex d 259 780 [l0, some (2, x), l2, l3] [(2, x)] S h n) ∧
  (∀ (d : Nat) (x : Int) (l1 l2 l3 : Option mx_V) (v0 : mx_V) (S h : mx_H) (n : Int), mx_ex d 259 780 [some (2, x), l1, l2, l3] [v0] S h n = mx_ex d 259 781 [some (2, x), l1, l2, l3] [(2, x), v0] S h n) ∧
  (∀ (d : Nat) (x : Int) (l0 l1 l2 : Option mx_V) (v0 v1 : mx_V) (S h : mx_H) (n : Int), mx_ex d 259 781 [l0, l1, l2, some (0, x)] [v0, v1] S h n = mx_ex d 259 782 [l0, l1, l2, some (0, x)] [(0, x), v0, v1] S h n) ∧
  (∀ (d : Nat) (l0 l1 l2 l3 : Option mx_V) (v0 v1 v2 : mx_V) (S h : mx_H) (n : Int), mx_ex d 259 782 [l0, l1, l2, l3] [v0, v1, v2] S h n = mx_ex d 259 783 [l0, l1, l2, l3] [(0, 1), v0, v1, v2] S h n) ∧
  (∀ (d : Nat) (b a : Int) (l0 l1 l2 l3 : Option mx_V) (v2 v3 : mx_V) (S h : mx_H) (n : Int), mx_ex d 259 783 [l0, l1, l2, l3] [(0, b), (0, a), v2, v3] S h n = mx_ex d 259 784 [l0, l1, l2, l3] [(0, mx_w (a + b)), v2, v3] S h n) ∧
  (∀ (d : Nat) (i a : Int) (l0 l1 l2 l3 : Option mx_V) (v2 : mx_V) (S h : mx_H) (n : Int), mx_ex d 259 784 [l0, l1, l2, l3] [(0, i), (2, a), v2] S h n = mx_gd ((S a (-2) = 20 ∨ S a (-2) = 24) ∧ 0 ≤ i ∧ i < S a (-1)) d 259 785 [l0, l1, l2, l3] [(0, h a i), v2] S h n) ∧
  (∀ (d : Nat) (x0 a : Int) (l0 l1 l2 l3 : Option mx_V) (S h : mx_H) (n : Int), mx_ex (d + 1) 259 785 [l0, l1, l2, l3] [(0, x0), (2, a)] S h n = mx_cl (S a (-2) = 7) d 117 [(2, a), (0, x0)] 259 788 [l0, l1, l2, l3] [] S h n) ∧
  (∀ (d : Nat) (x : Int) (l0 l1 l3 : Option mx_V) (v0 : mx_V) (S h : mx_H) (n : Int), mx_ex d 259 788 [l0, l1, some (2, x), l3] [v0] S h n = mx_ex d 259 789 [l0, l1, some (2, x), l3] [(2, x), v0] S h n) ∧
  (∀ (d : Nat) (x : Int) (l1 l2 l3 : Option mx_V) (v0 v1 : mx_V) (S h : mx_H) (n : Int), mx_ex d 259 789 [some (2, x), l1, l2, l3] [v0, v1] S h n = mx_ex d 259 790 [some (2, x), l1, l2, l3] [(2, x), v0, v1] S h n) ∧
  (∀ (d : Nat) (x : Int) (l0 l1 l2 : Option mx_V) (v0 v1 v2 : mx_V) (S h : mx_H) (n : Int), mx_ex d 259 790 [l0, l1, l2, some (0, x)] [v0, v1, v2] S h n = mx_ex d 259 791 [l0, l1, l2, some (0, x)] [(0, x), v0, v1, v2] S h n) ∧
  (∀ (d : Nat) (l0 l1 l2 l3 : Option mx_V) (v0 v1 v2 v3 : mx_V) (S h : mx_H) (n : Int), mx_ex d 259 791 [l0, l1, l2, l3] [v0, v1, v2, v3] S h n = mx_ex d 259 792 [l0, l1, l2, l3] [(0, 1), v0, v1, v2, v3] S h n) :=
  ⟨by intros; exact eq_ld rfl rfl,
   by intros; exact eq_push rfl,
   by intros; exact eq_i2 (o := mx_add) rfl,
   by intros; exact eq_iald rfl,
   by intros; exact eq_cv rfl (Nat.le_of_ble_eq_true rfl) rfl rfl rfl (Nat.le_of_ble_eq_true rfl),
   by intros; exact eq_ic0 rfl,
   by intros; exact eq_push rfl,
   by intros; exact eq_rr rfl,
   by intros; exact eq_ld rfl rfl,
   by intros; exact eq_cv rfl (Nat.le_of_ble_eq_true rfl) rfl rfl rfl (Nat.le_of_ble_eq_true rfl),
   by intros; exact eq_ld rfl rfl,
   by intros; exact eq_cv rfl (Nat.le_of_ble_eq_true rfl) rfl rfl rfl (Nat.le_of_ble_eq_true rfl),
   by intros; exact eq_ic0 rfl,
   by intros; exact eq_push rfl,
   by intros; exact eq_rr rfl,
   by intros; exact eq_ld rfl rfl,
   by intros; exact eq_ld rfl rfl,
   by intros; exact eq_ld rfl rfl,
   by intros; exact eq_push rfl,
   by intros; exact eq_i2 (o := mx_add) rfl,
   by intros; exact eq_iald rfl,
   by intros; exact eq_ld rfl rfl,
   by intros; exact eq_ld rfl rfl,
   by intros; exact eq_push rfl,
   by intros; exact eq_i2 (o := mx_add) rfl,
   by intros; exact eq_iald rfl,
   by intros; exact eq_cv rfl (Nat.le_of_ble_eq_true rfl) rfl rfl rfl (Nat.le_of_ble_eq_true rfl),
   by intros; exact eq_ld rfl rfl,
   by intros; exact eq_ld rfl rfl,
   by intros; exact eq_ld rfl rfl,
   by intros; exact eq_push rfl,
   by intros; exact eq_i2 (o := mx_add) rfl,
   by intros; exact eq_iald rfl,
   by intros; exact eq_ld rfl rfl,
   by intros; exact eq_ld rfl rfl,
   by intros; exact eq_push rfl,
   by intros; exact eq_i2 (o := mx_add) rfl,
   by intros; exact eq_iald rfl,
   by intros; exact eq_cv rfl (Nat.le_of_ble_eq_true rfl) rfl rfl rfl (Nat.le_of_ble_eq_true rfl),
   by intros; exact eq_ic0 rfl,
   by intros; exact eq_push rfl,
   by intros; exact eq_rr rfl,
   by intros; exact eq_ld rfl rfl,
   by intros; exact eq_ld rfl rfl,
   by intros; exact eq_ld rfl rfl,
   by intros; exact eq_push rfl,
   by intros; exact eq_i2 (o := mx_add) rfl,
   by intros; exact eq_iald rfl,
   by intros; exact eq_cv rfl (Nat.le_of_ble_eq_true rfl) rfl rfl rfl (Nat.le_of_ble_eq_true rfl),
   by intros; exact eq_ld rfl rfl,
   by intros; exact eq_ld rfl rfl,
   by intros; exact eq_ld rfl rfl,
   by intros; exact eq_push rfl,
   by intros; exact eq_i2 (o := mx_add) rfl,
   by intros; exact eq_iald rfl,
   by intros; exact eq_cv rfl (Nat.le_of_ble_eq_true rfl) rfl rfl rfl (Nat.le_of_ble_eq_true rfl),
   by intros; exact eq_ic0 rfl,
   by intros; exact eq_push rfl,
   by intros; exact eq_rr rfl,
   by intros; exact eq_ld rfl rfl,
   by intros; exact eq_ld rfl rfl,
   by intros; exact eq_ld rfl rfl,
   by intros; exact eq_push rfl,
   by intros; exact eq_i2 (o := mx_add) rfl,
   by intros; exact eq_iald rfl,
   by intros; exact eq_cv rfl (Nat.le_of_ble_eq_true rfl) rfl rfl rfl (Nat.le_of_ble_eq_true rfl),
   by intros; exact eq_ld rfl rfl,
   by intros; exact eq_ld rfl rfl,
   by intros; exact eq_ld rfl rfl,
   by intros; exact eq_push rfl⟩
theorem rw_L_law_7 :
  (∀ (d : Nat) (b a : Int) (l0 l1 l2 l3 : Option mx_V) (v2 v3 v4 : mx_V) (S h : mx_H) (n : Int), mx_ex d 259 792 [l0, l1, l2, l3] [(0, b), (0, a), v2, v3, v4] S h n = mx_ex d 259 793 [l0, l1, l2, l3] [(0, mx_w (a + b)), v2, v3, v4] S h n) ∧
  (∀ (d : Nat) (i a : Int) (l0 l1 l2 l3 : Option mx_V) (v2 v3 : mx_V) (S h : mx_H) (n : Int), mx_ex d 259 793 [l0, l1, l2, l3] [(0, i), (2, a), v2, v3] S h n = mx_gd ((S a (-2) = 20 ∨ S a (-2) = 24) ∧ 0 ≤ i ∧ i < S a (-1)) d 259 794 [l0, l1, l2, l3] [(0, h a i), v2, v3] S h n) ∧
  (∀ (d : Nat) (x0 a : Int) (l0 l1 l2 l3 : Option mx_V) (v2 : mx_V) (S h : mx_H) (n : Int), mx_ex (d + 1) 259 794 [l0, l1, l2, l3] [(0, x0), (2, a), v2] S h n = mx_cl (S a (-2) = 13) d 203 [(2, a), (0, x0)] 259 797 [l0, l1, l2, l3] [v2] S h n) ∧
  (∀ (d : Nat) (b a : Int) (l0 l1 l2 l3 : Option mx_V) (S h : mx_H) (n : Int), mx_ex d 259 797 [l0, l1, l2, l3] [(0, b), (0, a)] S h n = mx_br (a = b) d 259 1653 800 [l0, l1, l2, l3] [] S h n) ∧
  (∀ (d : Nat) (l0 l1 l2 l3 : Option mx_V) (S h : mx_H) (n : Int), mx_ex d 259 800 [l0, l1, l2, l3] [] S h n = mx_ex d 259 801 [l0, l1, l2, l3] [(0, 0)] S h n) ∧
  (∀ (d : Nat) (x : Int) (l0 l1 l2 l3 : Option mx_V) (S h : mx_H) (n : Int), mx_ex d 259 801 [l0, l1, l2, l3] [(0, x)] S h n = mx_re (0 ≤ x ∧ x ≤ 1) (some (0, x)) S h n) ∧
  (∀ (d : Nat) (x : Int) (l0 l2 l3 : Option mx_V) (S h : mx_H) (n : Int), mx_ex d 259 802 [l0, some (2, x), l2, l3] [] S h n = mx_ex d 259 803 [l0, some (2, x), l2, l3] [(2, x)] S h n) ∧
  (∀ (d : Nat) (x : Int) (l1 l2 l3 : Option mx_V) (v0 : mx_V) (S h : mx_H) (n : Int), mx_ex d 259 803 [some (2, x), l1, l2, l3] [v0] S h n = mx_ex d 259 804 [some (2, x), l1, l2, l3] [(2, x), v0] S h n) ∧
  (∀ (d : Nat) (x : Int) (l0 l1 l2 : Option mx_V) (v0 v1 : mx_V) (S h : mx_H) (n : Int), mx_ex d 259 804 [l0, l1, l2, some (0, x)] [v0, v1] S h n = mx_ex d 259 805 [l0, l1, l2, some (0, x)] [(0, x), v0, v1] S h n) ∧
  (∀ (d : Nat) (l0 l1 l2 l3 : Option mx_V) (v0 v1 v2 : mx_V) (S h : mx_H) (n : Int), mx_ex d 259 805 [l0, l1, l2, l3] [v0, v1, v2] S h n = mx_ex d 259 806 [l0, l1, l2, l3] [(0, 1), v0, v1, v2] S h n) ∧
  (∀ (d : Nat) (b a : Int) (l0 l1 l2 l3 : Option mx_V) (v2 v3 : mx_V) (S h : mx_H) (n : Int), mx_ex d 259 806 [l0, l1, l2, l3] [(0, b), (0, a), v2, v3] S h n = mx_ex d 259 807 [l0, l1, l2, l3] [(0, mx_w (a + b)), v2, v3] S h n) ∧
  (∀ (d : Nat) (i a : Int) (l0 l1 l2 l3 : Option mx_V) (v2 : mx_V) (S h : mx_H) (n : Int), mx_ex d 259 807 [l0, l1, l2, l3] [(0, i), (2, a), v2] S h n = mx_gd ((S a (-2) = 20 ∨ S a (-2) = 24) ∧ 0 ≤ i ∧ i < S a (-1)) d 259 808 [l0, l1, l2, l3] [(0, h a i), v2] S h n) ∧
  (∀ (d : Nat) (x : Int) (l1 l2 l3 : Option mx_V) (v0 v1 : mx_V) (S h : mx_H) (n : Int), mx_ex d 259 808 [some (2, x), l1, l2, l3] [v0, v1] S h n = mx_ex d 259 809 [some (2, x), l1, l2, l3] [(2, x), v0, v1] S h n) ∧
  (∀ (d : Nat) (x : Int) (l0 l1 l2 : Option mx_V) (v0 v1 v2 : mx_V) (S h : mx_H) (n : Int), mx_ex d 259 809 [l0, l1, l2, some (0, x)] [v0, v1, v2] S h n = mx_ex d 259 810 [l0, l1, l2, some (0, x)] [(0, x), v0, v1, v2] S h n) ∧
  (∀ (d : Nat) (l0 l1 l2 l3 : Option mx_V) (v0 v1 v2 v3 : mx_V) (S h : mx_H) (n : Int), mx_ex d 259 810 [l0, l1, l2, l3] [v0, v1, v2, v3] S h n = mx_ex d 259 811 [l0, l1, l2, l3] [(0, 2), v0, v1, v2, v3] S h n) ∧
  (∀ (d : Nat) (b a : Int) (l0 l1 l2 l3 : Option mx_V) (v2 v3 v4 : mx_V) (S h : mx_H) (n : Int), mx_ex d 259 811 [l0, l1, l2, l3] [(0, b), (0, a), v2, v3, v4] S h n = mx_ex d 259 812 [l0, l1, l2, l3] [(0, mx_w (a + b)), v2, v3, v4] S h n) ∧
  (∀ (d : Nat) (i a : Int) (l0 l1 l2 l3 : Option mx_V) (v2 v3 : mx_V) (S h : mx_H) (n : Int), mx_ex d 259 812 [l0, l1, l2, l3] [(0, i), (2, a), v2, v3] S h n = mx_gd ((S a (-2) = 20 ∨ S a (-2) = 24) ∧ 0 ≤ i ∧ i < S a (-1)) d 259 813 [l0, l1, l2, l3] [(0, h a i), v2, v3] S h n) ∧
  (∀ (d : Nat) (x : Int) (l1 l2 l3 : Option mx_V) (v0 v1 v2 : mx_V) (S h : mx_H) (n : Int), mx_ex d 259 813 [some (2, x), l1, l2, l3] [v0, v1, v2] S h n = mx_ex d 259 814 [some (2, x), l1, l2, l3] [(2, x), v0, v1, v2] S h n) ∧
  (∀ (d : Nat) (x : Int) (l0 l1 l2 : Option mx_V) (v0 v1 v2 v3 : mx_V) (S h : mx_H) (n : Int), mx_ex d 259 814 [l0, l1, l2, some (0, x)] [v0, v1, v2, v3] S h n = mx_ex d 259 815 [l0, l1, l2, some (0, x)] [(0, x), v0, v1, v2, v3] S h n) ∧
  (∀ (d : Nat) (l0 l1 l2 l3 : Option mx_V) (v0 v1 v2 v3 v4 : mx_V) (S h : mx_H) (n : Int), mx_ex d 259 815 [l0, l1, l2, l3] [v0, v1, v2, v3, v4] S h n = mx_ex d 259 816 [l0, l1, l2, l3] [(0, 3), v0, v1, v2, v3, v4] S h n) ∧
  (∀ (d : Nat) (b a : Int) (l0 l1 l2 l3 : Option mx_V) (v2 v3 v4 v5 : mx_V) (S h : mx_H) (n : Int), mx_ex d 259 816 [l0, l1, l2, l3] [(0, b), (0, a), v2, v3, v4, v5] S h n = mx_ex d 259 817 [l0, l1, l2, l3] [(0, mx_w (a + b)), v2, v3, v4, v5] S h n) ∧
  (∀ (d : Nat) (i a : Int) (l0 l1 l2 l3 : Option mx_V) (v2 v3 v4 : mx_V) (S h : mx_H) (n : Int), mx_ex d 259 817 [l0, l1, l2, l3] [(0, i), (2, a), v2, v3, v4] S h n = mx_gd ((S a (-2) = 20 ∨ S a (-2) = 24) ∧ 0 ≤ i ∧ i < S a (-1)) d 259 818 [l0, l1, l2, l3] [(0, h a i), v2, v3, v4] S h n) ∧
  (∀ (d : Nat) (x : Int) (l1 l2 l3 : Option mx_V) (v0 v1 v2 v3 : mx_V) (S h : mx_H) (n : Int), mx_ex d 259 818 [some (2, x), l1, l2, l3] [v0, v1, v2, v3] S h n = mx_ex d 259 819 [some (2, x), l1, l2, l3] [(2, x), v0, v1, v2, v3] S h n) ∧
  (∀ (d : Nat) (x : Int) (l0 l1 l2 : Option mx_V) (v0 v1 v2 v3 v4 : mx_V) (S h : mx_H) (n : Int), mx_ex d 259 819 [l0, l1, l2, some (0, x)] [v0, v1, v2, v3, v4] S h n = mx_ex d 259 820 [l0, l1, l2, some (0, x)] [(0, x), v0, v1, v2, v3, v4] S h n) ∧
  (∀ (d : Nat) (l0 l1 l2 l3 : Option mx_V) (v0 v1 v2 v3 v4 v5 : mx_V) (S h : mx_H) (n : Int), mx_ex d 259 820 [l0, l1, l2, l3] [v0, v1, v2, v3, v4, v5] S h n = mx_ex d 259 821 [l0, l1, l2, l3] [(0, 4), v0, v1, v2, v3, v4, v5] S h n) ∧
  (∀ (d : Nat) (b a : Int) (l0 l1 l2 l3 : Option mx_V) (v2 v3 v4 v5 v6 : mx_V) (S h : mx_H) (n : Int), mx_ex d 259 821 [l0, l1, l2, l3] [(0, b), (0, a), v2, v3, v4, v5, v6] S h n = mx_ex d 259 822 [l0, l1, l2, l3] [(0, mx_w (a + b)), v2, v3, v4, v5, v6] S h n) ∧
  (∀ (d : Nat) (i a : Int) (l0 l1 l2 l3 : Option mx_V) (v2 v3 v4 v5 : mx_V) (S h : mx_H) (n : Int), mx_ex d 259 822 [l0, l1, l2, l3] [(0, i), (2, a), v2, v3, v4, v5] S h n = mx_gd ((S a (-2) = 20 ∨ S a (-2) = 24) ∧ 0 ≤ i ∧ i < S a (-1)) d 259 823 [l0, l1, l2, l3] [(0, h a i), v2, v3, v4, v5] S h n) ∧
  (∀ (d : Nat) (x0 x1 x2 x3 a : Int) (l0 l1 l2 l3 : Option mx_V) (S h : mx_H) (n : Int), mx_ex (d + 1) 259 823 [l0, l1, l2, l3] [(0, x0), (0, x1), (0, x2), (0, x3), (2, a)] S h n = mx_cl (S a (-2) = 7) d 118 [(2, a), (0, x3), (0, x2), (0, x1), (0, x0)] 259 826 [l0, l1, l2, l3] [] S h n) ∧
  (∀ (d : Nat) (x : Int) (l0 l1 l3 : Option mx_V) (v0 : mx_V) (S h : mx_H) (n : Int), mx_ex d 259 826 [l0, l1, some (2, x), l3] [v0] S h n = mx_ex d 259 827 [l0, l1, some (2, x), l3] [(2, x), v0] S h n) ∧
  (∀ (d : Nat) (x : Int) (l1 l2 l3 : Option mx_V) (v0 v1 : mx_V) (S h : mx_H) (n : Int), mx_ex d 259 827 [some (2, x), l1, l2, l3] [v0, v1] S h n = mx_ex d 259 828 [some (2, x), l1, l2, l3] [(2, x), v0, v1] S h n) ∧
  (∀ (d : Nat) (x : Int) (l0 l1 l2 : Option mx_V) (v0 v1 v2 : mx_V) (S h : mx_H) (n : Int), mx_ex d 259 828 [l0, l1, l2, some (0, x)] [v0, v1, v2] S h n = mx_ex d 259 829 [l0, l1, l2, some (0, x)] [(0, x), v0, v1, v2] S h n) ∧
  (∀ (d : Nat) (l0 l1 l2 l3 : Option mx_V) (v0 v1 v2 v3 : mx_V) (S h : mx_H) (n : Int), mx_ex d 259 829 [l0, l1, l2, l3] [v0, v1, v2, v3] S h n = mx_ex d 259 830 [l0, l1, l2, l3] [(0, 1), v0, v1, v2, v3] S h n) ∧
  (∀ (d : Nat) (b a : Int) (l0 l1 l2 l3 : Option mx_V) (v2 v3 v4 : mx_V) (S h : mx_H) (n : Int), mx_ex d 259 830 [l0, l1, l2, l3] [(0, b), (0, a), v2, v3, v4] S h n = mx_ex d 259 831 [l0, l1, l2, l3] [(0, mx_w (a + b)), v2, v3, v4] S h n) ∧
  (∀ (d : Nat) (i a : Int) (l0 l1 l2 l3 : Option mx_V) (v2 v3 : mx_V) (S h : mx_H) (n : Int), mx_ex d 259 831 [l0, l1, l2, l3] [(0, i), (2, a), v2, v3] S h n = mx_gd ((S a (-2) = 20 ∨ S a (-2) = 24) ∧ 0 ≤ i ∧ i < S a (-1)) d 259 832 [l0, l1, l2, l3] [(0, h a i), v2, v3] S h n) ∧
  (∀ (d : Nat) (x : Int) (l1 l2 l3 : Option mx_V) (v0 v1 v2 : mx_V) (S h : mx_H) (n : Int), mx_ex d 259 832 [some (2, x), l1, l2, l3] [v0, v1, v2] S h n = mx_ex d 259 833 [some (2, x), l1, l2, l3] [(2, x), v0, v1, v2] S h n) ∧
  (∀ (d : Nat) (x : Int) (l0 l1 l2 : Option mx_V) (v0 v1 v2 v3 : mx_V) (S h : mx_H) (n : Int), mx_ex d 259 833 [l0, l1, l2, some (0, x)] [v0, v1, v2, v3] S h n = mx_ex d 259 834 [l0, l1, l2, some (0, x)] [(0, x), v0, v1, v2, v3] S h n) ∧
  (∀ (d : Nat) (l0 l1 l2 l3 : Option mx_V) (v0 v1 v2 v3 v4 : mx_V) (S h : mx_H) (n : Int), mx_ex d 259 834 [l0, l1, l2, l3] [v0, v1, v2, v3, v4] S h n = mx_ex d 259 835 [l0, l1, l2, l3] [(0, 2), v0, v1, v2, v3, v4] S h n) ∧
  (∀ (d : Nat) (b a : Int) (l0 l1 l2 l3 : Option mx_V) (v2 v3 v4 v5 : mx_V) (S h : mx_H) (n : Int), mx_ex d 259 835 [l0, l1, l2, l3] [(0, b), (0, a), v2, v3, v4, v5] S h n = mx_ex d 259 836 [l0, l1, l2, l3] [(0, mx_w (a + b)), v2, v3, v4, v5] S h n) ∧
  (∀ (d : Nat) (i a : Int) (l0 l1 l2 l3 : Option mx_V) (v2 v3 v4 : mx_V) (S h : mx_H) (n : Int), mx_ex d 259 836 [l0, l1, l2, l3] [(0, i), (2, a), v2, v3, v4] S h n = mx_gd ((S a (-2) = 20 ∨ S a (-2) = 24) ∧ 0 ≤ i ∧ i < S a (-1)) d 259 837 [l0, l1, l2, l3] [(0, h a i), v2, v3, v4] S h n) ∧
  (∀ (d : Nat) (x : Int) (l1 l2 l3 : Option mx_V) (v0 v1 v2 v3 : mx_V) (S h : mx_H) (n : Int), mx_ex d 259 837 [some (2, x), l1, l2, l3] [v0, v1, v2, v3] S h n = mx_ex d 259 838 [some (2, x), l1, l2, l3] [(2, x), v0, v1, v2, v3] S h n) ∧
  (∀ (d : Nat) (x : Int) (l0 l1 l2 : Option mx_V) (v0 v1 v2 v3 v4 : mx_V) (S h : mx_H) (n : Int), mx_ex d 259 838 [l0, l1, l2, some (0, x)] [v0, v1, v2, v3, v4] S h n = mx_ex d 259 839 [l0, l1, l2, some (0, x)] [(0, x), v0, v1, v2, v3, v4] S h n) ∧
  (∀ (d : Nat) (l0 l1 l2 l3 : Option mx_V) (v0 v1 v2 v3 v4 v5 : mx_V) (S h : mx_H) (n : Int), mx_ex d 259 839 [l0, l1, l2, l3] [v0, v1, v2, v3, v4, v5] S h n = mx_ex d 259 840 [l0, l1, l2, l3] [(0, 3), v0, v1, v2, v3, v4, v5] S h n) ∧
  (∀ (d : Nat) (b a : Int) (l0 l1 l2 l3 : Option mx_V) (v2 v3 v4 v5 v6 : mx_V) (S h : mx_H) (n : Int), mx_ex d 259 840 [l0, l1, l2, l3] [(0, b), (0, a), v2, v3, v4, v5, v6] S h n = mx_ex d 259 841 [l0, l1, l2, l3] [(0, mx_w (a + b)), v2, v3, v4, v5, v6] S h n) ∧
  (∀ (d : Nat) (i a : Int) (l0 l1 l2 l3 : Option mx_V) (v2 v3 v4 v5 : mx_V) (S h : mx_H) (n : Int), mx_ex d 259 841 [l0, l1, l2, l3] [(0, i), (2, a), v2, v3, v4, v5] S h n = mx_gd ((S a (-2) = 20 ∨ S a (-2) = 24) ∧ 0 ≤ i ∧ i < S a (-1)) d 259 842 [l0, l1, l2, l3] [(0, h a i), v2, v3, v4, v5] S h n) ∧
  (∀ (d : Nat) (x : Int) (l1 l2 l3 : Option mx_V) (v0 v1 v2 v3 v4 : mx_V) (S h : mx_H) (n : Int), mx_ex d 259 842 [some (2, x), l1, l2, l3] [v0, v1, v2, v3, v4] S h n = mx_ex d 259 843 [some (2, x), l1, l2, l3] [(2, x), v0, v1, v2, v3, v4] S h n) ∧
  (∀ (d : Nat) (x : Int) (l0 l1 l2 : Option mx_V) (v0 v1 v2 v3 v4 v5 : mx_V) (S h : mx_H) (n : Int), mx_ex d 259 843 [l0, l1, l2, some (0, x)] [v0, v1, v2, v3, v4, v5] S h n = mx_ex d 259 844 [l0, l1, l2, some (0, x)] [(0, x), v0, v1, v2, v3, v4, v5] S h n) ∧
  (∀ (d : Nat) (l0 l1 l2 l3 : Option mx_V) (v0 v1 v2 v3 v4 v5 v6 : mx_V) (S h : mx_H) (n : Int), mx_ex d 259 844 [l0, l1, l2, l3] [v0, v1, v2, v3, v4, v5, v6] S h n = mx_ex d 259 845 [l0, l1, l2, l3] [(0, 4), v0, v1, v2, v3, v4, v5, v6] S h n) ∧
  (∀ (d : Nat) (b a : Int) (l0 l1 l2 l3 : Option mx_V) (v2 v3 v4 v5 v6 v7 : mx_V) (S h : mx_H) (n : Int), mx_ex d 259 845 [l0, l1, l2, l3] [(0, b), (0, a), v2, v3, v4, v5, v6, v7] S h n = mx_ex d 259 846 [l0, l1, l2, l3] [(0, mx_w (a + b)), v2, v3, v4, v5, v6, v7] S h n) ∧
  (∀ (d : Nat) (i a : Int) (l0 l1 l2 l3 : Option mx_V) (v2 v3 v4 v5 v6 : mx_V) (S h : mx_H) (n : Int), mx_ex d 259 846 [l0, l1, l2, l3] [(0, i), (2, a), v2, v3, v4, v5, v6] S h n = mx_gd ((S a (-2) = 20 ∨ S a (-2) = 24) ∧ 0 ≤ i ∧ i < S a (-1)) d 259 847 [l0, l1, l2, l3] [(0, h a i), v2, v3, v4, v5, v6] S h n) ∧
  (∀ (d : Nat) (x0 x1 x2 x3 a : Int) (l0 l1 l2 l3 : Option mx_V) (v5 : mx_V) (S h : mx_H) (n : Int), mx_ex (d + 1) 259 847 [l0, l1, l2, l3] [(0, x0), (0, x1), (0, x2), (0, x3), (2, a), v5] S h n = mx_cl (S a (-2) = 13) d 204 [(2, a), (0, x3), (0, x2), (0, x1), (0, x0)] 259 850 [l0, l1, l2, l3] [v5] S h n) ∧
  (∀ (d : Nat) (b a : Int) (l0 l1 l2 l3 : Option mx_V) (S h : mx_H) (n : Int), mx_ex d 259 850 [l0, l1, l2, l3] [(0, b), (0, a)] S h n = mx_br (a = b) d 259 1653 853 [l0, l1, l2, l3] [] S h n) ∧
  (∀ (d : Nat) (l0 l1 l2 l3 : Option mx_V) (S h : mx_H) (n : Int), mx_ex d 259 853 [l0, l1, l2, l3] [] S h n = mx_ex d 259 854 [l0, l1, l2, l3] [(0, 0)] S h n) ∧
  (∀ (d : Nat) (x : Int) (l0 l1 l2 l3 : Option mx_V) (S h : mx_H) (n : Int), mx_ex d 259 854 [l0, l1, l2, l3] [(0, x)] S h n = mx_re (0 ≤ x ∧ x ≤ 1) (some (0, x)) S h n) ∧
  (∀ (d : Nat) (x : Int) (l0 l2 l3 : Option mx_V) (S h : mx_H) (n : Int), mx_ex d 259 855 [l0, some (2, x), l2, l3] [] S h n = mx_ex d 259 856 [l0, some (2, x), l2, l3] [(2, x)] S h n) ∧
  (∀ (d : Nat) (a : Int) (l0 l1 l2 l3 : Option mx_V) (S h : mx_H) (n : Int), mx_ex (d + 1) 259 856 [l0, l1, l2, l3] [(2, a)] S h n = mx_cl (S a (-2) = 7) d 119 [(2, a)] 259 859 [l0, l1, l2, l3] [] S h n) ∧
  (∀ (d : Nat) (x : Int) (l0 l1 l3 : Option mx_V) (v0 : mx_V) (S h : mx_H) (n : Int), mx_ex d 259 859 [l0, l1, some (2, x), l3] [v0] S h n = mx_ex d 259 860 [l0, l1, some (2, x), l3] [(2, x), v0] S h n) ∧
  (∀ (d : Nat) (a : Int) (l0 l1 l2 l3 : Option mx_V) (v1 : mx_V) (S h : mx_H) (n : Int), mx_ex (d + 1) 259 860 [l0, l1, l2, l3] [(2, a), v1] S h n = mx_cl (S a (-2) = 13) d 206 [(2, a)] 259 863 [l0, l1, l2, l3] [v1] S h n) ∧
  (∀ (d : Nat) (b a : Int) (l0 l1 l2 l3 : Option mx_V) (S h : mx_H) (n : Int), mx_ex d 259 863 [l0, l1, l2, l3] [(0, b), (0, a)] S h n = mx_br (a = b) d 259 1653 866 [l0, l1, l2, l3] [] S h n) ∧
  (∀ (d : Nat) (l0 l1 l2 l3 : Option mx_V) (S h : mx_H) (n : Int), mx_ex d 259 866 [l0, l1, l2, l3] [] S h n = mx_ex d 259 867 [l0, l1, l2, l3] [(0, 0)] S h n) ∧
  (∀ (d : Nat) (x : Int) (l0 l1 l2 l3 : Option mx_V) (S h : mx_H) (n : Int), mx_ex d 259 867 [l0, l1, l2, l3] [(0, x)] S h n = mx_re (0 ≤ x ∧ x ≤ 1) (some (0, x)) S h n) ∧
  (∀ (d : Nat) (x : Int) (l0 l2 l3 : Option mx_V) (S h : mx_H) (n : Int), mx_ex d 259 868 [l0, some (2, x), l2, l3] [] S h n = mx_ex d 259 869 [l0, some (2, x), l2, l3] [(2, x)] S h n) ∧
  (∀ (d : Nat) (x : Int) (l1 l2 l3 : Option mx_V) (v0 : mx_V) (S h : mx_H) (n : Int), mx_ex d 259 869 [some (2, x), l1, l2, l3] [v0] S h n = mx_ex d 259 870 [some (2, x), l1, l2, l3] [(2, x), v0] S h n) ∧
  (∀ (d : Nat) (x : Int) (l0 l1 l2 : Option mx_V) (v0 v1 : mx_V) (S h : mx_H) (n : Int), mx_ex d 259 870 [l0, l1, l2, some (0, x)] [v0, v1] S h n = mx_ex d 259 871 [l0, l1, l2, some (0, x)] [(0, x), v0, v1] S h n) ∧
  (∀ (d : Nat) (l0 l1 l2 l3 : Option mx_V) (v0 v1 v2 : mx_V) (S h : mx_H) (n : Int), mx_ex d 259 871 [l0, l1, l2, l3] [v0, v1, v2] S h n = mx_ex d 259 872 [l0, l1, l2, l3] [(0, 1), v0, v1, v2] S h n) ∧
  (∀ (d : Nat) (b a : Int) (l0 l1 l2 l3 : Option mx_V) (v2 v3 : mx_V) (S h : mx_H) (n : Int), mx_ex d 259 872 [l0, l1, l2, l3] [(0, b), (0, a), v2, v3] S h n = mx_ex d 259 873 [l0, l1, l2, l3] [(0, mx_w (a + b)), v2, v3] S h n) ∧
  (∀ (d : Nat) (i a : Int) (l0 l1 l2 l3 : Option mx_V) (v2 : mx_V) (S h : mx_H) (n : Int), mx_ex d 259 873 [l0, l1, l2, l3] [(0, i), (2, a), v2] S h n = mx_gd ((S a (-2) = 20 ∨ S a (-2) = 24) ∧ 0 ≤ i ∧ i < S a (-1)) d 259 874 [l0, l1, l2, l3] [(0, h a i), v2] S h n) ∧
  (∀ (d : Nat) (x0 a : Int) (l0 l1 l2 l3 : Option mx_V) (S h : mx_H) (n : Int), mx_ex (d + 1) 259 874 [l0, l1, l2, l3] [(0, x0), (2, a)] S h n = mx_cl (S a (-2) = 7) d 120 [(2, a), (0, x0)] 259 877 [l0, l1, l2, l3] [] S h n) ∧
  (∀ (d : Nat) (x : Int) (l0 l1 l3 : Option mx_V) (v0 : mx_V) (S h : mx_H) (n : Int), mx_ex d 259 877 [l0, l1, some (2, x), l3] [v0] S h n = mx_ex d 259 878 [l0, l1, some (2, x), l3] [(2, x), v0] S h n) ∧
  (∀ (d : Nat) (x : Int) (l1 l2 l3 : Option mx_V) (v0 v1 : mx_V) (S h : mx_H) (n : Int), mx_ex d 259 878 [some (2, x), l1, l2, l3] [v0, v1] S h n = mx_ex d 259 879 [some (2, x), l1, l2, l3] [(2, x), v0, v1] S h n) ∧
  (∀ (d : Nat) (x : Int) (l0 l1 l2 : Option mx_V) (v0 v1 v2 : mx_V) (S h : mx_H) (n : Int), mx_ex d 259 879 [l0, l1, l2, some (0, x)] [v0, v1, v2] S h n = mx_ex d 259 880 [l0, l1, l2, some (0, x)] [(0, x), v0, v1, v2] S h n) :=
  ⟨by intros; exact eq_i2 (o := mx_add) rfl,
   by intros; exact eq_iald rfl,
   by intros; exact eq_cv rfl (Nat.le_of_ble_eq_true rfl) rfl rfl rfl (Nat.le_of_ble_eq_true rfl),
   by intros; exact eq_ic0 rfl,
   by intros; exact eq_push rfl,
   by intros; exact eq_rr rfl,
   by intros; exact eq_ld rfl rfl,
   by intros; exact eq_ld rfl rfl,
   by intros; exact eq_ld rfl rfl,
   by intros; exact eq_push rfl,
   by intros; exact eq_i2 (o := mx_add) rfl,
   by intros; exact eq_iald rfl,
   by intros; exact eq_ld rfl rfl,
   by intros; exact eq_ld rfl rfl,
   by intros; exact eq_push rfl,
   by intros; exact eq_i2 (o := mx_add) rfl,
   by intros; exact eq_iald rfl,
   by intros; exact eq_ld rfl rfl,
   by intros; exact eq_ld rfl rfl,
   by intros; exact eq_push rfl,
   by intros; exact eq_i2 (o := mx_add) rfl,
   by intros; exact eq_iald rfl,
   by intros; exact eq_ld rfl rfl,
   by intros; exact eq_ld rfl rfl,
   by intros; exact eq_push rfl,
   by intros; exact eq_i2 (o := mx_add) rfl,
   by intros; exact eq_iald rfl,
   by intros; exact eq_cv rfl (Nat.le_of_ble_eq_true rfl) rfl rfl rfl (Nat.le_of_ble_eq_true rfl),
   by intros; exact eq_ld rfl rfl,
   by intros; exact eq_ld rfl rfl,
   by intros; exact eq_ld rfl rfl,
   by intros; exact eq_push rfl,
   by intros; exact eq_i2 (o := mx_add) rfl,
   by intros; exact eq_iald rfl,
   by intros; exact eq_ld rfl rfl,
   by intros; exact eq_ld rfl rfl,
   by intros; exact eq_push rfl,
   by intros; exact eq_i2 (o := mx_add) rfl,
   by intros; exact eq_iald rfl,
   by intros; exact eq_ld rfl rfl,
   by intros; exact eq_ld rfl rfl,
   by intros; exact eq_push rfl,
   by intros; exact eq_i2 (o := mx_add) rfl,
   by intros; exact eq_iald rfl,
   by intros; exact eq_ld rfl rfl,
   by intros; exact eq_ld rfl rfl,
   by intros; exact eq_push rfl,
   by intros; exact eq_i2 (o := mx_add) rfl,
   by intros; exact eq_iald rfl,
   by intros; exact eq_cv rfl (Nat.le_of_ble_eq_true rfl) rfl rfl rfl (Nat.le_of_ble_eq_true rfl),
   by intros; exact eq_ic0 rfl,
   by intros; exact eq_push rfl,
   by intros; exact eq_rr rfl,
   by intros; exact eq_ld rfl rfl,
   by intros; exact eq_cv rfl (Nat.le_of_ble_eq_true rfl) rfl rfl rfl (Nat.le_of_ble_eq_true rfl),
   by intros; exact eq_ld rfl rfl,
   by intros; exact eq_cv rfl (Nat.le_of_ble_eq_true rfl) rfl rfl rfl (Nat.le_of_ble_eq_true rfl),
   by intros; exact eq_ic0 rfl,
   by intros; exact eq_push rfl,
   by intros; exact eq_rr rfl,
   by intros; exact eq_ld rfl rfl,
   by intros; exact eq_ld rfl rfl,
   by intros; exact eq_ld rfl rfl,
   by intros; exact eq_push rfl,
   by intros; exact eq_i2 (o := mx_add) rfl,
   by intros; exact eq_iald rfl,
   by intros; exact eq_cv rfl (Nat.le_of_ble_eq_true rfl) rfl rfl rfl (Nat.le_of_ble_eq_true rfl),
   by intros; exact eq_ld rfl rfl,
   by intros; exact eq_ld rfl rfl,
   by intros; exact eq_ld rfl rfl⟩
theorem rw_L_law_8 :
  (∀ (d : Nat) (l0 l1 l2 l3 : Option mx_V) (v0 v1 v2 v3 : mx_V) (S h : mx_H) (n : Int), mx_ex d 259 880 [l0, l1, l2, l3] [v0, v1, v2, v3] S h n = mx_ex d 259 881 [l0, l1, l2, l3] [(0, 1), v0, v1, v2, v3] S h n) ∧
  (∀ (d : Nat) (b a : Int) (l0 l1 l2 l3 : Option mx_V) (v2 v3 v4 : mx_V) (S h : mx_H) (n : Int), mx_ex d 259 881 [l0, l1, l2, l3] [(0, b), (0, a), v2, v3, v4] S h n = mx_ex d 259 882 [l0, l1, l2, l3] [(0, mx_w (a + b)), v2, v3, v4] S h n) ∧
  (∀ (d : Nat) (i a : Int) (l0 l1 l2 l3 : Option mx_V) (v2 v3 : mx_V) (S h : mx_H) (n : Int), mx_ex d 259 882 [l0, l1, l2, l3] [(0, i), (2, a), v2, v3] S h n = mx_gd ((S a (-2) = 20 ∨ S a (-2) = 24) ∧ 0 ≤ i ∧ i < S a (-1)) d 259 883 [l0, l1, l2, l3] [(0, h a i), v2, v3] S h n) ∧
  (∀ (d : Nat) (x0 a : Int) (l0 l1 l2 l3 : Option mx_V) (v2 : mx_V) (S h : mx_H) (n : Int), mx_ex (d + 1) 259 883 [l0, l1, l2, l3] [(0, x0), (2, a), v2] S h n = mx_cl (S a (-2) = 13) d 207 [(2, a), (0, x0)] 259 886 [l0, l1, l2, l3] [v2] S h n) ∧
  (∀ (d : Nat) (b a : Int) (l0 l1 l2 l3 : Option mx_V) (S h : mx_H) (n : Int), mx_ex d 259 886 [l0, l1, l2, l3] [(0, b), (0, a)] S h n = mx_br (a = b) d 259 1653 889 [l0, l1, l2, l3] [] S h n) ∧
  (∀ (d : Nat) (l0 l1 l2 l3 : Option mx_V) (S h : mx_H) (n : Int), mx_ex d 259 889 [l0, l1, l2, l3] [] S h n = mx_ex d 259 890 [l0, l1, l2, l3] [(0, 0)] S h n) ∧
  (∀ (d : Nat) (x : Int) (l0 l1 l2 l3 : Option mx_V) (S h : mx_H) (n : Int), mx_ex d 259 890 [l0, l1, l2, l3] [(0, x)] S h n = mx_re (0 ≤ x ∧ x ≤ 1) (some (0, x)) S h n) ∧
  (∀ (d : Nat) (x : Int) (l0 l2 l3 : Option mx_V) (S h : mx_H) (n : Int), mx_ex d 259 891 [l0, some (2, x), l2, l3] [] S h n = mx_ex d 259 892 [l0, some (2, x), l2, l3] [(2, x)] S h n) ∧
  (∀ (d : Nat) (x : Int) (l1 l2 l3 : Option mx_V) (v0 : mx_V) (S h : mx_H) (n : Int), mx_ex d 259 892 [some (2, x), l1, l2, l3] [v0] S h n = mx_ex d 259 893 [some (2, x), l1, l2, l3] [(2, x), v0] S h n) ∧
  (∀ (d : Nat) (x : Int) (l0 l1 l2 : Option mx_V) (v0 v1 : mx_V) (S h : mx_H) (n : Int), mx_ex d 259 893 [l0, l1, l2, some (0, x)] [v0, v1] S h n = mx_ex d 259 894 [l0, l1, l2, some (0, x)] [(0, x), v0, v1] S h n) ∧
  (∀ (d : Nat) (l0 l1 l2 l3 : Option mx_V) (v0 v1 v2 : mx_V) (S h : mx_H) (n : Int), mx_ex d 259 894 [l0, l1, l2, l3] [v0, v1, v2] S h n = mx_ex d 259 895 [l0, l1, l2, l3] [(0, 1), v0, v1, v2] S h n) ∧
  (∀ (d : Nat) (b a : Int) (l0 l1 l2 l3 : Option mx_V) (v2 v3 : mx_V) (S h : mx_H) (n : Int), mx_ex d 259 895 [l0, l1, l2, l3] [(0, b), (0, a), v2, v3] S h n = mx_ex d 259 896 [l0, l1, l2, l3] [(0, mx_w (a + b)), v2, v3] S h n) ∧
  (∀ (d : Nat) (i a : Int) (l0 l1 l2 l3 : Option mx_V) (v2 : mx_V) (S h : mx_H) (n : Int), mx_ex d 259 896 [l0, l1, l2, l3] [(0, i), (2, a), v2] S h n = mx_gd ((S a (-2) = 20 ∨ S a (-2) = 24) ∧ 0 ≤ i ∧ i < S a (-1)) d 259 897 [l0, l1, l2, l3] [(0, h a i), v2] S h n) ∧
  (∀ (d : Nat) (x0 a : Int) (l0 l1 l2 l3 : Option mx_V) (S h : mx_H) (n : Int), mx_ex (d + 1) 259 897 [l0, l1, l2, l3] [(0, x0), (2, a)] S h n = mx_cl (S a (-2) = 7) d 121 [(2, a), (0, x0)] 259 900 [l0, l1, l2, l3] [] S h n) ∧
  (∀ (d : Nat) (x : Int) (l0 l1 l3 : Option mx_V) (v0 : mx_V) (S h : mx_H) (n : Int), mx_ex d 259 900 [l0, l1, some (2, x), l3] [v0] S h n = mx_ex d 259 901 [l0, l1, some (2, x), l3] [(2, x), v0] S h n) ∧
  (∀ (d : Nat) (x : Int) (l1 l2 l3 : Option mx_V) (v0 v1 : mx_V) (S h : mx_H) (n : Int), mx_ex d 259 901 [some (2, x), l1, l2, l3] [v0, v1] S h n = mx_ex d 259 902 [some (2, x), l1, l2, l3] [(2, x), v0, v1] S h n) ∧
  (∀ (d : Nat) (x : Int) (l0 l1 l2 : Option mx_V) (v0 v1 v2 : mx_V) (S h : mx_H) (n : Int), mx_ex d 259 902 [l0, l1, l2, some (0, x)] [v0, v1, v2] S h n = mx_ex d 259 903 [l0, l1, l2, some (0, x)] [(0, x), v0, v1, v2] S h n) ∧
  (∀ (d : Nat) (l0 l1 l2 l3 : Option mx_V) (v0 v1 v2 v3 : mx_V) (S h : mx_H) (n : Int), mx_ex d 259 903 [l0, l1, l2, l3] [v0, v1, v2, v3] S h n = mx_ex d 259 904 [l0, l1, l2, l3] [(0, 1), v0, v1, v2, v3] S h n) ∧
  (∀ (d : Nat) (b a : Int) (l0 l1 l2 l3 : Option mx_V) (v2 v3 v4 : mx_V) (S h : mx_H) (n : Int), mx_ex d 259 904 [l0, l1, l2, l3] [(0, b), (0, a), v2, v3, v4] S h n = mx_ex d 259 905 [l0, l1, l2, l3] [(0, mx_w (a + b)), v2, v3, v4] S h n) ∧
  (∀ (d : Nat) (i a : Int) (l0 l1 l2 l3 : Option mx_V) (v2 v3 : mx_V) (S h : mx_H) (n : Int), mx_ex d 259 905 [l0, l1, l2, l3] [(0, i), (2, a), v2, v3] S h n = mx_gd ((S a (-2) = 20 ∨ S a (-2) = 24) ∧ 0 ≤ i ∧ i < S a (-1)) d 259 906 [l0, l1, l2, l3] [(0, h a i), v2, v3] S h n) ∧
  (∀ (d : Nat) (x0 a : Int) (l0 l1 l2 l3 : Option mx_V) (v2 : mx_V) (S h : mx_H) (n : Int), mx_ex (d + 1) 259 906 [l0, l1, l2, l3] [(0, x0), (2, a), v2] S h n = mx_cl (S a (-2) = 13) d 208 [(2, a), (0, x0)] 259 909 [l0, l1, l2, l3] [v2] S h n) ∧
  (∀ (d : Nat) (b a : Int) (l0 l1 l2 l3 : Option mx_V) (S h : mx_H) (n : Int), mx_ex d 259 909 [l0, l1, l2, l3] [(0, b), (0, a)] S h n = mx_br (a = b) d 259 1653 912 [l0, l1, l2, l3] [] S h n) ∧
  (∀ (d : Nat) (l0 l1 l2 l3 : Option mx_V) (S h : mx_H) (n : Int), mx_ex d 259 912 [l0, l1, l2, l3] [] S h n = mx_ex d 259 913 [l0, l1, l2, l3] [(0, 0)] S h n) ∧
  (∀ (d : Nat) (x : Int) (l0 l1 l2 l3 : Option mx_V) (S h : mx_H) (n : Int), mx_ex d 259 913 [l0, l1, l2, l3] [(0, x)] S h n = mx_re (0 ≤ x ∧ x ≤ 1) (some (0, x)) S h n) ∧
  (∀ (d : Nat) (x : Int) (l0 l2 l3 : Option mx_V) (S h : mx_H) (n : Int), mx_ex d 259 914 [l0, some (2, x), l2, l3] [] S h n = mx_ex d 259 915 [l0, some (2, x), l2, l3] [(2, x)] S h n) ∧
  (∀ (d : Nat) (x : Int) (l1 l2 l3 : Option mx_V) (v0 : mx_V) (S h : mx_H) (n : Int), mx_ex d 259 915 [some (2, x), l1, l2, l3] [v0] S h n = mx_ex d 259 916 [some (2, x), l1, l2, l3] [(2, x), v0] S h n) ∧
  (∀ (d : Nat) (x : Int) (l0 l1 l2 : Option mx_V) (v0 v1 : mx_V) (S h : mx_H) (n : Int), mx_ex d 259 916 [l0, l1, l2, some (0, x)] [v0, v1] S h n = mx_ex d 259 917 [l0, l1, l2, some (0, x)] [(0, x), v0, v1] S h n) ∧
  (∀ (d : Nat) (l0 l1 l2 l3 : Option mx_V) (v0 v1 v2 : mx_V) (S h : mx_H) (n : Int), mx_ex d 259 917 [l0, l1, l2, l3] [v0, v1, v2] S h n = mx_ex d 259 918 [l0, l1, l2, l3] [(0, 1), v0, v1, v2] S h n) ∧
  (∀ (d : Nat) (b a : Int) (l0 l1 l2 l3 : Option mx_V) (v2 v3 : mx_V) (S h : mx_H) (n : Int), mx_ex d 259 918 [l0, l1, l2, l3] [(0, b), (0, a), v2, v3] S h n = mx_ex d 259 919 [l0, l1, l2, l3] [(0, mx_w (a + b)), v2, v3] S h n) ∧
  (∀ (d : Nat) (i a : Int) (l0 l1 l2 l3 : Option mx_V) (v2 : mx_V) (S h : mx_H) (n : Int), mx_ex d 259 919 [l0, l1, l2, l3] [(0, i), (2, a), v2] S h n = mx_gd ((S a (-2) = 20 ∨ S a (-2) = 24) ∧ 0 ≤ i ∧ i < S a (-1)) d 259 920 [l0, l1, l2, l3] [(0, h a i), v2] S h n) ∧
  (∀ (d : Nat) (x : Int) (l1 l2 l3 : Option mx_V) (v0 v1 : mx_V) (S h : mx_H) (n : Int), mx_ex d 259 920 [some (2, x), l1, l2, l3] [v0, v1] S h n = mx_ex d 259 921 [some (2, x), l1, l2, l3] [(2, x), v0, v1] S h n) ∧
  (∀ (d : Nat) (x : Int) (l0 l1 l2 : Option mx_V) (v0 v1 v2 : mx_V) (S h : mx_H) (n : Int), mx_ex d 259 921 [l0, l1, l2, some (0, x)] [v0, v1, v2] S h n = mx_ex d 259 922 [l0, l1, l2, some (0, x)] [(0, x), v0, v1, v2] S h n) ∧
  (∀ (d : Nat) (l0 l1 l2 l3 : Option mx_V) (v0 v1 v2 v3 : mx_V) (S h : mx_H) (n : Int), mx_ex d 259 922 [l0, l1, l2, l3] [v0, v1, v2, v3] S h n = mx_ex d 259 923 [l0, l1, l2, l3] [(0, 2), v0, v1, v2, v3] S h n) ∧
  (∀ (d : Nat) (b a : Int) (l0 l1 l2 l3 : Option mx_V) (v2 v3 v4 : mx_V) (S h : mx_H) (n : Int), mx_ex d 259 923 [l0, l1, l2, l3] [(0, b), (0, a), v2, v3, v4] S h n = mx_ex d 259 924 [l0, l1, l2, l3] [(0, mx_w (a + b)), v2, v3, v4] S h n) ∧
  (∀ (d : Nat) (i a : Int) (l0 l1 l2 l3 : Option mx_V) (v2 v3 : mx_V) (S h : mx_H) (n : Int), mx_ex d 259 924 [l0, l1, l2, l3] [(0, i), (2, a), v2, v3] S h n = mx_gd ((S a (-2) = 20 ∨ S a (-2) = 24) ∧ 0 ≤ i ∧ i < S a (-1)) d 259 925 [l0, l1, l2, l3] [(0, h a i), v2, v3] S h n) ∧
  (∀ (d : Nat) (x : Int) (l1 l2 l3 : Option mx_V) (v0 v1 v2 : mx_V) (S h : mx_H) (n : Int), mx_ex d 259 925 [some (2, x), l1, l2, l3] [v0, v1, v2] S h n = mx_ex d 259 926 [some (2, x), l1, l2, l3] [(2, x), v0, v1, v2] S h n) ∧
  (∀ (d : Nat) (x : Int) (l0 l1 l2 : Option mx_V) (v0 v1 v2 v3 : mx_V) (S h : mx_H) (n : Int), mx_ex d 259 926 [l0, l1, l2, some (0, x)] [v0, v1, v2, v3] S h n = mx_ex d 259 927 [l0, l1, l2, some (0, x)] [(0, x), v0, v1, v2, v3] S h n) ∧
  (∀ (d : Nat) (l0 l1 l2 l3 : Option mx_V) (v0 v1 v2 v3 v4 : mx_V) (S h : mx_H) (n : Int), mx_ex d 259 927 [l0, l1, l2, l3] [v0, v1, v2, v3, v4] S h n = mx_ex d 259 928 [l0, l1, l2, l3] [(0, 3), v0, v1, v2, v3, v4] S h n) ∧
  (∀ (d : Nat) (b a : Int) (l0 l1 l2 l3 : Option mx_V) (v2 v3 v4 v5 : mx_V) (S h : mx_H) (n : Int), mx_ex d 259 928 [l0, l1, l2, l3] [(0, b), (0, a), v2, v3, v4, v5] S h n = mx_ex d 259 929 [l0, l1, l2, l3] [(0, mx_w (a + b)), v2, v3, v4, v5] S h n) ∧
  (∀ (d : Nat) (i a : Int) (l0 l1 l2 l3 : Option mx_V) (v2 v3 v4 : mx_V) (S h : mx_H) (n : Int), mx_ex d 259 929 [l0, l1, l2, l3] [(0, i), (2, a), v2, v3, v4] S h n = mx_gd ((S a (-2) = 20 ∨ S a (-2) = 24) ∧ 0 ≤ i ∧ i < S a (-1)) d 259 930 [l0, l1, l2, l3] [(0, h a i), v2, v3, v4] S h n) ∧
  (∀ (d : Nat) (x0 x1 x2 a : Int) (l0 l1 l2 l3 : Option mx_V) (S h : mx_H) (n : Int), mx_ex (d + 1) 259 930 [l0, l1, l2, l3] [(0, x0), (0, x1), (0, x2), (2, a)] S h n = mx_cl (S a (-2) = 7) d 122 [(2, a), (0, x2), (0, x1), (0, x0)] 259 933 [l0, l1, l2, l3] [] S h n) ∧
  (∀ (d : Nat) (x : Int) (l0 l1 l3 : Option mx_V) (v0 : mx_V) (S h : mx_H) (n : Int), mx_ex d 259 933 [l0, l1, some (2, x), l3] [v0] S h n = mx_ex d 259 934 [l0, l1, some (2, x), l3] [(2, x), v0] S h n) ∧
  (∀ (d : Nat) (x : Int) (l1 l2 l3 : Option mx_V) (v0 v1 : mx_V) (S h : mx_H) (n : Int), mx_ex d 259 934 [some (2, x), l1, l2, l3] [v0, v1] S h n = mx_ex d 259 935 [some (2, x), l1, l2, l3] [(2, x), v0, v1] S h n) ∧
  (∀ (d : Nat) (x : Int) (l0 l1 l2 : Option mx_V) (v0 v1 v2 : mx_V) (S h : mx_H) (n : Int), mx_ex d 259 935 [l0, l1, l2, some (0, x)] [v0, v1, v2] S h n = mx_ex d 259 936 [l0, l1, l2, some (0, x)] [(0, x), v0, v1, v2] S h n) ∧
  (∀ (d : Nat) (l0 l1 l2 l3 : Option mx_V) (v0 v1 v2 v3 : mx_V) (S h : mx_H) (n : Int), mx_ex d 259 936 [l0, l1, l2, l3] [v0, v1, v2, v3] S h n = mx_ex d 259 937 [l0, l1, l2, l3] [(0, 1), v0, v1, v2, v3] S h n) ∧
  (∀ (d : Nat) (b a : Int) (l0 l1 l2 l3 : Option mx_V) (v2 v3 v4 : mx_V) (S h : mx_H) (n : Int), mx_ex d 259 937 [l0, l1, l2, l3] [(0, b), (0, a), v2, v3, v4] S h n = mx_ex d 259 938 [l0, l1, l2, l3] [(0, mx_w (a + b)), v2, v3, v4] S h n) ∧
  (∀ (d : Nat) (i a : Int) (l0 l1 l2 l3 : Option mx_V) (v2 v3 : mx_V) (S h : mx_H) (n : Int), mx_ex d 259 938 [l0, l1, l2, l3] [(0, i), (2, a), v2, v3] S h n = mx_gd ((S a (-2) = 20 ∨ S a (-2) = 24) ∧ 0 ≤ i ∧ i < S a (-1)) d 259 939 [l0, l1, l2, l3] [(0, h a i), v2, v3] S h n) ∧
  (∀ (d : Nat) (x : Int) (l1 l2 l3 : Option mx_V) (v0 v1 v2 : mx_V) (S h : mx_H) (n : Int), mx_ex d 259 939 [some (2, x), l1, l2, l3] [v0, v1, v2] S h n = mx_ex d 259 940 [some (2, x), l1, l2, l3] [(2, x), v0, v1, v2] S h n) ∧
  (∀ (d : Nat) (x : Int) (l0 l1 l2 : Option mx_V) (v0 v1 v2 v3 : mx_V) (S h : mx_H) (n : Int), mx_ex d 259 940 [l0, l1, l2, some (0, x)] [v0, v1, v2, v3] S h n = mx_ex d 259 941 [l0, l1, l2, some (0, x)] [(0, x), v0, v1, v2, v3] S h n) ∧
  (∀ (d : Nat) (l0 l1 l2 l3 : Option mx_V) (v0 v1 v2 v3 v4 : mx_V) (S h : mx_H) (n : Int), mx_ex d 259 941 [l0, l1, l2, l3] [v0, v1, v2, v3, v4] S h n = mx_ex d 259 942 [l0, l1, l2, l3] [(0, 2), v0, v1, v2, v3, v4] S h n) ∧
  (∀ (d : Nat) (b a : Int) (l0 l1 l2 l3 : Option mx_V) (v2 v3 v4 v5 : mx_V) (S h : mx_H) (n : Int), mx_ex d 259 942 [l0, l1, l2, l3] [(0, b), (0, a), v2, v3, v4, v5] S h n = mx_ex d 259 943 [l0, l1, l2, l3] [(0, mx_w (a + b)), v2, v3, v4, v5] S h n) ∧
  (∀ (d : Nat) (i a : Int) (l0 l1 l2 l3 : Option mx_V) (v2 v3 v4 : mx_V) (S h : mx_H) (n : Int), mx_ex d 259 943 [l0, l1, l2, l3] [(0, i), (2, a), v2, v3, v4] S h n = mx_gd ((S a (-2) = 20 ∨ S a (-2) = 24) ∧ 0 ≤ i ∧ i < S a (-1)) d 259 944 [l0, l1, l2, l3] [(0, h a i), v2, v3, v4] S h n) ∧
  (∀ (d : Nat) (x : Int) (l1 l2 l3 : Option mx_V) (v0 v1 v2 v3 : mx_V) (S h : mx_H) (n : Int), mx_ex d 259 944 [some (2, x), l1, l2, l3] [v0, v1, v2, v3] S h n = mx_ex d 259 945 [some (2, x), l1, l2, l3] [(2, x), v0, v1, v2, v3] S h n) ∧
  (∀ (d : Nat) (x : Int) (l0 l1 l2 : Option mx_V) (v0 v1 v2 v3 v4 : mx_V) (S h : mx_H) (n : Int), mx_ex d 259 945 [l0, l1, l2, some (0, x)] [v0, v1, v2, v3, v4] S h n = mx_ex d 259 946 [l0, l1, l2, some (0, x)] [(0, x), v0, v1, v2, v3, v4] S h n) ∧
  (∀ (d : Nat) (l0 l1 l2 l3 : Option mx_V) (v0 v1 v2 v3 v4 v5 : mx_V) (S h : mx_H) (n : Int), mx_ex d 259 946 [l0, l1, l2, l3] [v0, v1, v2, v3, v4, v5] S h n = mx_ex d 259 947 [l0, l1, l2, l3] [(0, 3), v0, v1, v2, v3, v4, v5] S h n) ∧
  (∀ (d : Nat) (b a : Int) (l0 l1 l2 l3 : Option mx_V) (v2 v3 v4 v5 v6 : mx_V) (S h : mx_H) (n : Int), mx_ex d 259 947 [l0, l1, l2, l3] [(0, b), (0, a), v2, v3, v4, v5, v6] S h n = mx_ex d 259 948 [l0, l1, l2, l3] [(0, mx_w (a + b)), v2, v3, v4, v5, v6] S h n) ∧
  (∀ (d : Nat) (i a : Int) (l0 l1 l2 l3 : Option mx_V) (v2 v3 v4 v5 : mx_V) (S h : mx_H) (n : Int), mx_ex d 259 948 [l0, l1, l2, l3] [(0, i), (2, a), v2, v3, v4, v5] S h n = mx_gd ((S a (-2) = 20 ∨ S a (-2) = 24) ∧ 0 ≤ i ∧ i < S a (-1)) d 259 949 [l0, l1, l2, l3] [(0, h a i), v2, v3, v4, v5] S h n) ∧
  (∀ (d : Nat) (x0 x1 x2 a : Int) (l0 l1 l2 l3 : Option mx_V) (v4 : mx_V) (S h : mx_H) (n : Int), mx_ex (d + 1) 259 949 [l0, l1, l2, l3] [(0, x0), (0, x1), (0, x2), (2, a), v4] S h n = mx_cl (S a (-2) = 13) d 209 [(2, a), (0, x2), (0, x1), (0, x0)] 259 952 [l0, l1, l2, l3] [v4] S h n) ∧
  (∀ (d : Nat) (b a : Int) (l0 l1 l2 l3 : Option mx_V) (S h : mx_H) (n : Int), mx_ex d 259 952 [l0, l1, l2, l3] [(1, b), (1, a)] S h n = mx_ex d 259 953 [l0, l1, l2, l3] [(0, mx_cmp a b)] S h n) ∧
  (∀ (d : Nat) (a : Int) (l0 l1 l2 l3 : Option mx_V) (S h : mx_H) (n : Int), mx_ex d 259 953 [l0, l1, l2, l3] [(0, a)] S h n = mx_br (a = 0) d 259 1653 956 [l0, l1, l2, l3] [] S h n) ∧
  (∀ (d : Nat) (l0 l1 l2 l3 : Option mx_V) (S h : mx_H) (n : Int), mx_ex d 259 956 [l0, l1, l2, l3] [] S h n = mx_ex d 259 957 [l0, l1, l2, l3] [(0, 0)] S h n) ∧
  (∀ (d : Nat) (x : Int) (l0 l1 l2 l3 : Option mx_V) (S h : mx_H) (n : Int), mx_ex d 259 957 [l0, l1, l2, l3] [(0, x)] S h n = mx_re (0 ≤ x ∧ x ≤ 1) (some (0, x)) S h n) ∧
  (∀ (d : Nat) (x : Int) (l0 l2 l3 : Option mx_V) (S h : mx_H) (n : Int), mx_ex d 259 958 [l0, some (2, x), l2, l3] [] S h n = mx_ex d 259 959 [l0, some (2, x), l2, l3] [(2, x)] S h n) ∧
  (∀ (d : Nat) (x : Int) (l1 l2 l3 : Option mx_V) (v0 : mx_V) (S h : mx_H) (n : Int), mx_ex d 259 959 [some (2, x), l1, l2, l3] [v0] S h n = mx_ex d 259 960 [some (2, x), l1, l2, l3] [(2, x), v0] S h n) ∧
  (∀ (d : Nat) (x : Int) (l0 l1 l2 : Option mx_V) (v0 v1 : mx_V) (S h : mx_H) (n : Int), mx_ex d 259 960 [l0, l1, l2, some (0, x)] [v0, v1] S h n = mx_ex d 259 961 [l0, l1, l2, some (0, x)] [(0, x), v0, v1] S h n) ∧
  (∀ (d : Nat) (l0 l1 l2 l3 : Option mx_V) (v0 v1 v2 : mx_V) (S h : mx_H) (n : Int), mx_ex d 259 961 [l0, l1, l2, l3] [v0, v1, v2] S h n = mx_ex d 259 962 [l0, l1, l2, l3] [(0, 1), v0, v1, v2] S h n) ∧
  (∀ (d : Nat) (b a : Int) (l0 l1 l2 l3 : Option mx_V) (v2 v3 : mx_V) (S h : mx_H) (n : Int), mx_ex d 259 962 [l0, l1, l2, l3] [(0, b), (0, a), v2, v3] S h n = mx_ex d 259 963 [l0, l1, l2, l3] [(0, mx_w (a + b)), v2, v3] S h n) ∧
  (∀ (d : Nat) (i a : Int) (l0 l1 l2 l3 : Option mx_V) (v2 : mx_V) (S h : mx_H) (n : Int), mx_ex d 259 963 [l0, l1, l2, l3] [(0, i), (2, a), v2] S h n = mx_gd ((S a (-2) = 20 ∨ S a (-2) = 24) ∧ 0 ≤ i ∧ i < S a (-1)) d 259 964 [l0, l1, l2, l3] [(0, h a i), v2] S h n) ∧
  (∀ (d : Nat) (x : Int) (l1 l2 l3 : Option mx_V) (v0 v1 : mx_V) (S h : mx_H) (n : Int), mx_ex d 259 964 [some (2, x), l1, l2, l3] [v0, v1] S h n = mx_ex d 259 965 [some (2, x), l1, l2, l3] [(2, x), v0, v1] S h n) ∧
  (∀ (d : Nat) (x : Int) (l0 l1 l2 : Option mx_V) (v0 v1 v2 : mx_V) (S h : mx_H) (n : Int), mx_ex d 259 965 [l0, l1, l2, some (0, x)] [v0, v1, v2] S h n = mx_ex d 259 966 [l0, l1, l2, some (0, x)] [(0, x), v0, v1, v2] S h n) :=
  ⟨by intros; exact eq_push rfl,
   by intros; exact eq_i2 (o := mx_add) rfl,
   by intros; exact eq_iald rfl,
   by intros; exact eq_cv rfl (Nat.le_of_ble_eq_true rfl) rfl rfl rfl (Nat.le_of_ble_eq_true rfl),
   by intros; exact eq_ic0 rfl,
   by intros; exact eq_push rfl,
   by intros; exact eq_rr rfl,
   by intros; exact eq_ld rfl rfl,
   by intros; exact eq_ld rfl rfl,
   by intros; exact eq_ld rfl rfl,
   by intros; exact eq_push rfl,
   by intros; exact eq_i2 (o := mx_add) rfl,
   by intros; exact eq_iald rfl,
   by intros; exact eq_cv rfl (Nat.le_of_ble_eq_true rfl) rfl rfl rfl (Nat.le_of_ble_eq_true rfl),
   by intros; exact eq_ld rfl rfl,
   by intros; exact eq_ld rfl rfl,
   by intros; exact eq_ld rfl rfl,
   by intros; exact eq_push rfl,
   by intros; exact eq_i2 (o := mx_add) rfl,
   by intros; exact eq_iald rfl,
   by intros; exact eq_cv rfl (Nat.le_of_ble_eq_true rfl) rfl rfl rfl (Nat.le_of_ble_eq_true rfl),
   by intros; exact eq_ic0 rfl,
   by intros; exact eq_push rfl,
   by intros; exact eq_rr rfl,
   by intros; exact eq_ld rfl rfl,
   by intros; exact eq_ld rfl rfl,
   by intros; exact eq_ld rfl rfl,
   by intros; exact eq_push rfl,
   by intros; exact eq_i2 (o := mx_add) rfl,
   by intros; exact eq_iald rfl,
   by intros; exact eq_ld rfl rfl,
   by intros; exact eq_ld rfl rfl,
   by intros; exact eq_push rfl,
   by intros; exact eq_i2 (o := mx_add) rfl,
   by intros; exact eq_iald rfl,
   by intros; exact eq_ld rfl rfl,
   by intros; exact eq_ld rfl rfl,
   by intros; exact eq_push rfl,
   by intros; exact eq_i2 (o := mx_add) rfl,
   by intros; exact eq_iald rfl,
   by intros; exact eq_cv rfl (Nat.le_of_ble_eq_true rfl) rfl rfl rfl (Nat.le_of_ble_eq_true rfl),
   by intros; exact eq_ld rfl rfl,
   by intros; exact eq_ld rfl rfl,
   by intros; exact eq_ld rfl rfl,
   by intros; exact eq_push rfl,
   by intros; exact eq_i2 (o := mx_add) rfl,
   by intros; exact eq_iald rfl,
   by intros; exact eq_ld rfl rfl,
   by intros; exact eq_ld rfl rfl,
   by intros; exact eq_push rfl,
   by intros; exact eq_i2 (o := mx_add) rfl,
   by intros; exact eq_iald rfl,
   by intros; exact eq_ld rfl rfl,
   by intros; exact eq_ld rfl rfl,
   by intros; exact eq_push rfl,
   by intros; exact eq_i2 (o := mx_add) rfl,
   by intros; exact eq_iald rfl,
   by intros; exact eq_cv rfl (Nat.le_of_ble_eq_true rfl) rfl rfl rfl (Nat.le_of_ble_eq_true rfl),
   by intros; exact eq_lcmp rfl,
   by intros; exact eq_if0 rfl,
   by intros; exact eq_push rfl,
   by intros; exact eq_rr rfl,
   by intros; exact eq_ld rfl rfl,
   by intros; exact eq_ld rfl rfl,
   by intros; exact eq_ld rfl rfl,
   by intros; exact eq_push rfl,
   by intros; exact eq_i2 (o := mx_add) rfl,
   by intros; exact eq_iald rfl,
   by intros; exact eq_ld rfl rfl,
   by intros; exact eq_ld rfl rfl⟩
theorem rw_L_law_9 :
  (∀ (d : Nat) (l0 l1 l2 l3 : Option mx_V) (v0 v1 v2 v3 : mx_V) (S h : mx_H) (n : Int), mx_ex d 259 966 [l0, l1, l2, l3] [v0, v1, v2, v3] S h n = mx_ex d 259 967 [l0, l1, l2, l3] [(0, 2), v0, v1, v2, v3] S h n) ∧
  (∀ (d : Nat) (b a : Int) (l0 l1 l2 l3 : Option mx_V) (v2 v3 v4 : mx_V) (S h : mx_H) (n : Int), mx_ex d 259 967 [l0, l1, l2, l3] [(0, b), (0, a), v2, v3, v4] S h n = mx_ex d 259 968 [l0, l1, l2, l3] [(0, mx_w (a + b)), v2, v3, v4] S h n) ∧
  (∀ (d : Nat) (i a : Int) (l0 l1 l2 l3 : Option mx_V) (v2 v3 : mx_V) (S h : mx_H) (n : Int), mx_ex d 259 968 [l0, l1, l2, l3] [(0, i), (2, a), v2, v3] S h n = mx_gd ((S a (-2) = 20 ∨ S a (-2) = 24) ∧ 0 ≤ i ∧ i < S a (-1)) d 259 969 [l0, l1, l2, l3] [(0, h a i), v2, v3] S h n) ∧
  (∀ (d : Nat) (x : Int) (l1 l2 l3 : Option mx_V) (v0 v1 v2 : mx_V) (S h : mx_H) (n : Int), mx_ex d 259 969 [some (2, x), l1, l2, l3] [v0, v1, v2] S h n = mx_ex d 259 970 [some (2, x), l1, l2, l3] [(2, x), v0, v1, v2] S h n) ∧
  (∀ (d : Nat) (x : Int) (l0 l1 l2 : Option mx_V) (v0 v1 v2 v3 : mx_V) (S h : mx_H) (n : Int), mx_ex d 259 970 [l0, l1, l2, some (0, x)] [v0, v1, v2, v3] S h n = mx_ex d 259 971 [l0, l1, l2, some (0, x)] [(0, x), v0, v1, v2, v3] S h n) ∧
  (∀ (d : Nat) (l0 l1 l2 l3 : Option mx_V) (v0 v1 v2 v3 v4 : mx_V) (S h : mx_H) (n : Int), mx_ex d 259 971 [l0, l1, l2, l3] [v0, v1, v2, v3, v4] S h n = mx_ex d 259 972 [l0, l1, l2, l3] [(0, 3), v0, v1, v2, v3, v4] S h n) ∧
  (∀ (d : Nat) (b a : Int) (l0 l1 l2 l3 : Option mx_V) (v2 v3 v4 v5 : mx_V) (S h : mx_H) (n : Int), mx_ex d 259 972 [l0, l1, l2, l3] [(0, b), (0, a), v2, v3, v4, v5] S h n = mx_ex d 259 973 [l0, l1, l2, l3] [(0, mx_w (a + b)), v2, v3, v4, v5] S h n) ∧
  (∀ (d : Nat) (i a : Int) (l0 l1 l2 l3 : Option mx_V) (v2 v3 v4 : mx_V) (S h : mx_H) (n : Int), mx_ex d 259 973 [l0, l1, l2, l3] [(0, i), (2, a), v2, v3, v4] S h n = mx_gd ((S a (-2) = 20 ∨ S a (-2) = 24) ∧ 0 ≤ i ∧ i < S a (-1)) d 259 974 [l0, l1, l2, l3] [(0, h a i), v2, v3, v4] S h n) ∧
  (∀ (d : Nat) (x0 x1 x2 a : Int) (l0 l1 l2 l3 : Option mx_V) (S h : mx_H) (n : Int), mx_ex (d + 1) 259 974 [l0, l1, l2, l3] [(0, x0), (0, x1), (0, x2), (2, a)] S h n = mx_cl (S a (-2) = 7) d 123 [(2, a), (0, x2), (0, x1), (0, x0)] 259 977 [l0, l1, l2, l3] [] S h n) ∧
  (∀ (d : Nat) (x : Int) (l0 l1 l3 : Option mx_V) (v0 : mx_V) (S h : mx_H) (n : Int), mx_ex d 259 977 [l0, l1, some (2, x), l3] [v0] S h n = mx_ex d 259 978 [l0, l1, some (2, x), l3] [(2, x), v0] S h n) ∧
  (∀ (d : Nat) (x : Int) (l1 l2 l3 : Option mx_V) (v0 v1 : mx_V) (S h : mx_H) (n : Int), mx_ex d 259 978 [some (2, x), l1, l2, l3] [v0, v1] S h n = mx_ex d 259 979 [some (2, x), l1, l2, l3] [(2, x), v0, v1] S h n) ∧
  (∀ (d : Nat) (x : Int) (l0 l1 l2 : Option mx_V) (v0 v1 v2 : mx_V) (S h : mx_H) (n : Int), mx_ex d 259 979 [l0, l1, l2, some (0, x)] [v0, v1, v2] S h n = mx_ex d 259 980 [l0, l1, l2, some (0, x)] [(0, x), v0, v1, v2] S h n) ∧
  (∀ (d : Nat) (l0 l1 l2 l3 : Option mx_V) (v0 v1 v2 v3 : mx_V) (S h : mx_H) (n : Int), mx_ex d 259 980 [l0, l1, l2, l3] [v0, v1, v2, v3] S h n = mx_ex d 259 981 [l0, l1, l2, l3] [(0, 1), v0, v1, v2, v3] S h n) ∧
  (∀ (d : Nat) (b a : Int) (l0 l1 l2 l3 : Option mx_V) (v2 v3 v4 : mx_V) (S h : mx_H) (n : Int), mx_ex d 259 981 [l0, l1, l2, l3] [(0, b), (0, a), v2, v3, v4] S h n = mx_ex d 259 982 [l0, l1, l2, l3] [(0, mx_w (a + b)), v2, v3, v4] S h n) ∧
  (∀ (d : Nat) (i a : Int) (l0 l1 l2 l3 : Option mx_V) (v2 v3 : mx_V) (S h : mx_H) (n : Int), mx_ex d 259 982 [l0, l1, l2, l3] [(0, i), (2, a), v2, v3] S h n = mx_gd ((S a (-2) = 20 ∨ S a (-2) = 24) ∧ 0 ≤ i ∧ i < S a (-1)) d 259 983 [l0, l1, l2, l3] [(0, h a i), v2, v3] S h n) ∧
  (∀ (d : Nat) (x : Int) (l1 l2 l3 : Option mx_V) (v0 v1 v2 : mx_V) (S h : mx_H) (n : Int), mx_ex d 259 983 [some (2, x), l1, l2, l3] [v0, v1, v2] S h n = mx_ex d 259 984 [some (2, x), l1, l2, l3] [(2, x), v0, v1, v2] S h n) ∧
  (∀ (d : Nat) (x : Int) (l0 l1 l2 : Option mx_V) (v0 v1 v2 v3 : mx_V) (S h : mx_H) (n : Int), mx_ex d 259 984 [l0, l1, l2, some (0, x)] [v0, v1, v2, v3] S h n = mx_ex d 259 985 [l0, l1, l2, some (0, x)] [(0, x), v0, v1, v2, v3] S h n) ∧
  (∀ (d : Nat) (l0 l1 l2 l3 : Option mx_V) (v0 v1 v2 v3 v4 : mx_V) (S h : mx_H) (n : Int), mx_ex d 259 985 [l0, l1, l2, l3] [v0, v1, v2, v3, v4] S h n = mx_ex d 259 986 [l0, l1, l2, l3] [(0, 2), v0, v1, v2, v3, v4] S h n) ∧
  (∀ (d : Nat) (b a : Int) (l0 l1 l2 l3 : Option mx_V) (v2 v3 v4 v5 : mx_V) (S h : mx_H) (n : Int), mx_ex d 259 986 [l0, l1, l2, l3] [(0, b), (0, a), v2, v3, v4, v5] S h n = mx_ex d 259 987 [l0, l1, l2, l3] [(0, mx_w (a + b)), v2, v3, v4, v5] S h n) ∧
  (∀ (d : Nat) (i a : Int) (l0 l1 l2 l3 : Option mx_V) (v2 v3 v4 : mx_V) (S h : mx_H) (n : Int), mx_ex d 259 987 [l0, l1, l2, l3] [(0, i), (2, a), v2, v3, v4] S h n = mx_gd ((S a (-2) = 20 ∨ S a (-2) = 24) ∧ 0 ≤ i ∧ i < S a (-1)) d 259 988 [l0, l1, l2, l3] [(0, h a i), v2, v3, v4] S h n) ∧
  (∀ (d : Nat) (x : Int) (l1 l2 l3 : Option mx_V) (v0 v1 v2 v3 : mx_V) (S h : mx_H) (n : Int), mx_ex d 259 988 [some (2, x), l1, l2, l3] [v0, v1, v2, v3] S h n = mx_ex d 259 989 [some (2, x), l1, l2, l3] [(2, x), v0, v1, v2, v3] S h n) ∧
  (∀ (d : Nat) (x : Int) (l0 l1 l2 : Option mx_V) (v0 v1 v2 v3 v4 : mx_V) (S h : mx_H) (n : Int), mx_ex d 259 989 [l0, l1, l2, some (0, x)] [v0, v1, v2, v3, v4] S h n = mx_ex d 259 990 [l0, l1, l2, some (0, x)] [(0, x), v0, v1, v2, v3, v4] S h n) ∧
  (∀ (d : Nat) (l0 l1 l2 l3 : Option mx_V) (v0 v1 v2 v3 v4 v5 : mx_V) (S h : mx_H) (n : Int), mx_ex d 259 990 [l0, l1, l2, l3] [v0, v1, v2, v3, v4, v5] S h n = mx_ex d 259 991 [l0, l1, l2, l3] [(0, 3), v0, v1, v2, v3, v4, v5] S h n) ∧
  (∀ (d : Nat) (b a : Int) (l0 l1 l2 l3 : Option mx_V) (v2 v3 v4 v5 v6 : mx_V) (S h : mx_H) (n : Int), mx_ex d 259 991 [l0, l1, l2, l3] [(0, b), (0, a), v2, v3, v4, v5, v6] S h n = mx_ex d 259 992 [l0, l1, l2, l3] [(0, mx_w (a + b)), v2, v3, v4, v5, v6] S h n) ∧
  (∀ (d : Nat) (i a : Int) (l0 l1 l2 l3 : Option mx_V) (v2 v3 v4 v5 : mx_V) (S h : mx_H) (n : Int), mx_ex d 259 992 [l0, l1, l2, l3] [(0, i), (2, a), v2, v3, v4, v5] S h n = mx_gd ((S a (-2) = 20 ∨ S a (-2) = 24) ∧ 0 ≤ i ∧ i < S a (-1)) d 259 993 [l0, l1, l2, l3] [(0, h a i), v2, v3, v4, v5] S h n) ∧
  (∀ (d : Nat) (x0 x1 x2 a : Int) (l0 l1 l2 l3 : Option mx_V) (v4 : mx_V) (S h : mx_H) (n : Int), mx_ex (d + 1) 259 993 [l0, l1, l2, l3] [(0, x0), (0, x1), (0, x2), (2, a), v4] S h n = mx_cl (S a (-2) = 13) d 212 [(2, a), (0, x2), (0, x1), (0, x0)] 259 996 [l0, l1, l2, l3] [v4] S h n) ∧
  (∀ (d : Nat) (b a : Int) (l0 l1 l2 l3 : Option mx_V) (S h : mx_H) (n : Int), mx_ex d 259 996 [l0, l1, l2, l3] [(0, b), (0, a)] S h n = mx_br (a = b) d 259 1653 999 [l0, l1, l2, l3] [] S h n) ∧
  (∀ (d : Nat) (l0 l1 l2 l3 : Option mx_V) (S h : mx_H) (n : Int), mx_ex d 259 999 [l0, l1, l2, l3] [] S h n = mx_ex d 259 1000 [l0, l1, l2, l3] [(0, 0)] S h n) ∧
  (∀ (d : Nat) (x : Int) (l0 l1 l2 l3 : Option mx_V) (S h : mx_H) (n : Int), mx_ex d 259 1000 [l0, l1, l2, l3] [(0, x)] S h n = mx_re (0 ≤ x ∧ x ≤ 1) (some (0, x)) S h n) ∧
  (∀ (d : Nat) (x : Int) (l0 l2 l3 : Option mx_V) (S h : mx_H) (n : Int), mx_ex d 259 1001 [l0, some (2, x), l2, l3] [] S h n = mx_ex d 259 1002 [l0, some (2, x), l2, l3] [(2, x)] S h n) ∧
  (∀ (d : Nat) (x : Int) (l1 l2 l3 : Option mx_V) (v0 : mx_V) (S h : mx_H) (n : Int), mx_ex d 259 1002 [some (2, x), l1, l2, l3] [v0] S h n = mx_ex d 259 1003 [some (2, x), l1, l2, l3] [(2, x), v0] S h n) ∧
  (∀ (d : Nat) (x : Int) (l0 l1 l2 : Option mx_V) (v0 v1 : mx_V) (S h : mx_H) (n : Int), mx_ex d 259 1003 [l0, l1, l2, some (0, x)] [v0, v1] S h n = mx_ex d 259 1004 [l0, l1, l2, some (0, x)] [(0, x), v0, v1] S h n) ∧
  (∀ (d : Nat) (l0 l1 l2 l3 : Option mx_V) (v0 v1 v2 : mx_V) (S h : mx_H) (n : Int), mx_ex d 259 1004 [l0, l1, l2, l3] [v0, v1, v2] S h n = mx_ex d 259 1005 [l0, l1, l2, l3] [(0, 1), v0, v1, v2] S h n) ∧
  (∀ (d : Nat) (b a : Int) (l0 l1 l2 l3 : Option mx_V) (v2 v3 : mx_V) (S h : mx_H) (n : Int), mx_ex d 259 1005 [l0, l1, l2, l3] [(0, b), (0, a), v2, v3] S h n = mx_ex d 259 1006 [l0, l1, l2, l3] [(0, mx_w (a + b)), v2, v3] S h n) ∧
  (∀ (d : Nat) (i a : Int) (l0 l1 l2 l3 : Option mx_V) (v2 : mx_V) (S h : mx_H) (n : Int), mx_ex d 259 1006 [l0, l1, l2, l3] [(0, i), (2, a), v2] S h n = mx_gd ((S a (-2) = 20 ∨ S a (-2) = 24) ∧ 0 ≤ i ∧ i < S a (-1)) d 259 1007 [l0, l1, l2, l3] [(0, h a i), v2] S h n) ∧
  (∀ (d : Nat) (x : Int) (l1 l2 l3 : Option mx_V) (v0 v1 : mx_V) (S h : mx_H) (n : Int), mx_ex d 259 1007 [some (2, x), l1, l2, l3] [v0, v1] S h n = mx_ex d 259 1008 [some (2, x), l1, l2, l3] [(2, x), v0, v1] S h n) ∧
  (∀ (d : Nat) (x : Int) (l0 l1 l2 : Option mx_V) (v0 v1 v2 : mx_V) (S h : mx_H) (n : Int), mx_ex d 259 1008 [l0, l1, l2, some (0, x)] [v0, v1, v2] S h n = mx_ex d 259 1009 [l0, l1, l2, some (0, x)] [(0, x), v0, v1, v2] S h n) ∧
  (∀ (d : Nat) (l0 l1 l2 l3 : Option mx_V) (v0 v1 v2 v3 : mx_V) (S h : mx_H) (n : Int), mx_ex d 259 1009 [l0, l1, l2, l3] [v0, v1, v2, v3] S h n = mx_ex d 259 1010 [l0, l1, l2, l3] [(0, 2), v0, v1, v2, v3] S h n) ∧
  (∀ (d : Nat) (b a : Int) (l0 l1 l2 l3 : Option mx_V) (v2 v3 v4 : mx_V) (S h : mx_H) (n : Int), mx_ex d 259 1010 [l0, l1, l2, l3] [(0, b), (0, a), v2, v3, v4] S h n = mx_ex d 259 1011 [l0, l1, l2, l3] [(0, mx_w (a + b)), v2, v3, v4] S h n) ∧
  (∀ (d : Nat) (i a : Int) (l0 l1 l2 l3 : Option mx_V) (v2 v3 : mx_V) (S h : mx_H) (n : Int), mx_ex d 259 1011 [l0, l1, l2, l3] [(0, i), (2, a), v2, v3] S h n = mx_gd ((S a (-2) = 20 ∨ S a (-2) = 24) ∧ 0 ≤ i ∧ i < S a (-1)) d 259 1012 [l0, l1, l2, l3] [(0, h a i), v2, v3] S h n) ∧
  (∀ (d : Nat) (x0 x1 a : Int) (l0 l1 l2 l3 : Option mx_V) (S h : mx_H) (n : Int), mx_ex (d + 1) 259 1012 [l0, l1, l2, l3] [(0, x0), (0, x1), (2, a)] S h n = mx_cl (S a (-2) = 7) d 124 [(2, a), (0, x1), (0, x0)] 259 1015 [l0, l1, l2, l3] [] S h n) ∧
  (∀ (d : Nat) (x : Int) (l0 l1 l3 : Option mx_V) (v0 : mx_V) (S h : mx_H) (n : Int), mx_ex d 259 1015 [l0, l1, some (2, x), l3] [v0] S h n = mx_ex d 259 1016 [l0, l1, some (2, x), l3] [(2, x), v0] S h n) ∧
  (∀ (d : Nat) (x : Int) (l1 l2 l3 : Option mx_V) (v0 v1 : mx_V) (S h : mx_H) (n : Int), mx_ex d 259 1016 [some (2, x), l1, l2, l3] [v0, v1] S h n = mx_ex d 259 1017 [some (2, x), l1, l2, l3] [(2, x), v0, v1] S h n) ∧
  (∀ (d : Nat) (x : Int) (l0 l1 l2 : Option mx_V) (v0 v1 v2 : mx_V) (S h : mx_H) (n : Int), mx_ex d 259 1017 [l0, l1, l2, some (0, x)] [v0, v1, v2] S h n = mx_ex d 259 1018 [l0, l1, l2, some (0, x)] [(0, x), v0, v1, v2] S h n) ∧
  (∀ (d : Nat) (l0 l1 l2 l3 : Option mx_V) (v0 v1 v2 v3 : mx_V) (S h : mx_H) (n : Int), mx_ex d 259 1018 [l0, l1, l2, l3] [v0, v1, v2, v3] S h n = mx_ex d 259 1019 [l0, l1, l2, l3] [(0, 1), v0, v1, v2, v3] S h n) ∧
  (∀ (d : Nat) (b a : Int) (l0 l1 l2 l3 : Option mx_V) (v2 v3 v4 : mx_V) (S h : mx_H) (n : Int), mx_ex d 259 1019 [l0, l1, l2, l3] [(0, b), (0, a), v2, v3, v4] S h n = mx_ex d 259 1020 [l0, l1, l2, l3] [(0, mx_w (a + b)), v2, v3, v4] S h n) ∧
  (∀ (d : Nat) (i a : Int) (l0 l1 l2 l3 : Option mx_V) (v2 v3 : mx_V) (S h : mx_H) (n : Int), mx_ex d 259 1020 [l0, l1, l2, l3] [(0, i), (2, a), v2, v3] S h n = mx_gd ((S a (-2) = 20 ∨ S a (-2) = 24) ∧ 0 ≤ i ∧ i < S a (-1)) d 259 1021 [l0, l1, l2, l3] [(0, h a i), v2, v3] S h n) ∧
  (∀ (d : Nat) (x : Int) (l1 l2 l3 : Option mx_V) (v0 v1 v2 : mx_V) (S h : mx_H) (n : Int), mx_ex d 259 1021 [some (2, x), l1, l2, l3] [v0, v1, v2] S h n = mx_ex d 259 1022 [some (2, x), l1, l2, l3] [(2, x), v0, v1, v2] S h n) ∧
  (∀ (d : Nat) (x : Int) (l0 l1 l2 : Option mx_V) (v0 v1 v2 v3 : mx_V) (S h : mx_H) (n : Int), mx_ex d 259 1022 [l0, l1, l2, some (0, x)] [v0, v1, v2, v3] S h n = mx_ex d 259 1023 [l0, l1, l2, some (0, x)] [(0, x), v0, v1, v2, v3] S h n) ∧
  (∀ (d : Nat) (l0 l1 l2 l3 : Option mx_V) (v0 v1 v2 v3 v4 : mx_V) (S h : mx_H) (n : Int), mx_ex d 259 1023 [l0, l1, l2, l3] [v0, v1, v2, v3, v4] S h n = mx_ex d 259 1024 [l0, l1, l2, l3] [(0, 2), v0, v1, v2, v3, v4] S h n) ∧
  (∀ (d : Nat) (b a : Int) (l0 l1 l2 l3 : Option mx_V) (v2 v3 v4 v5 : mx_V) (S h : mx_H) (n : Int), mx_ex d 259 1024 [l0, l1, l2, l3] [(0, b), (0, a), v2, v3, v4, v5] S h n = mx_ex d 259 1025 [l0, l1, l2, l3] [(0, mx_w (a + b)), v2, v3, v4, v5] S h n) ∧
  (∀ (d : Nat) (i a : Int) (l0 l1 l2 l3 : Option mx_V) (v2 v3 v4 : mx_V) (S h : mx_H) (n : Int), mx_ex d 259 1025 [l0, l1, l2, l3] [(0, i), (2, a), v2, v3, v4] S h n = mx_gd ((S a (-2) = 20 ∨ S a (-2) = 24) ∧ 0 ≤ i ∧ i < S a (-1)) d 259 1026 [l0, l1, l2, l3] [(0, h a i), v2, v3, v4] S h n) ∧
  (∀ (d : Nat) (x0 x1 a : Int) (l0 l1 l2 l3 : Option mx_V) (v3 : mx_V) (S h : mx_H) (n : Int), mx_ex (d + 1) 259 1026 [l0, l1, l2, l3] [(0, x0), (0, x1), (2, a), v3] S h n = mx_cl (S a (-2) = 13) d 215 [(2, a), (0, x1), (0, x0)] 259 1029 [l0, l1, l2, l3] [v3] S h n) ∧
  (∀ (d : Nat) (b a : Int) (l0 l1 l2 l3 : Option mx_V) (S h : mx_H) (n : Int), mx_ex d 259 1029 [l0, l1, l2, l3] [(0, b), (0, a)] S h n = mx_br (a = b) d 259 1653 1032 [l0, l1, l2, l3] [] S h n) ∧
  (∀ (d : Nat) (l0 l1 l2 l3 : Option mx_V) (S h : mx_H) (n : Int), mx_ex d 259 1032 [l0, l1, l2, l3] [] S h n = mx_ex d 259 1033 [l0, l1, l2, l3] [(0, 0)] S h n) ∧
  (∀ (d : Nat) (x : Int) (l0 l1 l2 l3 : Option mx_V) (S h : mx_H) (n : Int), mx_ex d 259 1033 [l0, l1, l2, l3] [(0, x)] S h n = mx_re (0 ≤ x ∧ x ≤ 1) (some (0, x)) S h n) ∧
  (∀ (d : Nat) (x : Int) (l0 l2 l3 : Option mx_V) (S h : mx_H) (n : Int), mx_ex d 259 1034 [l0, some (2, x), l2, l3] [] S h n = mx_ex d 259 1035 [l0, some (2, x), l2, l3] [(2, x)] S h n) ∧
  (∀ (d : Nat) (x : Int) (l1 l2 l3 : Option mx_V) (v0 : mx_V) (S h : mx_H) (n : Int), mx_ex d 259 1035 [some (2, x), l1, l2, l3] [v0] S h n = mx_ex d 259 1036 [some (2, x), l1, l2, l3] [(2, x), v0] S h n) ∧
  (∀ (d : Nat) (x : Int) (l0 l1 l2 : Option mx_V) (v0 v1 : mx_V) (S h : mx_H) (n : Int), mx_ex d 259 1036 [l0, l1, l2, some (0, x)] [v0, v1] S h n = mx_ex d 259 1037 [l0, l1, l2, some (0, x)] [(0, x), v0, v1] S h n) ∧
  (∀ (d : Nat) (l0 l1 l2 l3 : Option mx_V) (v0 v1 v2 : mx_V) (S h : mx_H) (n : Int), mx_ex d 259 1037 [l0, l1, l2, l3] [v0, v1, v2] S h n = mx_ex d 259 1038 [l0, l1, l2, l3] [(0, 1), v0, v1, v2] S h n) ∧
  (∀ (d : Nat) (b a : Int) (l0 l1 l2 l3 : Option mx_V) (v2 v3 : mx_V) (S h : mx_H) (n : Int), mx_ex d 259 1038 [l0, l1, l2, l3] [(0, b), (0, a), v2, v3] S h n = mx_ex d 259 1039 [l0, l1, l2, l3] [(0, mx_w (a + b)), v2, v3] S h n) ∧
  (∀ (d : Nat) (i a : Int) (l0 l1 l2 l3 : Option mx_V) (v2 : mx_V) (S h : mx_H) (n : Int), mx_ex d 259 1039 [l0, l1, l2, l3] [(0, i), (2, a), v2] S h n = mx_gd ((S a (-2) = 20 ∨ S a (-2) = 24) ∧ 0 ≤ i ∧ i < S a (-1)) d 259 1040 [l0, l1, l2, l3] [(0, h a i), v2] S h n) ∧
  (∀ (d : Nat) (x : Int) (l1 l2 l3 : Option mx_V) (v0 v1 : mx_V) (S h : mx_H) (n : Int), mx_ex d 259 1040 [some (2, x), l1, l2, l3] [v0, v1] S h n = mx_ex d 259 1041 [some (2, x), l1, l2, l3] [(2, x), v0, v1] S h n) ∧
  (∀ (d : Nat) (x : Int) (l0 l1 l2 : Option mx_V) (v0 v1 v2 : mx_V) (S h : mx_H) (n : Int), mx_ex d 259 1041 [l0, l1, l2, some (0, x)] [v0, v1, v2] S h n = mx_ex d 259 1042 [l0, l1, l2, some (0, x)] [(0, x), v0, v1, v2] S h n) ∧
  (∀ (d : Nat) (l0 l1 l2 l3 : Option mx_V) (v0 v1 v2 v3 : mx_V) (S h : mx_H) (n : Int), mx_ex d 259 1042 [l0, l1, l2, l3] [v0, v1, v2, v3] S h n = mx_ex d 259 1043 [l0, l1, l2, l3] [(0, 2), v0, v1, v2, v3] S h n) ∧
  (∀ (d : Nat) (b a : Int) (l0 l1 l2 l3 : Option mx_V) (v2 v3 v4 : mx_V) (S h : mx_H) (n : Int), mx_ex d 259 1043 [l0, l1, l2, l3] [(0, b), (0, a), v2, v3, v4] S h n = mx_ex d 259 1044 [l0, l1, l2, l3] [(0, mx_w (a + b)), v2, v3, v4] S h n) ∧
  (∀ (d : Nat) (i a : Int) (l0 l1 l2 l3 : Option mx_V) (v2 v3 : mx_V) (S h : mx_H) (n : Int), mx_ex d 259 1044 [l0, l1, l2, l3] [(0, i), (2, a), v2, v3] S h n = mx_gd ((S a (-2) = 20 ∨ S a (-2) = 24) ∧ 0 ≤ i ∧ i < S a (-1)) d 259 1045 [l0, l1, l2, l3] [(0, h a i), v2, v3] S h n) ∧
  (∀ (d : Nat) (x0 x1 a : Int) (l0 l1 l2 l3 : Option mx_V) (S h : mx_H) (n : Int), mx_ex (d + 1) 259 1045 [l0, l1, l2, l3] [(0, x0), (0, x1), (2, a)] S h n = mx_cl (S a (-2) = 7) d 125 [(2, a), (0, x1), (0, x0)] 259 1048 [l0, l1, l2, l3] [] S h n) ∧
  (∀ (d : Nat) (x : Int) (l0 l1 l3 : Option mx_V) (v0 : mx_V) (S h : mx_H) (n : Int), mx_ex d 259 1048 [l0, l1, some (2, x), l3] [v0] S h n = mx_ex d 259 1049 [l0, l1, some (2, x), l3] [(2, x), v0] S h n) ∧
  (∀ (d : Nat) (x : Int) (l1 l2 l3 : Option mx_V) (v0 v1 : mx_V) (S h : mx_H) (n : Int), mx_ex d 259 1049 [some (2, x), l1, l2, l3] [v0, v1] S h n = mx_ex d 259 1050 [some (2, x), l1, l2, l3] [(2, x), v0, v1] S h n) :=
  ⟨by intros; exact eq_push rfl,
   by intros; exact eq_i2 (o := mx_add) rfl,
   by intros; exact eq_iald rfl,
   by intros; exact eq_ld rfl rfl,
   by intros; exact eq_ld rfl rfl,
   by intros; exact eq_push rfl,
   by intros; exact eq_i2 (o := mx_add) rfl,
   by intros; exact eq_iald rfl,
   by intros; exact eq_cv rfl (Nat.le_of_ble_eq_true rfl) rfl rfl rfl (Nat.le_of_ble_eq_true rfl),
   by intros; exact eq_ld rfl rfl,
   by intros; exact eq_ld rfl rfl,
   by intros; exact eq_ld rfl rfl,
   by intros; exact eq_push rfl,
   by intros; exact eq_i2 (o := mx_add) rfl,
   by intros; exact eq_iald rfl,
   by intros; exact eq_ld rfl rfl,
   by intros; exact eq_ld rfl rfl,
   by intros; exact eq_push rfl,
   by intros; exact eq_i2 (o := mx_add) rfl,
   by intros; exact eq_iald rfl,
   by intros; exact eq_ld rfl rfl,
   by intros; exact eq_ld rfl rfl,
   by intros; exact eq_push rfl,
   by intros; exact eq_i2 (o := mx_add) rfl,
   by intros; exact eq_iald rfl,
   by intros; exact eq_cv rfl (Nat.le_of_ble_eq_true rfl) rfl rfl rfl (Nat.le_of_ble_eq_true rfl),
   by intros; exact eq_ic0 rfl,
   by intros; exact eq_push rfl,
   by intros; exact eq_rr rfl,
   by intros; exact eq_ld rfl rfl,
   by intros; exact eq_ld rfl rfl,
   by intros; exact eq_ld rfl rfl,
   by intros; exact eq_push rfl,
   by intros; exact eq_i2 (o := mx_add) rfl,
   by intros; exact eq_iald rfl,
   by intros; exact eq_ld rfl rfl,
   by intros; exact eq_ld rfl rfl,
   by intros; exact eq_push rfl,
   by intros; exact eq_i2 (o := mx_add) rfl,
   by intros; exact eq_iald rfl,
   by intros; exact eq_cv rfl (Nat.le_of_ble_eq_true rfl) rfl rfl rfl (Nat.le_of_ble_eq_true rfl),
   by intros; exact eq_ld rfl rfl,
   by intros; exact eq_ld rfl rfl,
   by intros; exact eq_ld rfl rfl,
   by intros; exact eq_push rfl,
   by intros; exact eq_i2 (o := mx_add) rfl,
   by intros; exact eq_iald rfl,
   by intros; exact eq_ld rfl rfl,
   by intros; exact eq_ld rfl rfl,
   by intros; exact eq_push rfl,
   by intros; exact eq_i2 (o := mx_add) rfl,
   by intros; exact eq_iald rfl,
   by intros; exact eq_cv rfl (Nat.le_of_ble_eq_true rfl) rfl rfl rfl (Nat.le_of_ble_eq_true rfl),
   by intros; exact eq_ic0 rfl,
   by intros; exact eq_push rfl,
   by intros; exact eq_rr rfl,
   by intros; exact eq_ld rfl rfl,
   by intros; exact eq_ld rfl rfl,
   by intros; exact eq_ld rfl rfl,
   by intros; exact eq_push rfl,
   by intros; exact eq_i2 (o := mx_add) rfl,
   by intros; exact eq_iald rfl,
   by intros; exact eq_ld rfl rfl,
   by intros; exact eq_ld rfl rfl,
   by intros; exact eq_push rfl,
   by intros; exact eq_i2 (o := mx_add) rfl,
   by intros; exact eq_iald rfl,
   by intros; exact eq_cv rfl (Nat.le_of_ble_eq_true rfl) rfl rfl rfl (Nat.le_of_ble_eq_true rfl),
   by intros; exact eq_ld rfl rfl,
   by intros; exact eq_ld rfl rfl⟩
theorem rw_L_law_10 :
  (∀ (d : Nat) (x : Int) (l0 l1 l2 : Option mx_V) (v0 v1 v2 : mx_V) (S h : mx_H) (n : Int), mx_ex d 259 1050 [l0, l1, l2, some (0, x)] [v0, v1, v2] S h n = mx_ex d 259 1051 [l0, l1, l2, some (0, x)] [(0, x), v0, v1, v2] S h n) ∧
  (∀ (d : Nat) (l0 l1 l2 l3 : Option mx_V) (v0 v1 v2 v3 : mx_V) (S h : mx_H) (n : Int), mx_ex d 259 1051 [l0, l1, l2, l3] [v0, v1, v2, v3] S h n = mx_ex d 259 1052 [l0, l1, l2, l3] [(0, 1), v0, v1, v2, v3] S h n) ∧
  (∀ (d : Nat) (b a : Int) (l0 l1 l2 l3 : Option mx_V) (v2 v3 v4 : mx_V) (S h : mx_H) (n : Int), mx_ex d 259 1052 [l0, l1, l2, l3] [(0, b), (0, a), v2, v3, v4] S h n = mx_ex d 259 1053 [l0, l1, l2, l3] [(0, mx_w (a + b)), v2, v3, v4] S h n) ∧
  (∀ (d : Nat) (i a : Int) (l0 l1 l2 l3 : Option mx_V) (v2 v3 : mx_V) (S h : mx_H) (n : Int), mx_ex d 259 1053 [l0, l1, l2, l3] [(0, i), (2, a), v2, v3] S h n = mx_gd ((S a (-2) = 20 ∨ S a (-2) = 24) ∧ 0 ≤ i ∧ i < S a (-1)) d 259 1054 [l0, l1, l2, l3] [(0, h a i), v2, v3] S h n) ∧
  (∀ (d : Nat) (x : Int) (l1 l2 l3 : Option mx_V) (v0 v1 v2 : mx_V) (S h : mx_H) (n : Int), mx_ex d 259 1054 [some (2, x), l1, l2, l3] [v0, v1, v2] S h n = mx_ex d 259 1055 [some (2, x), l1, l2, l3] [(2, x), v0, v1, v2] S h n) ∧
  (∀ (d : Nat) (x : Int) (l0 l1 l2 : Option mx_V) (v0 v1 v2 v3 : mx_V) (S h : mx_H) (n : Int), mx_ex d 259 1055 [l0, l1, l2, some (0, x)] [v0, v1, v2, v3] S h n = mx_ex d 259 1056 [l0, l1, l2, some (0, x)] [(0, x), v0, v1, v2, v3] S h n) ∧
  (∀ (d : Nat) (l0 l1 l2 l3 : Option mx_V) (v0 v1 v2 v3 v4 : mx_V) (S h : mx_H) (n : Int), mx_ex d 259 1056 [l0, l1, l2, l3] [v0, v1, v2, v3, v4] S h n = mx_ex d 259 1057 [l0, l1, l2, l3] [(0, 2), v0, v1, v2, v3, v4] S h n) ∧
  (∀ (d : Nat) (b a : Int) (l0 l1 l2 l3 : Option mx_V) (v2 v3 v4 v5 : mx_V) (S h : mx_H) (n : Int), mx_ex d 259 1057 [l0, l1, l2, l3] [(0, b), (0, a), v2, v3, v4, v5] S h n = mx_ex d 259 1058 [l0, l1, l2, l3] [(0, mx_w (a + b)), v2, v3, v4, v5] S h n) ∧
  (∀ (d : Nat) (i a : Int) (l0 l1 l2 l3 : Option mx_V) (v2 v3 v4 : mx_V) (S h : mx_H) (n : Int), mx_ex d 259 1058 [l0, l1, l2, l3] [(0, i), (2, a), v2, v3, v4] S h n = mx_gd ((S a (-2) = 20 ∨ S a (-2) = 24) ∧ 0 ≤ i ∧ i < S a (-1)) d 259 1059 [l0, l1, l2, l3] [(0, h a i), v2, v3, v4] S h n) ∧
  (∀ (d : Nat) (x0 x1 a : Int) (l0 l1 l2 l3 : Option mx_V) (v3 : mx_V) (S h : mx_H) (n : Int), mx_ex (d + 1) 259 1059 [l0, l1, l2, l3] [(0, x0), (0, x1), (2, a), v3] S h n = mx_cl (S a (-2) = 13) d 216 [(2, a), (0, x1), (0, x0)] 259 1062 [l0, l1, l2, l3] [v3] S h n) ∧
  (∀ (d : Nat) (b a : Int) (l0 l1 l2 l3 : Option mx_V) (S h : mx_H) (n : Int), mx_ex d 259 1062 [l0, l1, l2, l3] [(0, b), (0, a)] S h n = mx_br (a = b) d 259 1653 1065 [l0, l1, l2, l3] [] S h n) ∧
  (∀ (d : Nat) (l0 l1 l2 l3 : Option mx_V) (S h : mx_H) (n : Int), mx_ex d 259 1065 [l0, l1, l2, l3] [] S h n = mx_ex d 259 1066 [l0, l1, l2, l3] [(0, 0)] S h n) ∧
  (∀ (d : Nat) (x : Int) (l0 l1 l2 l3 : Option mx_V) (S h : mx_H) (n : Int), mx_ex d 259 1066 [l0, l1, l2, l3] [(0, x)] S h n = mx_re (0 ≤ x ∧ x ≤ 1) (some (0, x)) S h n) ∧
  (∀ (d : Nat) (x : Int) (l0 l2 l3 : Option mx_V) (S h : mx_H) (n : Int), mx_ex d 259 1067 [l0, some (2, x), l2, l3] [] S h n = mx_ex d 259 1068 [l0, some (2, x), l2, l3] [(2, x)] S h n) ∧
  (∀ (d : Nat) (x : Int) (l1 l2 l3 : Option mx_V) (v0 : mx_V) (S h : mx_H) (n : Int), mx_ex d 259 1068 [some (2, x), l1, l2, l3] [v0] S h n = mx_ex d 259 1069 [some (2, x), l1, l2, l3] [(2, x), v0] S h n) ∧
  (∀ (d : Nat) (x : Int) (l0 l1 l2 : Option mx_V) (v0 v1 : mx_V) (S h : mx_H) (n : Int), mx_ex d 259 1069 [l0, l1, l2, some (0, x)] [v0, v1] S h n = mx_ex d 259 1070 [l0, l1, l2, some (0, x)] [(0, x), v0, v1] S h n) ∧
  (∀ (d : Nat) (l0 l1 l2 l3 : Option mx_V) (v0 v1 v2 : mx_V) (S h : mx_H) (n : Int), mx_ex d 259 1070 [l0, l1, l2, l3] [v0, v1, v2] S h n = mx_ex d 259 1071 [l0, l1, l2, l3] [(0, 1), v0, v1, v2] S h n) ∧
  (∀ (d : Nat) (b a : Int) (l0 l1 l2 l3 : Option mx_V) (v2 v3 : mx_V) (S h : mx_H) (n : Int), mx_ex d 259 1071 [l0, l1, l2, l3] [(0, b), (0, a), v2, v3] S h n = mx_ex d 259 1072 [l0, l1, l2, l3] [(0, mx_w (a + b)), v2, v3] S h n) ∧
  (∀ (d : Nat) (i a : Int) (l0 l1 l2 l3 : Option mx_V) (v2 : mx_V) (S h : mx_H) (n : Int), mx_ex d 259 1072 [l0, l1, l2, l3] [(0, i), (2, a), v2] S h n = mx_gd ((S a (-2) = 20 ∨ S a (-2) = 24) ∧ 0 ≤ i ∧ i < S a (-1)) d 259 1073 [l0, l1, l2, l3] [(0, h a i), v2] S h n) ∧
  (∀ (d : Nat) (x : Int) (l1 l2 l3 : Option mx_V) (v0 v1 : mx_V) (S h : mx_H) (n : Int), mx_ex d 259 1073 [some (2, x), l1, l2, l3] [v0, v1] S h n = mx_ex d 259 1074 [some (2, x), l1, l2, l3] [(2, x), v0, v1] S h n) ∧
  (∀ (d : Nat) (x : Int) (l0 l1 l2 : Option mx_V) (v0 v1 v2 : mx_V) (S h : mx_H) (n : Int), mx_ex d 259 1074 [l0, l1, l2, some (0, x)] [v0, v1, v2] S h n = mx_ex d 259 1075 [l0, l1, l2, some (0, x)] [(0, x), v0, v1, v2] S h n) ∧
  (∀ (d : Nat) (l0 l1 l2 l3 : Option mx_V) (v0 v1 v2 v3 : mx_V) (S h : mx_H) (n : Int), mx_ex d 259 1075 [l0, l1, l2, l3] [v0, v1, v2, v3] S h n = mx_ex d 259 1076 [l0, l1, l2, l3] [(0, 2), v0, v1, v2, v3] S h n) ∧
  (∀ (d : Nat) (b a : Int) (l0 l1 l2 l3 : Option mx_V) (v2 v3 v4 : mx_V) (S h : mx_H) (n : Int), mx_ex d 259 1076 [l0, l1, l2, l3] [(0, b), (0, a), v2, v3, v4] S h n = mx_ex d 259 1077 [l0, l1, l2, l3] [(0, mx_w (a + b)), v2, v3, v4] S h n) ∧
  (∀ (d : Nat) (i a : Int) (l0 l1 l2 l3 : Option mx_V) (v2 v3 : mx_V) (S h : mx_H) (n : Int), mx_ex d 259 1077 [l0, l1, l2, l3] [(0, i), (2, a), v2, v3] S h n = mx_gd ((S a (-2) = 20 ∨ S a (-2) = 24) ∧ 0 ≤ i ∧ i < S a (-1)) d 259 1078 [l0, l1, l2, l3] [(0, h a i), v2, v3] S h n) ∧
  (∀ (d : Nat) (x0 x1 a : Int) (l0 l1 l2 l3 : Option mx_V) (S h : mx_H) (n : Int), mx_ex (d + 1) 259 1078 [l0, l1, l2, l3] [(0, x0), (0, x1), (2, a)] S h n = mx_cl (S a (-2) = 7) d 126 [(2, a), (0, x1), (0, x0)] 259 1081 [l0, l1, l2, l3] [] S h n) ∧
  (∀ (d : Nat) (x : Int) (l0 l1 l3 : Option mx_V) (v0 : mx_V) (S h : mx_H) (n : Int), mx_ex d 259 1081 [l0, l1, some (2, x), l3] [v0] S h n = mx_ex d 259 1082 [l0, l1, some (2, x), l3] [(2, x), v0] S h n) ∧
  (∀ (d : Nat) (x : Int) (l1 l2 l3 : Option mx_V) (v0 v1 : mx_V) (S h : mx_H) (n : Int), mx_ex d 259 1082 [some (2, x), l1, l2, l3] [v0, v1] S h n = mx_ex d 259 1083 [some (2, x), l1, l2, l3] [(2, x), v0, v1] S h n) ∧
  (∀ (d : Nat) (x : Int) (l0 l1 l2 : Option mx_V) (v0 v1 v2 : mx_V) (S h : mx_H) (n : Int), mx_ex d 259 1083 [l0, l1, l2, some (0, x)] [v0, v1, v2] S h n = mx_ex d 259 1084 [l0, l1, l2, some (0, x)] [(0, x), v0, v1, v2] S h n) ∧
  (∀ (d : Nat) (l0 l1 l2 l3 : Option mx_V) (v0 v1 v2 v3 : mx_V) (S h : mx_H) (n : Int), mx_ex d 259 1084 [l0, l1, l2, l3] [v0, v1, v2, v3] S h n = mx_ex d 259 1085 [l0, l1, l2, l3] [(0, 1), v0, v1, v2, v3] S h n) ∧
  (∀ (d : Nat) (b a : Int) (l0 l1 l2 l3 : Option mx_V) (v2 v3 v4 : mx_V) (S h : mx_H) (n : Int), mx_ex d 259 1085 [l0, l1, l2, l3] [(0, b), (0, a), v2, v3, v4] S h n = mx_ex d 259 1086 [l0, l1, l2, l3] [(0, mx_w (a + b)), v2, v3, v4] S h n) ∧
  (∀ (d : Nat) (i a : Int) (l0 l1 l2 l3 : Option mx_V) (v2 v3 : mx_V) (S h : mx_H) (n : Int), mx_ex d 259 1086 [l0, l1, l2, l3] [(0, i), (2, a), v2, v3] S h n = mx_gd ((S a (-2) = 20 ∨ S a (-2) = 24) ∧ 0 ≤ i ∧ i < S a (-1)) d 259 1087 [l0, l1, l2, l3] [(0, h a i), v2, v3] S h n) ∧
  (∀ (d : Nat) (x : Int) (l1 l2 l3 : Option mx_V) (v0 v1 v2 : mx_V) (S h : mx_H) (n : Int), mx_ex d 259 1087 [some (2, x), l1, l2, l3] [v0, v1, v2] S h n = mx_ex d 259 1088 [some (2, x), l1, l2, l3] [(2, x), v0, v1, v2] S h n) ∧
  (∀ (d : Nat) (x : Int) (l0 l1 l2 : Option mx_V) (v0 v1 v2 v3 : mx_V) (S h : mx_H) (n : Int), mx_ex d 259 1088 [l0, l1, l2, some (0, x)] [v0, v1, v2, v3] S h n = mx_ex d 259 1089 [l0, l1, l2, some (0, x)] [(0, x), v0, v1, v2, v3] S h n) ∧
  (∀ (d : Nat) (l0 l1 l2 l3 : Option mx_V) (v0 v1 v2 v3 v4 : mx_V) (S h : mx_H) (n : Int), mx_ex d 259 1089 [l0, l1, l2, l3] [v0, v1, v2, v3, v4] S h n = mx_ex d 259 1090 [l0, l1, l2, l3] [(0, 2), v0, v1, v2, v3, v4] S h n) ∧
  (∀ (d : Nat) (b a : Int) (l0 l1 l2 l3 : Option mx_V) (v2 v3 v4 v5 : mx_V) (S h : mx_H) (n : Int), mx_ex d 259 1090 [l0, l1, l2, l3] [(0, b), (0, a), v2, v3, v4, v5] S h n = mx_ex d 259 1091 [l0, l1, l2, l3] [(0, mx_w (a + b)), v2, v3, v4, v5] S h n) ∧
  (∀ (d : Nat) (i a : Int) (l0 l1 l2 l3 : Option mx_V) (v2 v3 v4 : mx_V) (S h : mx_H) (n : Int), mx_ex d 259 1091 [l0, l1, l2, l3] [(0, i), (2, a), v2, v3, v4] S h n = mx_gd ((S a (-2) = 20 ∨ S a (-2) = 24) ∧ 0 ≤ i ∧ i < S a (-1)) d 259 1092 [l0, l1, l2, l3] [(0, h a i), v2, v3, v4] S h n) ∧
  (∀ (d : Nat) (x0 x1 a : Int) (l0 l1 l2 l3 : Option mx_V) (v3 : mx_V) (S h : mx_H) (n : Int), mx_ex (d + 1) 259 1092 [l0, l1, l2, l3] [(0, x0), (0, x1), (2, a), v3] S h n = mx_cl (S a (-2) = 13) d 218 [(2, a), (0, x1), (0, x0)] 259 1095 [l0, l1, l2, l3] [v3] S h n) ∧
  (∀ (d : Nat) (b a : Int) (l0 l1 l2 l3 : Option mx_V) (S h : mx_H) (n : Int), mx_ex d 259 1095 [l0, l1, l2, l3] [(0, b), (0, a)] S h n = mx_br (a = b) d 259 1653 1098 [l0, l1, l2, l3] [] S h n) ∧
  (∀ (d : Nat) (l0 l1 l2 l3 : Option mx_V) (S h : mx_H) (n : Int), mx_ex d 259 1098 [l0, l1, l2, l3] [] S h n = mx_ex d 259 1099 [l0, l1, l2, l3] [(0, 0)] S h n) ∧
  (∀ (d : Nat) (x : Int) (l0 l1 l2 l3 : Option mx_V) (S h : mx_H) (n : Int), mx_ex d 259 1099 [l0, l1, l2, l3] [(0, x)] S h n = mx_re (0 ≤ x ∧ x ≤ 1) (some (0, x)) S h n) ∧
  (∀ (d : Nat) (x : Int) (l0 l2 l3 : Option mx_V) (S h : mx_H) (n : Int), mx_ex d 259 1100 [l0, some (2, x), l2, l3] [] S h n = mx_ex d 259 1101 [l0, some (2, x), l2, l3] [(2, x)] S h n) ∧
  (∀ (d : Nat) (x : Int) (l1 l2 l3 : Option mx_V) (v0 : mx_V) (S h : mx_H) (n : Int), mx_ex d 259 1101 [some (2, x), l1, l2, l3] [v0] S h n = mx_ex d 259 1102 [some (2, x), l1, l2, l3] [(2, x), v0] S h n) ∧
  (∀ (d : Nat) (x : Int) (l0 l1 l2 : Option mx_V) (v0 v1 : mx_V) (S h : mx_H) (n : Int), mx_ex d 259 1102 [l0, l1, l2, some (0, x)] [v0, v1] S h n = mx_ex d 259 1103 [l0, l1, l2, some (0, x)] [(0, x), v0, v1] S h n) ∧
  (∀ (d : Nat) (l0 l1 l2 l3 : Option mx_V) (v0 v1 v2 : mx_V) (S h : mx_H) (n : Int), mx_ex d 259 1103 [l0, l1, l2, l3] [v0, v1, v2] S h n = mx_ex d 259 1104 [l0, l1, l2, l3] [(0, 1), v0, v1, v2] S h n) ∧
  (∀ (d : Nat) (b a : Int) (l0 l1 l2 l3 : Option mx_V) (v2 v3 : mx_V) (S h : mx_H) (n : Int), mx_ex d 259 1104 [l0, l1, l2, l3] [(0, b), (0, a), v2, v3] S h n = mx_ex d 259 1105 [l0, l1, l2, l3] [(0, mx_w (a + b)), v2, v3] S h n) ∧
  (∀ (d : Nat) (i a : Int) (l0 l1 l2 l3 : Option mx_V) (v2 : mx_V) (S h : mx_H) (n : Int), mx_ex d 259 1105 [l0, l1, l2, l3] [(0, i), (2, a), v2] S h n = mx_gd ((S a (-2) = 20 ∨ S a (-2) = 24) ∧ 0 ≤ i ∧ i < S a (-1)) d 259 1106 [l0, l1, l2, l3] [(0, h a i), v2] S h n) ∧
  (∀ (d : Nat) (x0 a : Int) (l0 l1 l2 l3 : Option mx_V) (S h : mx_H) (n : Int), mx_ex (d + 1) 259 1106 [l0, l1, l2, l3] [(0, x0), (2, a)] S h n = mx_cl (S a (-2) = 7) d 127 [(2, a), (0, x0)] 259 1109 [l0, l1, l2, l3] [] S h n) ∧
  (∀ (d : Nat) (x : Int) (l0 l1 l3 : Option mx_V) (v0 : mx_V) (S h : mx_H) (n : Int), mx_ex d 259 1109 [l0, l1, some (2, x), l3] [v0] S h n = mx_ex d 259 1110 [l0, l1, some (2, x), l3] [(2, x), v0] S h n) ∧
  (∀ (d : Nat) (x : Int) (l1 l2 l3 : Option mx_V) (v0 v1 : mx_V) (S h : mx_H) (n : Int), mx_ex d 259 1110 [some (2, x), l1, l2, l3] [v0, v1] S h n = mx_ex d 259 1111 [some (2, x), l1, l2, l3] [(2, x), v0, v1] S h n) ∧
  (∀ (d : Nat) (x : Int) (l0 l1 l2 : Option mx_V) (v0 v1 v2 : mx_V) (S h : mx_H) (n : Int), mx_ex d 259 1111 [l0, l1, l2, some (0, x)] [v0, v1, v2] S h n = mx_ex d 259 1112 [l0, l1, l2, some (0, x)] [(0, x), v0, v1, v2] S h n) ∧
  (∀ (d : Nat) (l0 l1 l2 l3 : Option mx_V) (v0 v1 v2 v3 : mx_V) (S h : mx_H) (n : Int), mx_ex d 259 1112 [l0, l1, l2, l3] [v0, v1, v2, v3] S h n = mx_ex d 259 1113 [l0, l1, l2, l3] [(0, 1), v0, v1, v2, v3] S h n) ∧
  (∀ (d : Nat) (b a : Int) (l0 l1 l2 l3 : Option mx_V) (v2 v3 v4 : mx_V) (S h : mx_H) (n : Int), mx_ex d 259 1113 [l0, l1, l2, l3] [(0, b), (0, a), v2, v3, v4] S h n = mx_ex d 259 1114 [l0, l1, l2, l3] [(0, mx_w (a + b)), v2, v3, v4] S h n) ∧
  (∀ (d : Nat) (i a : Int) (l0 l1 l2 l3 : Option mx_V) (v2 v3 : mx_V) (S h : mx_H) (n : Int), mx_ex d 259 1114 [l0, l1, l2, l3] [(0, i), (2, a), v2, v3] S h n = mx_gd ((S a (-2) = 20 ∨ S a (-2) = 24) ∧ 0 ≤ i ∧ i < S a (-1)) d 259 1115 [l0, l1, l2, l3] [(0, h a i), v2, v3] S h n) ∧
  (∀ (d : Nat) (x0 a : Int) (l0 l1 l2 l3 : Option mx_V) (v2 : mx_V) (S h : mx_H) (n : Int), mx_ex (d + 1) 259 1115 [l0, l1, l2, l3] [(0, x0), (2, a), v2] S h n = mx_cl (S a (-2) = 13) d 219 [(2, a), (0, x0)] 259 1118 [l0, l1, l2, l3] [v2] S h n) ∧
  (∀ (d : Nat) (b a : Int) (l0 l1 l2 l3 : Option mx_V) (S h : mx_H) (n : Int), mx_ex d 259 1118 [l0, l1, l2, l3] [(0, b), (0, a)] S h n = mx_br (a = b) d 259 1653 1121 [l0, l1, l2, l3] [] S h n) ∧
  (∀ (d : Nat) (l0 l1 l2 l3 : Option mx_V) (S h : mx_H) (n : Int), mx_ex d 259 1121 [l0, l1, l2, l3] [] S h n = mx_ex d 259 1122 [l0, l1, l2, l3] [(0, 0)] S h n) ∧
  (∀ (d : Nat) (x : Int) (l0 l1 l2 l3 : Option mx_V) (S h : mx_H) (n : Int), mx_ex d 259 1122 [l0, l1, l2, l3] [(0, x)] S h n = mx_re (0 ≤ x ∧ x ≤ 1) (some (0, x)) S h n) ∧
  (∀ (d : Nat) (x : Int) (l0 l2 l3 : Option mx_V) (S h : mx_H) (n : Int), mx_ex d 259 1123 [l0, some (2, x), l2, l3] [] S h n = mx_ex d 259 1124 [l0, some (2, x), l2, l3] [(2, x)] S h n) ∧
  (∀ (d : Nat) (a : Int) (l0 l1 l2 l3 : Option mx_V) (S h : mx_H) (n : Int), mx_ex (d + 1) 259 1124 [l0, l1, l2, l3] [(2, a)] S h n = mx_cl (S a (-2) = 7) d 128 [(2, a)] 259 1127 [l0, l1, l2, l3] [] S h n) ∧
  (∀ (d : Nat) (x : Int) (l0 l1 l3 : Option mx_V) (v0 : mx_V) (S h : mx_H) (n : Int), mx_ex d 259 1127 [l0, l1, some (2, x), l3] [v0] S h n = mx_ex d 259 1128 [l0, l1, some (2, x), l3] [(2, x), v0] S h n) ∧
  (∀ (d : Nat) (a : Int) (l0 l1 l2 l3 : Option mx_V) (v1 : mx_V) (S h : mx_H) (n : Int), mx_ex (d + 1) 259 1128 [l0, l1, l2, l3] [(2, a), v1] S h n = mx_cl (S a (-2) = 13) d 220 [(2, a)] 259 1131 [l0, l1, l2, l3] [v1] S h n) ∧
  (∀ (d : Nat) (b a : Int) (l0 l1 l2 l3 : Option mx_V) (S h : mx_H) (n : Int), mx_ex d 259 1131 [l0, l1, l2, l3] [(0, b), (0, a)] S h n = mx_br (a = b) d 259 1653 1134 [l0, l1, l2, l3] [] S h n) ∧
  (∀ (d : Nat) (l0 l1 l2 l3 : Option mx_V) (S h : mx_H) (n : Int), mx_ex d 259 1134 [l0, l1, l2, l3] [] S h n = mx_ex d 259 1135 [l0, l1, l2, l3] [(0, 0)] S h n) ∧
  (∀ (d : Nat) (x : Int) (l0 l1 l2 l3 : Option mx_V) (S h : mx_H) (n : Int), mx_ex d 259 1135 [l0, l1, l2, l3] [(0, x)] S h n = mx_re (0 ≤ x ∧ x ≤ 1) (some (0, x)) S h n) ∧
  (∀ (d : Nat) (x : Int) (l0 l2 l3 : Option mx_V) (S h : mx_H) (n : Int), mx_ex d 259 1136 [l0, some (2, x), l2, l3] [] S h n = mx_ex d 259 1137 [l0, some (2, x), l2, l3] [(2, x)] S h n) ∧
  (∀ (d : Nat) (x : Int) (l1 l2 l3 : Option mx_V) (v0 : mx_V) (S h : mx_H) (n : Int), mx_ex d 259 1137 [some (2, x), l1, l2, l3] [v0] S h n = mx_ex d 259 1138 [some (2, x), l1, l2, l3] [(2, x), v0] S h n) ∧
  (∀ (d : Nat) (x : Int) (l0 l1 l2 : Option mx_V) (v0 v1 : mx_V) (S h : mx_H) (n : Int), mx_ex d 259 1138 [l0, l1, l2, some (0, x)] [v0, v1] S h n = mx_ex d 259 1139 [l0, l1, l2, some (0, x)] [(0, x), v0, v1] S h n) ∧
  (∀ (d : Nat) (l0 l1 l2 l3 : Option mx_V) (v0 v1 v2 : mx_V) (S h : mx_H) (n : Int), mx_ex d 259 1139 [l0, l1, l2, l3] [v0, v1, v2] S h n = mx_ex d 259 1140 [l0, l1, l2, l3] [(0, 1), v0, v1, v2] S h n) ∧
  (∀ (d : Nat) (b a : Int) (l0 l1 l2 l3 : Option mx_V) (v2 v3 : mx_V) (S h : mx_H) (n : Int), mx_ex d 259 1140 [l0, l1, l2, l3] [(0, b), (0, a), v2, v3] S h n = mx_ex d 259 1141 [l0, l1, l2, l3] [(0, mx_w (a + b)), v2, v3] S h n) ∧
  (∀ (d : Nat) (i a : Int) (l0 l1 l2 l3 : Option mx_V) (v2 : mx_V) (S h : mx_H) (n : Int), mx_ex d 259 1141 [l0, l1, l2, l3] [(0, i), (2, a), v2] S h n = mx_gd ((S a (-2) = 20 ∨ S a (-2) = 24) ∧ 0 ≤ i ∧ i < S a (-1)) d 259 1142 [l0, l1, l2, l3] [(0, h a i), v2] S h n) :=
  ⟨by intros; exact eq_ld rfl rfl,
   by intros; exact eq_push rfl,
   by intros; exact eq_i2 (o := mx_add) rfl,
   by intros; exact eq_iald rfl,
   by intros; exact eq_ld rfl rfl,
   by intros; exact eq_ld rfl rfl,
   by intros; exact eq_push rfl,
   by intros; exact eq_i2 (o := mx_add) rfl,
   by intros; exact eq_iald rfl,
   by intros; exact eq_cv rfl (Nat.le_of_ble_eq_true rfl) rfl rfl rfl (Nat.le_of_ble_eq_true rfl),
   by intros; exact eq_ic0 rfl,
   by intros; exact eq_push rfl,
   by intros; exact eq_rr rfl,
   by intros; exact eq_ld rfl rfl,
   by intros; exact eq_ld rfl rfl,
   by intros; exact eq_ld rfl rfl,
   by intros; exact eq_push rfl,
   by intros; exact eq_i2 (o := mx_add) rfl,
   by intros; exact eq_iald rfl,
   by intros; exact eq_ld rfl rfl,
   by intros; exact eq_ld rfl rfl,
   by intros; exact eq_push rfl,
   by intros; exact eq_i2 (o := mx_add) rfl,
   by intros; exact eq_iald rfl,
   by intros; exact eq_cv rfl (Nat.le_of_ble_eq_true rfl) rfl rfl rfl (Nat.le_of_ble_eq_true rfl),
   by intros; exact eq_ld rfl rfl,
   by intros; exact eq_ld rfl rfl,
   by intros; exact eq_ld rfl rfl,
   by intros; exact eq_push rfl,
   by intros; exact eq_i2 (o := mx_add) rfl,
   by intros; exact eq_iald rfl,
   by intros; exact eq_ld rfl rfl,
   by intros; exact eq_ld rfl rfl,
   by intros; exact eq_push rfl,
   by intros; exact eq_i2 (o := mx_add) rfl,
   by intros; exact eq_iald rfl,
   by intros; exact eq_cv rfl (Nat.le_of_ble_eq_true rfl) rfl rfl rfl (Nat.le_of_ble_eq_true rfl),
   by intros; exact eq_ic0 rfl,
   by intros; exact eq_push rfl,
   by intros; exact eq_rr rfl,
   by intros; exact eq_ld rfl rfl,
   by intros; exact eq_ld rfl rfl,
   by intros; exact eq_ld rfl rfl,
   by intros; exact eq_push rfl,
   by intros; exact eq_i2 (o := mx_add) rfl,
   by intros; exact eq_iald rfl,
   by intros; exact eq_cv rfl (Nat.le_of_ble_eq_true rfl) rfl rfl rfl (Nat.le_of_ble_eq_true rfl),
   by intros; exact eq_ld rfl rfl,
   by intros; exact eq_ld rfl rfl,
   by intros; exact eq_ld rfl rfl,
   by intros; exact eq_push rfl,
   by intros; exact eq_i2 (o := mx_add) rfl,
   by intros; exact eq_iald rfl,
   by intros; exact eq_cv rfl (Nat.le_of_ble_eq_true rfl) rfl rfl rfl (Nat.le_of_ble_eq_true rfl),
   by intros; exact eq_ic0 rfl,
   by intros; exact eq_push rfl,
   by intros; exact eq_rr rfl,
   by intros; exact eq_ld rfl rfl,
   by intros; exact eq_cv rfl (Nat.le_of_ble_eq_true rfl) rfl rfl rfl (Nat.le_of_ble_eq_true rfl),
   by intros; exact eq_ld rfl rfl,
   by intros; exact eq_cv rfl (Nat.le_of_ble_eq_true rfl) rfl rfl rfl (Nat.le_of_ble_eq_true rfl),
   by intros; exact eq_ic0 rfl,
   by intros; exact eq_push rfl,
   by intros; exact eq_rr rfl,
   by intros; exact eq_ld rfl rfl,
   by intros; exact eq_ld rfl rfl,
   by intros; exact eq_ld rfl rfl,
   by intros; exact eq_push rfl,
   by intros; exact eq_i2 (o := mx_add) rfl,
   by intros; exact eq_iald rfl⟩
theorem rw_L_law_11 :
  (∀ (d : Nat) (x0 a : Int) (l0 l1 l2 l3 : Option mx_V) (S h : mx_H) (n : Int), mx_ex (d + 1) 259 1142 [l0, l1, l2, l3] [(0, x0), (2, a)] S h n = mx_cl (S a (-2) = 7) d 129 [(2, a), (0, x0)] 259 1145 [l0, l1, l2, l3] [] S h n) ∧
  (∀ (d : Nat) (x : Int) (l0 l1 l3 : Option mx_V) (v0 : mx_V) (S h : mx_H) (n : Int), mx_ex d 259 1145 [l0, l1, some (2, x), l3] [v0] S h n = mx_ex d 259 1146 [l0, l1, some (2, x), l3] [(2, x), v0] S h n) ∧
  (∀ (d : Nat) (x : Int) (l1 l2 l3 : Option mx_V) (v0 v1 : mx_V) (S h : mx_H) (n : Int), mx_ex d 259 1146 [some (2, x), l1, l2, l3] [v0, v1] S h n = mx_ex d 259 1147 [some (2, x), l1, l2, l3] [(2, x), v0, v1] S h n) ∧
  (∀ (d : Nat) (x : Int) (l0 l1 l2 : Option mx_V) (v0 v1 v2 : mx_V) (S h : mx_H) (n : Int), mx_ex d 259 1147 [l0, l1, l2, some (0, x)] [v0, v1, v2] S h n = mx_ex d 259 1148 [l0, l1, l2, some (0, x)] [(0, x), v0, v1, v2] S h n) ∧
  (∀ (d : Nat) (l0 l1 l2 l3 : Option mx_V) (v0 v1 v2 v3 : mx_V) (S h : mx_H) (n : Int), mx_ex d 259 1148 [l0, l1, l2, l3] [v0, v1, v2, v3] S h n = mx_ex d 259 1149 [l0, l1, l2, l3] [(0, 1), v0, v1, v2, v3] S h n) ∧
  (∀ (d : Nat) (b a : Int) (l0 l1 l2 l3 : Option mx_V) (v2 v3 v4 : mx_V) (S h : mx_H) (n : Int), mx_ex d 259 1149 [l0, l1, l2, l3] [(0, b), (0, a), v2, v3, v4] S h n = mx_ex d 259 1150 [l0, l1, l2, l3] [(0, mx_w (a + b)), v2, v3, v4] S h n) ∧
  (∀ (d : Nat) (i a : Int) (l0 l1 l2 l3 : Option mx_V) (v2 v3 : mx_V) (S h : mx_H) (n : Int), mx_ex d 259 1150 [l0, l1, l2, l3] [(0, i), (2, a), v2, v3] S h n = mx_gd ((S a (-2) = 20 ∨ S a (-2) = 24) ∧ 0 ≤ i ∧ i < S a (-1)) d 259 1151 [l0, l1, l2, l3] [(0, h a i), v2, v3] S h n) ∧
  (∀ (d : Nat) (x0 a : Int) (l0 l1 l2 l3 : Option mx_V) (v2 : mx_V) (S h : mx_H) (n : Int), mx_ex (d + 1) 259 1151 [l0, l1, l2, l3] [(0, x0), (2, a), v2] S h n = mx_cl (S a (-2) = 13) d 221 [(2, a), (0, x0)] 259 1154 [l0, l1, l2, l3] [v2] S h n) ∧
  (∀ (d : Nat) (b a : Int) (l0 l1 l2 l3 : Option mx_V) (S h : mx_H) (n : Int), mx_ex d 259 1154 [l0, l1, l2, l3] [(0, b), (0, a)] S h n = mx_br (a = b) d 259 1653 1157 [l0, l1, l2, l3] [] S h n) ∧
  (∀ (d : Nat) (l0 l1 l2 l3 : Option mx_V) (S h : mx_H) (n : Int), mx_ex d 259 1157 [l0, l1, l2, l3] [] S h n = mx_ex d 259 1158 [l0, l1, l2, l3] [(0, 0)] S h n) ∧
  (∀ (d : Nat) (x : Int) (l0 l1 l2 l3 : Option mx_V) (S h : mx_H) (n : Int), mx_ex d 259 1158 [l0, l1, l2, l3] [(0, x)] S h n = mx_re (0 ≤ x ∧ x ≤ 1) (some (0, x)) S h n) ∧
  (∀ (d : Nat) (x : Int) (l0 l2 l3 : Option mx_V) (S h : mx_H) (n : Int), mx_ex d 259 1159 [l0, some (2, x), l2, l3] [] S h n = mx_ex d 259 1160 [l0, some (2, x), l2, l3] [(2, x)] S h n) ∧
  (∀ (d : Nat) (x : Int) (l1 l2 l3 : Option mx_V) (v0 : mx_V) (S h : mx_H) (n : Int), mx_ex d 259 1160 [some (2, x), l1, l2, l3] [v0] S h n = mx_ex d 259 1161 [some (2, x), l1, l2, l3] [(2, x), v0] S h n) ∧
  (∀ (d : Nat) (x : Int) (l0 l1 l2 : Option mx_V) (v0 v1 : mx_V) (S h : mx_H) (n : Int), mx_ex d 259 1161 [l0, l1, l2, some (0, x)] [v0, v1] S h n = mx_ex d 259 1162 [l0, l1, l2, some (0, x)] [(0, x), v0, v1] S h n) ∧
  (∀ (d : Nat) (l0 l1 l2 l3 : Option mx_V) (v0 v1 v2 : mx_V) (S h : mx_H) (n : Int), mx_ex d 259 1162 [l0, l1, l2, l3] [v0, v1, v2] S h n = mx_ex d 259 1163 [l0, l1, l2, l3] [(0, 1), v0, v1, v2] S h n) ∧
  (∀ (d : Nat) (b a : Int) (l0 l1 l2 l3 : Option mx_V) (v2 v3 : mx_V) (S h : mx_H) (n : Int), mx_ex d 259 1163 [l0, l1, l2, l3] [(0, b), (0, a), v2, v3] S h n = mx_ex d 259 1164 [l0, l1, l2, l3] [(0, mx_w (a + b)), v2, v3] S h n) ∧
  (∀ (d : Nat) (i a : Int) (l0 l1 l2 l3 : Option mx_V) (v2 : mx_V) (S h : mx_H) (n : Int), mx_ex d 259 1164 [l0, l1, l2, l3] [(0, i), (2, a), v2] S h n = mx_gd ((S a (-2) = 20 ∨ S a (-2) = 24) ∧ 0 ≤ i ∧ i < S a (-1)) d 259 1165 [l0, l1, l2, l3] [(0, h a i), v2] S h n) ∧
  (∀ (d : Nat) (x : Int) (l1 l2 l3 : Option mx_V) (v0 v1 : mx_V) (S h : mx_H) (n : Int), mx_ex d 259 1165 [some (2, x), l1, l2, l3] [v0, v1] S h n = mx_ex d 259 1166 [some (2, x), l1, l2, l3] [(2, x), v0, v1] S h n) ∧
  (∀ (d : Nat) (x : Int) (l0 l1 l2 : Option mx_V) (v0 v1 v2 : mx_V) (S h : mx_H) (n : Int), mx_ex d 259 1166 [l0, l1, l2, some (0, x)] [v0, v1, v2] S h n = mx_ex d 259 1167 [l0, l1, l2, some (0, x)] [(0, x), v0, v1, v2] S h n) ∧
  (∀ (d : Nat) (l0 l1 l2 l3 : Option mx_V) (v0 v1 v2 v3 : mx_V) (S h : mx_H) (n : Int), mx_ex d 259 1167 [l0, l1, l2, l3] [v0, v1, v2, v3] S h n = mx_ex d 259 1168 [l0, l1, l2, l3] [(0, 2), v0, v1, v2, v3] S h n) ∧
  (∀ (d : Nat) (b a : Int) (l0 l1 l2 l3 : Option mx_V) (v2 v3 v4 : mx_V) (S h : mx_H) (n : Int), mx_ex d 259 1168 [l0, l1, l2, l3] [(0, b), (0, a), v2, v3, v4] S h n = mx_ex d 259 1169 [l0, l1, l2, l3] [(0, mx_w (a + b)), v2, v3, v4] S h n) ∧
  (∀ (d : Nat) (i a : Int) (l0 l1 l2 l3 : Option mx_V) (v2 v3 : mx_V) (S h : mx_H) (n : Int), mx_ex d 259 1169 [l0, l1, l2, l3] [(0, i), (2, a), v2, v3] S h n = mx_gd ((S a (-2) = 20 ∨ S a (-2) = 24) ∧ 0 ≤ i ∧ i < S a (-1)) d 259 1170 [l0, l1, l2, l3] [(0, h a i), v2, v3] S h n) ∧
  (∀ (d : Nat) (x0 x1 a : Int) (l0 l1 l2 l3 : Option mx_V) (S h : mx_H) (n : Int), mx_ex (d + 1) 259 1170 [l0, l1, l2, l3] [(0, x0), (0, x1), (2, a)] S h n = mx_cl (S a (-2) = 7) d 130 [(2, a), (0, x1), (0, x0)] 259 1173 [l0, l1, l2, l3] [] S h n) ∧
  (∀ (d : Nat) (x : Int) (l0 l1 l3 : Option mx_V) (v0 : mx_V) (S h : mx_H) (n : Int), mx_ex d 259 1173 [l0, l1, some (2, x), l3] [v0] S h n = mx_ex d 259 1174 [l0, l1, some (2, x), l3] [(2, x), v0] S h n) ∧
  (∀ (d : Nat) (x : Int) (l1 l2 l3 : Option mx_V) (v0 v1 : mx_V) (S h : mx_H) (n : Int), mx_ex d 259 1174 [some (2, x), l1, l2, l3] [v0, v1] S h n = mx_ex d 259 1175 [some (2, x), l1, l2, l3] [(2, x), v0, v1] S h n) ∧
  (∀ (d : Nat) (x : Int) (l0 l1 l2 : Option mx_V) (v0 v1 v2 : mx_V) (S h : mx_H) (n : Int), mx_ex d 259 1175 [l0, l1, l2, some (0, x)] [v0, v1, v2] S h n = mx_ex d 259 1176 [l0, l1, l2, some (0, x)] [(0, x), v0, v1, v2] S h n) ∧
  (∀ (d : Nat) (l0 l1 l2 l3 : Option mx_V) (v0 v1 v2 v3 : mx_V) (S h : mx_H) (n : Int), mx_ex d 259 1176 [l0, l1, l2, l3] [v0, v1, v2, v3] S h n = mx_ex d 259 1177 [l0, l1, l2, l3] [(0, 1), v0, v1, v2, v3] S h n) ∧
  (∀ (d : Nat) (b a : Int) (l0 l1 l2 l3 : Option mx_V) (v2 v3 v4 : mx_V) (S h : mx_H) (n : Int), mx_ex d 259 1177 [l0, l1, l2, l3] [(0, b), (0, a), v2, v3, v4] S h n = mx_ex d 259 1178 [l0, l1, l2, l3] [(0, mx_w (a + b)), v2, v3, v4] S h n) ∧
  (∀ (d : Nat) (i a : Int) (l0 l1 l2 l3 : Option mx_V) (v2 v3 : mx_V) (S h : mx_H) (n : Int), mx_ex d 259 1178 [l0, l1, l2, l3] [(0, i), (2, a), v2, v3] S h n = mx_gd ((S a (-2) = 20 ∨ S a (-2) = 24) ∧ 0 ≤ i ∧ i < S a (-1)) d 259 1179 [l0, l1, l2, l3] [(0, h a i), v2, v3] S h n) ∧
  (∀ (d : Nat) (x : Int) (l1 l2 l3 : Option mx_V) (v0 v1 v2 : mx_V) (S h : mx_H) (n : Int), mx_ex d 259 1179 [some (2, x), l1, l2, l3] [v0, v1, v2] S h n = mx_ex d 259 1180 [some (2, x), l1, l2, l3] [(2, x), v0, v1, v2] S h n) ∧
  (∀ (d : Nat) (x : Int) (l0 l1 l2 : Option mx_V) (v0 v1 v2 v3 : mx_V) (S h : mx_H) (n : Int), mx_ex d 259 1180 [l0, l1, l2, some (0, x)] [v0, v1, v2, v3] S h n = mx_ex d 259 1181 [l0, l1, l2, some (0, x)] [(0, x), v0, v1, v2, v3] S h n) ∧
  (∀ (d : Nat) (l0 l1 l2 l3 : Option mx_V) (v0 v1 v2 v3 v4 : mx_V) (S h : mx_H) (n : Int), mx_ex d 259 1181 [l0, l1, l2, l3] [v0, v1, v2, v3, v4] S h n = mx_ex d 259 1182 [l0, l1, l2, l3] [(0, 2), v0, v1, v2, v3, v4] S h n) ∧
  (∀ (d : Nat) (b a : Int) (l0 l1 l2 l3 : Option mx_V) (v2 v3 v4 v5 : mx_V) (S h : mx_H) (n : Int), mx_ex d 259 1182 [l0, l1, l2, l3] [(0, b), (0, a), v2, v3, v4, v5] S h n = mx_ex d 259 1183 [l0, l1, l2, l3] [(0, mx_w (a + b)), v2, v3, v4, v5] S h n) ∧
  (∀ (d : Nat) (i a : Int) (l0 l1 l2 l3 : Option mx_V) (v2 v3 v4 : mx_V) (S h : mx_H) (n : Int), mx_ex d 259 1183 [l0, l1, l2, l3] [(0, i), (2, a), v2, v3, v4] S h n = mx_gd ((S a (-2) = 20 ∨ S a (-2) = 24) ∧ 0 ≤ i ∧ i < S a (-1)) d 259 1184 [l0, l1, l2, l3] [(0, h a i), v2, v3, v4] S h n) ∧
  (∀ (d : Nat) (x0 x1 a : Int) (l0 l1 l2 l3 : Option mx_V) (v3 : mx_V) (S h : mx_H) (n : Int), mx_ex (d + 1) 259 1184 [l0, l1, l2, l3] [(0, x0), (0, x1), (2, a), v3] S h n = mx_cl (S a (-2) = 13) d 223 [(2, a), (0, x1), (0, x0)] 259 1187 [l0, l1, l2, l3] [v3] S h n) ∧
  (∀ (d : Nat) (b a : Int) (l0 l1 l2 l3 : Option mx_V) (S h : mx_H) (n : Int), mx_ex d 259 1187 [l0, l1, l2, l3] [(1, b), (1, a)] S h n = mx_ex d 259 1188 [l0, l1, l2, l3] [(0, mx_cmp a b)] S h n) ∧
  (∀ (d : Nat) (a : Int) (l0 l1 l2 l3 : Option mx_V) (S h : mx_H) (n : Int), mx_ex d 259 1188 [l0, l1, l2, l3] [(0, a)] S h n = mx_br (a = 0) d 259 1653 1191 [l0, l1, l2, l3] [] S h n) ∧
  (∀ (d : Nat) (l0 l1 l2 l3 : Option mx_V) (S h : mx_H) (n : Int), mx_ex d 259 1191 [l0, l1, l2, l3] [] S h n = mx_ex d 259 1192 [l0, l1, l2, l3] [(0, 0)] S h n) ∧
  (∀ (d : Nat) (x : Int) (l0 l1 l2 l3 : Option mx_V) (S h : mx_H) (n : Int), mx_ex d 259 1192 [l0, l1, l2, l3] [(0, x)] S h n = mx_re (0 ≤ x ∧ x ≤ 1) (some (0, x)) S h n) ∧
  (∀ (d : Nat) (x : Int) (l0 l2 l3 : Option mx_V) (S h : mx_H) (n : Int), mx_ex d 259 1193 [l0, some (2, x), l2, l3] [] S h n = mx_ex d 259 1194 [l0, some (2, x), l2, l3] [(2, x)] S h n) ∧
  (∀ (d : Nat) (x : Int) (l1 l2 l3 : Option mx_V) (v0 : mx_V) (S h : mx_H) (n : Int), mx_ex d 259 1194 [some (2, x), l1, l2, l3] [v0] S h n = mx_ex d 259 1195 [some (2, x), l1, l2, l3] [(2, x), v0] S h n) ∧
  (∀ (d : Nat) (x : Int) (l0 l1 l2 : Option mx_V) (v0 v1 : mx_V) (S h : mx_H) (n : Int), mx_ex d 259 1195 [l0, l1, l2, some (0, x)] [v0, v1] S h n = mx_ex d 259 1196 [l0, l1, l2, some (0, x)] [(0, x), v0, v1] S h n) ∧
  (∀ (d : Nat) (l0 l1 l2 l3 : Option mx_V) (v0 v1 v2 : mx_V) (S h : mx_H) (n : Int), mx_ex d 259 1196 [l0, l1, l2, l3] [v0, v1, v2] S h n = mx_ex d 259 1197 [l0, l1, l2, l3] [(0, 1), v0, v1, v2] S h n) ∧
  (∀ (d : Nat) (b a : Int) (l0 l1 l2 l3 : Option mx_V) (v2 v3 : mx_V) (S h : mx_H) (n : Int), mx_ex d 259 1197 [l0, l1, l2, l3] [(0, b), (0, a), v2, v3] S h n = mx_ex d 259 1198 [l0, l1, l2, l3] [(0, mx_w (a + b)), v2, v3] S h n) ∧
  (∀ (d : Nat) (i a : Int) (l0 l1 l2 l3 : Option mx_V) (v2 : mx_V) (S h : mx_H) (n : Int), mx_ex d 259 1198 [l0, l1, l2, l3] [(0, i), (2, a), v2] S h n = mx_gd ((S a (-2) = 20 ∨ S a (-2) = 24) ∧ 0 ≤ i ∧ i < S a (-1)) d 259 1199 [l0, l1, l2, l3] [(0, h a i), v2] S h n) ∧
  (∀ (d : Nat) (x : Int) (l1 l2 l3 : Option mx_V) (v0 v1 : mx_V) (S h : mx_H) (n : Int), mx_ex d 259 1199 [some (2, x), l1, l2, l3] [v0, v1] S h n = mx_ex d 259 1200 [some (2, x), l1, l2, l3] [(2, x), v0, v1] S h n) ∧
  (∀ (d : Nat) (x : Int) (l0 l1 l2 : Option mx_V) (v0 v1 v2 : mx_V) (S h : mx_H) (n : Int), mx_ex d 259 1200 [l0, l1, l2, some (0, x)] [v0, v1, v2] S h n = mx_ex d 259 1201 [l0, l1, l2, some (0, x)] [(0, x), v0, v1, v2] S h n) ∧
  (∀ (d : Nat) (l0 l1 l2 l3 : Option mx_V) (v0 v1 v2 v3 : mx_V) (S h : mx_H) (n : Int), mx_ex d 259 1201 [l0, l1, l2, l3] [v0, v1, v2, v3] S h n = mx_ex d 259 1202 [l0, l1, l2, l3] [(0, 2), v0, v1, v2, v3] S h n) ∧
  (∀ (d : Nat) (b a : Int) (l0 l1 l2 l3 : Option mx_V) (v2 v3 v4 : mx_V) (S h : mx_H) (n : Int), mx_ex d 259 1202 [l0, l1, l2, l3] [(0, b), (0, a), v2, v3, v4] S h n = mx_ex d 259 1203 [l0, l1, l2, l3] [(0, mx_w (a + b)), v2, v3, v4] S h n) ∧
  (∀ (d : Nat) (i a : Int) (l0 l1 l2 l3 : Option mx_V) (v2 v3 : mx_V) (S h : mx_H) (n : Int), mx_ex d 259 1203 [l0, l1, l2, l3] [(0, i), (2, a), v2, v3] S h n = mx_gd ((S a (-2) = 20 ∨ S a (-2) = 24) ∧ 0 ≤ i ∧ i < S a (-1)) d 259 1204 [l0, l1, l2, l3] [(0, h a i), v2, v3] S h n) ∧
  (∀ (d : Nat) (x : Int) (l1 l2 l3 : Option mx_V) (v0 v1 v2 : mx_V) (S h : mx_H) (n : Int), mx_ex d 259 1204 [some (2, x), l1, l2, l3] [v0, v1, v2] S h n = mx_ex d 259 1205 [some (2, x), l1, l2, l3] [(2, x), v0, v1, v2] S h n) ∧
  (∀ (d : Nat) (x : Int) (l0 l1 l2 : Option mx_V) (v0 v1 v2 v3 : mx_V) (S h : mx_H) (n : Int), mx_ex d 259 1205 [l0, l1, l2, some (0, x)] [v0, v1, v2, v3] S h n = mx_ex d 259 1206 [l0, l1, l2, some (0, x)] [(0, x), v0, v1, v2, v3] S h n) ∧
  (∀ (d : Nat) (l0 l1 l2 l3 : Option mx_V) (v0 v1 v2 v3 v4 : mx_V) (S h : mx_H) (n : Int), mx_ex d 259 1206 [l0, l1, l2, l3] [v0, v1, v2, v3, v4] S h n = mx_ex d 259 1207 [l0, l1, l2, l3] [(0, 3), v0, v1, v2, v3, v4] S h n) ∧
  (∀ (d : Nat) (b a : Int) (l0 l1 l2 l3 : Option mx_V) (v2 v3 v4 v5 : mx_V) (S h : mx_H) (n : Int), mx_ex d 259 1207 [l0, l1, l2, l3] [(0, b), (0, a), v2, v3, v4, v5] S h n = mx_ex d 259 1208 [l0, l1, l2, l3] [(0, mx_w (a + b)), v2, v3, v4, v5] S h n) ∧
  (∀ (d : Nat) (i a : Int) (l0 l1 l2 l3 : Option mx_V) (v2 v3 v4 : mx_V) (S h : mx_H) (n : Int), mx_ex d 259 1208 [l0, l1, l2, l3] [(0, i), (2, a), v2, v3, v4] S h n = mx_gd ((S a (-2) = 20 ∨ S a (-2) = 24) ∧ 0 ≤ i ∧ i < S a (-1)) d 259 1209 [l0, l1, l2, l3] [(0, h a i), v2, v3, v4] S h n) ∧
  (∀ (d : Nat) (a : Int) (l0 l1 l2 l3 : Option mx_V) (v1 v2 v3 : mx_V) (S h : mx_H) (n : Int), mx_ex d 259 1209 [l0, l1, l2, l3] [(0, a), v1, v2, v3] S h n = mx_ex d 259 1210 [l0, l1, l2, l3] [(1, a), v1, v2, v3] S h n) ∧
  (∀ (d : Nat) (l0 l1 l2 l3 : Option mx_V) (v0 v1 v2 v3 : mx_V) (S h : mx_H) (n : Int), mx_ex d 259 1210 [l0, l1, l2, l3] [v0, v1, v2, v3] S h n = mx_ex d 259 1212 [l0, l1, l2, l3] [(0, 32), v0, v1, v2, v3] S h n) ∧
  (∀ (d : Nat) (b a : Int) (l0 l1 l2 l3 : Option mx_V) (v2 v3 v4 : mx_V) (S h : mx_H) (n : Int), mx_ex d 259 1212 [l0, l1, l2, l3] [(0, b), (1, a), v2, v3, v4] S h n = mx_ex d 259 1213 [l0, l1, l2, l3] [(1, ml_shl a b), v2, v3, v4] S h n) ∧
  (∀ (d : Nat) (x : Int) (l1 l2 l3 : Option mx_V) (v0 v1 v2 v3 : mx_V) (S h : mx_H) (n : Int), mx_ex d 259 1213 [some (2, x), l1, l2, l3] [v0, v1, v2, v3] S h n = mx_ex d 259 1214 [some (2, x), l1, l2, l3] [(2, x), v0, v1, v2, v3] S h n) ∧
  (∀ (d : Nat) (x : Int) (l0 l1 l2 : Option mx_V) (v0 v1 v2 v3 v4 : mx_V) (S h : mx_H) (n : Int), mx_ex d 259 1214 [l0, l1, l2, some (0, x)] [v0, v1, v2, v3, v4] S h n = mx_ex d 259 1215 [l0, l1, l2, some (0, x)] [(0, x), v0, v1, v2, v3, v4] S h n) ∧
  (∀ (d : Nat) (l0 l1 l2 l3 : Option mx_V) (v0 v1 v2 v3 v4 v5 : mx_V) (S h : mx_H) (n : Int), mx_ex d 259 1215 [l0, l1, l2, l3] [v0, v1, v2, v3, v4, v5] S h n = mx_ex d 259 1216 [l0, l1, l2, l3] [(0, 4), v0, v1, v2, v3, v4, v5] S h n) ∧
  (∀ (d : Nat) (b a : Int) (l0 l1 l2 l3 : Option mx_V) (v2 v3 v4 v5 v6 : mx_V) (S h : mx_H) (n : Int), mx_ex d 259 1216 [l0, l1, l2, l3] [(0, b), (0, a), v2, v3, v4, v5, v6] S h n = mx_ex d 259 1217 [l0, l1, l2, l3] [(0, mx_w (a + b)), v2, v3, v4, v5, v6] S h n) ∧
  (∀ (d : Nat) (i a : Int) (l0 l1 l2 l3 : Option mx_V) (v2 v3 v4 v5 : mx_V) (S h : mx_H) (n : Int), mx_ex d 259 1217 [l0, l1, l2, l3] [(0, i), (2, a), v2, v3, v4, v5] S h n = mx_gd ((S a (-2) = 20 ∨ S a (-2) = 24) ∧ 0 ≤ i ∧ i < S a (-1)) d 259 1218 [l0, l1, l2, l3] [(0, h a i), v2, v3, v4, v5] S h n) ∧
  (∀ (d : Nat) (a : Int) (l0 l1 l2 l3 : Option mx_V) (v1 v2 v3 v4 : mx_V) (S h : mx_H) (n : Int), mx_ex d 259 1218 [l0, l1, l2, l3] [(0, a), v1, v2, v3, v4] S h n = mx_ex d 259 1219 [l0, l1, l2, l3] [(1, a), v1, v2, v3, v4] S h n) ∧
  (∀ (d : Nat) (l0 l1 l2 l3 : Option mx_V) (v0 v1 v2 v3 v4 : mx_V) (S h : mx_H) (n : Int), mx_ex d 259 1219 [l0, l1, l2, l3] [v0, v1, v2, v3, v4] S h n = mx_ex d 259 1222 [l0, l1, l2, l3] [(1, 4294967295), v0, v1, v2, v3, v4] S h n) ∧
  (∀ (d : Nat) (b a : Int) (l0 l1 l2 l3 : Option mx_V) (v2 v3 v4 v5 : mx_V) (S h : mx_H) (n : Int), mx_ex d 259 1222 [l0, l1, l2, l3] [(1, b), (1, a), v2, v3, v4, v5] S h n = mx_ex d 259 1223 [l0, l1, l2, l3] [(1, ml_and a b), v2, v3, v4, v5] S h n) ∧
  (∀ (d : Nat) (b a : Int) (l0 l1 l2 l3 : Option mx_V) (v2 v3 v4 : mx_V) (S h : mx_H) (n : Int), mx_ex d 259 1223 [l0, l1, l2, l3] [(1, b), (1, a), v2, v3, v4] S h n = mx_ex d 259 1224 [l0, l1, l2, l3] [(1, ml_or a b), v2, v3, v4] S h n) ∧
  (∀ (d : Nat) (x0 x1 x2 a : Int) (l0 l1 l2 l3 : Option mx_V) (S h : mx_H) (n : Int), mx_ex (d + 1) 259 1224 [l0, l1, l2, l3] [(1, x0), (0, x1), (0, x2), (2, a)] S h n = mx_cl (S a (-2) = 7) d 131 [(2, a), (0, x2), (0, x1), (1, x0)] 259 1227 [l0, l1, l2, l3] [] S h n) ∧
  (∀ (d : Nat) (x : Int) (l0 l1 l3 : Option mx_V) (v0 : mx_V) (S h : mx_H) (n : Int), mx_ex d 259 1227 [l0, l1, some (2, x), l3] [v0] S h n = mx_ex d 259 1228 [l0, l1, some (2, x), l3] [(2, x), v0] S h n) ∧
  (∀ (d : Nat) (x : Int) (l1 l2 l3 : Option mx_V) (v0 v1 : mx_V) (S h : mx_H) (n : Int), mx_ex d 259 1228 [some (2, x), l1, l2, l3] [v0, v1] S h n = mx_ex d 259 1229 [some (2, x), l1, l2, l3] [(2, x), v0, v1] S h n) :=
  ⟨by intros; exact eq_cv rfl (Nat.le_of_ble_eq_true rfl) rfl rfl rfl (Nat.le_of_ble_eq_true rfl),
   by intros; exact eq_ld rfl rfl,
   by intros; exact eq_ld rfl rfl,
   by intros; exact eq_ld rfl rfl,
   by intros; exact eq_push rfl,
   by intros; exact eq_i2 (o := mx_add) rfl,
   by intros; exact eq_iald rfl,
   by intros; exact eq_cv rfl (Nat.le_of_ble_eq_true rfl) rfl rfl rfl (Nat.le_of_ble_eq_true rfl),
   by intros; exact eq_ic0 rfl,
   by intros; exact eq_push rfl,
   by intros; exact eq_rr rfl,
   by intros; exact eq_ld rfl rfl,
   by intros; exact eq_ld rfl rfl,
   by intros; exact eq_ld rfl rfl,
   by intros; exact eq_push rfl,
   by intros; exact eq_i2 (o := mx_add) rfl,
   by intros; exact eq_iald rfl,
   by intros; exact eq_ld rfl rfl,
   by intros; exact eq_ld rfl rfl,
   by intros; exact eq_push rfl,
   by intros; exact eq_i2 (o := mx_add) rfl,
   by intros; exact eq_iald rfl,
   by intros; exact eq_cv rfl (Nat.le_of_ble_eq_true rfl) rfl rfl rfl (Nat.le_of_ble_eq_true rfl),
   by intros; exact eq_ld rfl rfl,
   by intros; exact eq_ld rfl rfl,
   by intros; exact eq_ld rfl rfl,
   by intros; exact eq_push rfl,
   by intros; exact eq_i2 (o := mx_add) rfl,
   by intros; exact eq_iald rfl,
   by intros; exact eq_ld rfl rfl,
   by intros; exact eq_ld rfl rfl,
   by intros; exact eq_push rfl,
   by intros; exact eq_i2 (o := mx_add) rfl,
   by intros; exact eq_iald rfl,
   by intros; exact eq_cv rfl (Nat.le_of_ble_eq_true rfl) rfl rfl rfl (Nat.le_of_ble_eq_true rfl),
   by intros; exact eq_lcmp rfl,
   by intros; exact eq_if0 rfl,
   by intros; exact eq_push rfl,
   by intros; exact eq_rr rfl,
   by intros; exact eq_ld rfl rfl,
   by intros; exact eq_ld rfl rfl,
   by intros; exact eq_ld rfl rfl,
   by intros; exact eq_push rfl,
   by intros; exact eq_i2 (o := mx_add) rfl,
   by intros; exact eq_iald rfl,
   by intros; exact eq_ld rfl rfl,
   by intros; exact eq_ld rfl rfl,
   by intros; exact eq_push rfl,
   by intros; exact eq_i2 (o := mx_add) rfl,
   by intros; exact eq_iald rfl,
   by intros; exact eq_ld rfl rfl,
   by intros; exact eq_ld rfl rfl,
   by intros; exact eq_push rfl,
   by intros; exact eq_i2 (o := mx_add) rfl,
   by intros; exact eq_iald rfl,
   by intros; exact eq_i2l rfl,
   by intros; exact eq_push rfl,
   by intros; exact eq_ls (o := ml_shl) rfl,
   by intros; exact eq_ld rfl rfl,
   by intros; exact eq_ld rfl rfl,
   by intros; exact eq_push rfl,
   by intros; exact eq_i2 (o := mx_add) rfl,
   by intros; exact eq_iald rfl,
   by intros; exact eq_i2l rfl,
   by intros; exact eq_push rfl,
   by intros; exact eq_l2 (o := ml_and) rfl,
   by intros; exact eq_l2 (o := ml_or) rfl,
   by intros; exact eq_cv rfl (Nat.le_of_ble_eq_true rfl) rfl rfl rfl (Nat.le_of_ble_eq_true rfl),
   by intros; exact eq_ld rfl rfl,
   by intros; exact eq_ld rfl rfl⟩
theorem rw_L_law_12 :
  (∀ (d : Nat) (x : Int) (l0 l1 l2 : Option mx_V) (v0 v1 v2 : mx_V) (S h : mx_H) (n : Int), mx_ex d 259 1229 [l0, l1, l2, some (0, x)] [v0, v1, v2] S h n = mx_ex d 259 1230 [l0, l1, l2, some (0, x)] [(0, x), v0, v1, v2] S h n) ∧
  (∀ (d : Nat) (l0 l1 l2 l3 : Option mx_V) (v0 v1 v2 v3 : mx_V) (S h : mx_H) (n : Int), mx_ex d 259 1230 [l0, l1, l2, l3] [v0, v1, v2, v3] S h n = mx_ex d 259 1231 [l0, l1, l2, l3] [(0, 1), v0, v1, v2, v3] S h n) ∧
  (∀ (d : Nat) (b a : Int) (l0 l1 l2 l3 : Option mx_V) (v2 v3 v4 : mx_V) (S h : mx_H) (n : Int), mx_ex d 259 1231 [l0, l1, l2, l3] [(0, b), (0, a), v2, v3, v4] S h n = mx_ex d 259 1232 [l0, l1, l2, l3] [(0, mx_w (a + b)), v2, v3, v4] S h n) ∧
  (∀ (d : Nat) (i a : Int) (l0 l1 l2 l3 : Option mx_V) (v2 v3 : mx_V) (S h : mx_H) (n : Int), mx_ex d 259 1232 [l0, l1, l2, l3] [(0, i), (2, a), v2, v3] S h n = mx_gd ((S a (-2) = 20 ∨ S a (-2) = 24) ∧ 0 ≤ i ∧ i < S a (-1)) d 259 1233 [l0, l1, l2, l3] [(0, h a i), v2, v3] S h n) ∧
  (∀ (d : Nat) (x : Int) (l1 l2 l3 : Option mx_V) (v0 v1 v2 : mx_V) (S h : mx_H) (n : Int), mx_ex d 259 1233 [some (2, x), l1, l2, l3] [v0, v1, v2] S h n = mx_ex d 259 1234 [some (2, x), l1, l2, l3] [(2, x), v0, v1, v2] S h n) ∧
  (∀ (d : Nat) (x : Int) (l0 l1 l2 : Option mx_V) (v0 v1 v2 v3 : mx_V) (S h : mx_H) (n : Int), mx_ex d 259 1234 [l0, l1, l2, some (0, x)] [v0, v1, v2, v3] S h n = mx_ex d 259 1235 [l0, l1, l2, some (0, x)] [(0, x), v0, v1, v2, v3] S h n) ∧
  (∀ (d : Nat) (l0 l1 l2 l3 : Option mx_V) (v0 v1 v2 v3 v4 : mx_V) (S h : mx_H) (n : Int), mx_ex d 259 1235 [l0, l1, l2, l3] [v0, v1, v2, v3, v4] S h n = mx_ex d 259 1236 [l0, l1, l2, l3] [(0, 2), v0, v1, v2, v3, v4] S h n) ∧
  (∀ (d : Nat) (b a : Int) (l0 l1 l2 l3 : Option mx_V) (v2 v3 v4 v5 : mx_V) (S h : mx_H) (n : Int), mx_ex d 259 1236 [l0, l1, l2, l3] [(0, b), (0, a), v2, v3, v4, v5] S h n = mx_ex d 259 1237 [l0, l1, l2, l3] [(0, mx_w (a + b)), v2, v3, v4, v5] S h n) ∧
  (∀ (d : Nat) (i a : Int) (l0 l1 l2 l3 : Option mx_V) (v2 v3 v4 : mx_V) (S h : mx_H) (n : Int), mx_ex d 259 1237 [l0, l1, l2, l3] [(0, i), (2, a), v2, v3, v4] S h n = mx_gd ((S a (-2) = 20 ∨ S a (-2) = 24) ∧ 0 ≤ i ∧ i < S a (-1)) d 259 1238 [l0, l1, l2, l3] [(0, h a i), v2, v3, v4] S h n) ∧
  (∀ (d : Nat) (x : Int) (l1 l2 l3 : Option mx_V) (v0 v1 v2 v3 : mx_V) (S h : mx_H) (n : Int), mx_ex d 259 1238 [some (2, x), l1, l2, l3] [v0, v1, v2, v3] S h n = mx_ex d 259 1239 [some (2, x), l1, l2, l3] [(2, x), v0, v1, v2, v3] S h n) ∧
  (∀ (d : Nat) (x : Int) (l0 l1 l2 : Option mx_V) (v0 v1 v2 v3 v4 : mx_V) (S h : mx_H) (n : Int), mx_ex d 259 1239 [l0, l1, l2, some (0, x)] [v0, v1, v2, v3, v4] S h n = mx_ex d 259 1240 [l0, l1, l2, some (0, x)] [(0, x), v0, v1, v2, v3, v4] S h n) ∧
  (∀ (d : Nat) (l0 l1 l2 l3 : Option mx_V) (v0 v1 v2 v3 v4 v5 : mx_V) (S h : mx_H) (n : Int), mx_ex d 259 1240 [l0, l1, l2, l3] [v0, v1, v2, v3, v4, v5] S h n = mx_ex d 259 1241 [l0, l1, l2, l3] [(0, 3), v0, v1, v2, v3, v4, v5] S h n) ∧
  (∀ (d : Nat) (b a : Int) (l0 l1 l2 l3 : Option mx_V) (v2 v3 v4 v5 v6 : mx_V) (S h : mx_H) (n : Int), mx_ex d 259 1241 [l0, l1, l2, l3] [(0, b), (0, a), v2, v3, v4, v5, v6] S h n = mx_ex d 259 1242 [l0, l1, l2, l3] [(0, mx_w (a + b)), v2, v3, v4, v5, v6] S h n) ∧
  (∀ (d : Nat) (i a : Int) (l0 l1 l2 l3 : Option mx_V) (v2 v3 v4 v5 : mx_V) (S h : mx_H) (n : Int), mx_ex d 259 1242 [l0, l1, l2, l3] [(0, i), (2, a), v2, v3, v4, v5] S h n = mx_gd ((S a (-2) = 20 ∨ S a (-2) = 24) ∧ 0 ≤ i ∧ i < S a (-1)) d 259 1243 [l0, l1, l2, l3] [(0, h a i), v2, v3, v4, v5] S h n) ∧
  (∀ (d : Nat) (a : Int) (l0 l1 l2 l3 : Option mx_V) (v1 v2 v3 v4 : mx_V) (S h : mx_H) (n : Int), mx_ex d 259 1243 [l0, l1, l2, l3] [(0, a), v1, v2, v3, v4] S h n = mx_ex d 259 1244 [l0, l1, l2, l3] [(1, a), v1, v2, v3, v4] S h n) ∧
  (∀ (d : Nat) (l0 l1 l2 l3 : Option mx_V) (v0 v1 v2 v3 v4 : mx_V) (S h : mx_H) (n : Int), mx_ex d 259 1244 [l0, l1, l2, l3] [v0, v1, v2, v3, v4] S h n = mx_ex d 259 1246 [l0, l1, l2, l3] [(0, 32), v0, v1, v2, v3, v4] S h n) ∧
  (∀ (d : Nat) (b a : Int) (l0 l1 l2 l3 : Option mx_V) (v2 v3 v4 v5 : mx_V) (S h : mx_H) (n : Int), mx_ex d 259 1246 [l0, l1, l2, l3] [(0, b), (1, a), v2, v3, v4, v5] S h n = mx_ex d 259 1247 [l0, l1, l2, l3] [(1, ml_shl a b), v2, v3, v4, v5] S h n) ∧
  (∀ (d : Nat) (x : Int) (l1 l2 l3 : Option mx_V) (v0 v1 v2 v3 v4 : mx_V) (S h : mx_H) (n : Int), mx_ex d 259 1247 [some (2, x), l1, l2, l3] [v0, v1, v2, v3, v4] S h n = mx_ex d 259 1248 [some (2, x), l1, l2, l3] [(2, x), v0, v1, v2, v3, v4] S h n) ∧
  (∀ (d : Nat) (x : Int) (l0 l1 l2 : Option mx_V) (v0 v1 v2 v3 v4 v5 : mx_V) (S h : mx_H) (n : Int), mx_ex d 259 1248 [l0, l1, l2, some (0, x)] [v0, v1, v2, v3, v4, v5] S h n = mx_ex d 259 1249 [l0, l1, l2, some (0, x)] [(0, x), v0, v1, v2, v3, v4, v5] S h n) ∧
  (∀ (d : Nat) (l0 l1 l2 l3 : Option mx_V) (v0 v1 v2 v3 v4 v5 v6 : mx_V) (S h : mx_H) (n : Int), mx_ex d 259 1249 [l0, l1, l2, l3] [v0, v1, v2, v3, v4, v5, v6] S h n = mx_ex d 259 1250 [l0, l1, l2, l3] [(0, 4), v0, v1, v2, v3, v4, v5, v6] S h n) ∧
  (∀ (d : Nat) (b a : Int) (l0 l1 l2 l3 : Option mx_V) (v2 v3 v4 v5 v6 v7 : mx_V) (S h : mx_H) (n : Int), mx_ex d 259 1250 [l0, l1, l2, l3] [(0, b), (0, a), v2, v3, v4, v5, v6, v7] S h n = mx_ex d 259 1251 [l0, l1, l2, l3] [(0, mx_w (a + b)), v2, v3, v4, v5, v6, v7] S h n) ∧
  (∀ (d : Nat) (i a : Int) (l0 l1 l2 l3 : Option mx_V) (v2 v3 v4 v5 v6 : mx_V) (S h : mx_H) (n : Int), mx_ex d 259 1251 [l0, l1, l2, l3] [(0, i), (2, a), v2, v3, v4, v5, v6] S h n = mx_gd ((S a (-2) = 20 ∨ S a (-2) = 24) ∧ 0 ≤ i ∧ i < S a (-1)) d 259 1252 [l0, l1, l2, l3] [(0, h a i), v2, v3, v4, v5, v6] S h n) ∧
  (∀ (d : Nat) (a : Int) (l0 l1 l2 l3 : Option mx_V) (v1 v2 v3 v4 v5 : mx_V) (S h : mx_H) (n : Int), mx_ex d 259 1252 [l0, l1, l2, l3] [(0, a), v1, v2, v3, v4, v5] S h n = mx_ex d 259 1253 [l0, l1, l2, l3] [(1, a), v1, v2, v3, v4, v5] S h n) ∧
  (∀ (d : Nat) (l0 l1 l2 l3 : Option mx_V) (v0 v1 v2 v3 v4 v5 : mx_V) (S h : mx_H) (n : Int), mx_ex d 259 1253 [l0, l1, l2, l3] [v0, v1, v2, v3, v4, v5] S h n = mx_ex d 259 1256 [l0, l1, l2, l3] [(1, 4294967295), v0, v1, v2, v3, v4, v5] S h n) ∧
  (∀ (d : Nat) (b a : Int) (l0 l1 l2 l3 : Option mx_V) (v2 v3 v4 v5 v6 : mx_V) (S h : mx_H) (n : Int), mx_ex d 259 1256 [l0, l1, l2, l3] [(1, b), (1, a), v2, v3, v4, v5, v6] S h n = mx_ex d 259 1257 [l0, l1, l2, l3] [(1, ml_and a b), v2, v3, v4, v5, v6] S h n) ∧
  (∀ (d : Nat) (b a : Int) (l0 l1 l2 l3 : Option mx_V) (v2 v3 v4 v5 : mx_V) (S h : mx_H) (n : Int), mx_ex d 259 1257 [l0, l1, l2, l3] [(1, b), (1, a), v2, v3, v4, v5] S h n = mx_ex d 259 1258 [l0, l1, l2, l3] [(1, ml_or a b), v2, v3, v4, v5] S h n) ∧
  (∀ (d : Nat) (x0 x1 x2 a : Int) (l0 l1 l2 l3 : Option mx_V) (v4 : mx_V) (S h : mx_H) (n : Int), mx_ex (d + 1) 259 1258 [l0, l1, l2, l3] [(1, x0), (0, x1), (0, x2), (2, a), v4] S h n = mx_cl (S a (-2) = 13) d 224 [(2, a), (0, x2), (0, x1), (1, x0)] 259 1261 [l0, l1, l2, l3] [v4] S h n) ∧
  (∀ (d : Nat) (b a : Int) (l0 l1 l2 l3 : Option mx_V) (S h : mx_H) (n : Int), mx_ex d 259 1261 [l0, l1, l2, l3] [(1, b), (1, a)] S h n = mx_ex d 259 1262 [l0, l1, l2, l3] [(0, mx_cmp a b)] S h n) ∧
  (∀ (d : Nat) (a : Int) (l0 l1 l2 l3 : Option mx_V) (S h : mx_H) (n : Int), mx_ex d 259 1262 [l0, l1, l2, l3] [(0, a)] S h n = mx_br (a = 0) d 259 1653 1265 [l0, l1, l2, l3] [] S h n) ∧
  (∀ (d : Nat) (l0 l1 l2 l3 : Option mx_V) (S h : mx_H) (n : Int), mx_ex d 259 1265 [l0, l1, l2, l3] [] S h n = mx_ex d 259 1266 [l0, l1, l2, l3] [(0, 0)] S h n) ∧
  (∀ (d : Nat) (x : Int) (l0 l1 l2 l3 : Option mx_V) (S h : mx_H) (n : Int), mx_ex d 259 1266 [l0, l1, l2, l3] [(0, x)] S h n = mx_re (0 ≤ x ∧ x ≤ 1) (some (0, x)) S h n) ∧
  (∀ (d : Nat) (x : Int) (l0 l2 l3 : Option mx_V) (S h : mx_H) (n : Int), mx_ex d 259 1267 [l0, some (2, x), l2, l3] [] S h n = mx_ex d 259 1268 [l0, some (2, x), l2, l3] [(2, x)] S h n) ∧
  (∀ (d : Nat) (a : Int) (l0 l1 l2 l3 : Option mx_V) (S h : mx_H) (n : Int), mx_ex (d + 1) 259 1268 [l0, l1, l2, l3] [(2, a)] S h n = mx_cl (S a (-2) = 7) d 132 [(2, a)] 259 1271 [l0, l1, l2, l3] [] S h n) ∧
  (∀ (d : Nat) (x : Int) (l0 l1 l3 : Option mx_V) (v0 : mx_V) (S h : mx_H) (n : Int), mx_ex d 259 1271 [l0, l1, some (2, x), l3] [v0] S h n = mx_ex d 259 1272 [l0, l1, some (2, x), l3] [(2, x), v0] S h n) ∧
  (∀ (d : Nat) (a : Int) (l0 l1 l2 l3 : Option mx_V) (v1 : mx_V) (S h : mx_H) (n : Int), mx_ex (d + 1) 259 1272 [l0, l1, l2, l3] [(2, a), v1] S h n = mx_cl (S a (-2) = 13) d 226 [(2, a)] 259 1275 [l0, l1, l2, l3] [v1] S h n) ∧
  (∀ (d : Nat) (b a : Int) (l0 l1 l2 l3 : Option mx_V) (S h : mx_H) (n : Int), mx_ex d 259 1275 [l0, l1, l2, l3] [(0, b), (0, a)] S h n = mx_br (a = b) d 259 1653 1278 [l0, l1, l2, l3] [] S h n) ∧
  (∀ (d : Nat) (l0 l1 l2 l3 : Option mx_V) (S h : mx_H) (n : Int), mx_ex d 259 1278 [l0, l1, l2, l3] [] S h n = mx_ex d 259 1279 [l0, l1, l2, l3] [(0, 0)] S h n) ∧
  (∀ (d : Nat) (x : Int) (l0 l1 l2 l3 : Option mx_V) (S h : mx_H) (n : Int), mx_ex d 259 1279 [l0, l1, l2, l3] [(0, x)] S h n = mx_re (0 ≤ x ∧ x ≤ 1) (some (0, x)) S h n) ∧
  (∀ (d : Nat) (x : Int) (l0 l2 l3 : Option mx_V) (S h : mx_H) (n : Int), mx_ex d 259 1280 [l0, some (2, x), l2, l3] [] S h n = mx_ex d 259 1281 [l0, some (2, x), l2, l3] [(2, x)] S h n) ∧
  (∀ (d : Nat) (x : Int) (l1 l2 l3 : Option mx_V) (v0 : mx_V) (S h : mx_H) (n : Int), mx_ex d 259 1281 [some (2, x), l1, l2, l3] [v0] S h n = mx_ex d 259 1282 [some (2, x), l1, l2, l3] [(2, x), v0] S h n) ∧
  (∀ (d : Nat) (x : Int) (l0 l1 l2 : Option mx_V) (v0 v1 : mx_V) (S h : mx_H) (n : Int), mx_ex d 259 1282 [l0, l1, l2, some (0, x)] [v0, v1] S h n = mx_ex d 259 1283 [l0, l1, l2, some (0, x)] [(0, x), v0, v1] S h n) ∧
  (∀ (d : Nat) (l0 l1 l2 l3 : Option mx_V) (v0 v1 v2 : mx_V) (S h : mx_H) (n : Int), mx_ex d 259 1283 [l0, l1, l2, l3] [v0, v1, v2] S h n = mx_ex d 259 1284 [l0, l1, l2, l3] [(0, 1), v0, v1, v2] S h n) ∧
  (∀ (d : Nat) (b a : Int) (l0 l1 l2 l3 : Option mx_V) (v2 v3 : mx_V) (S h : mx_H) (n : Int), mx_ex d 259 1284 [l0, l1, l2, l3] [(0, b), (0, a), v2, v3] S h n = mx_ex d 259 1285 [l0, l1, l2, l3] [(0, mx_w (a + b)), v2, v3] S h n) ∧
  (∀ (d : Nat) (i a : Int) (l0 l1 l2 l3 : Option mx_V) (v2 : mx_V) (S h : mx_H) (n : Int), mx_ex d 259 1285 [l0, l1, l2, l3] [(0, i), (2, a), v2] S h n = mx_gd ((S a (-2) = 20 ∨ S a (-2) = 24) ∧ 0 ≤ i ∧ i < S a (-1)) d 259 1286 [l0, l1, l2, l3] [(0, h a i), v2] S h n) ∧
  (∀ (d : Nat) (x : Int) (l1 l2 l3 : Option mx_V) (v0 v1 : mx_V) (S h : mx_H) (n : Int), mx_ex d 259 1286 [some (2, x), l1, l2, l3] [v0, v1] S h n = mx_ex d 259 1287 [some (2, x), l1, l2, l3] [(2, x), v0, v1] S h n) ∧
  (∀ (d : Nat) (x : Int) (l0 l1 l2 : Option mx_V) (v0 v1 v2 : mx_V) (S h : mx_H) (n : Int), mx_ex d 259 1287 [l0, l1, l2, some (0, x)] [v0, v1, v2] S h n = mx_ex d 259 1288 [l0, l1, l2, some (0, x)] [(0, x), v0, v1, v2] S h n) ∧
  (∀ (d : Nat) (l0 l1 l2 l3 : Option mx_V) (v0 v1 v2 v3 : mx_V) (S h : mx_H) (n : Int), mx_ex d 259 1288 [l0, l1, l2, l3] [v0, v1, v2, v3] S h n = mx_ex d 259 1289 [l0, l1, l2, l3] [(0, 2), v0, v1, v2, v3] S h n) ∧
  (∀ (d : Nat) (b a : Int) (l0 l1 l2 l3 : Option mx_V) (v2 v3 v4 : mx_V) (S h : mx_H) (n : Int), mx_ex d 259 1289 [l0, l1, l2, l3] [(0, b), (0, a), v2, v3, v4] S h n = mx_ex d 259 1290 [l0, l1, l2, l3] [(0, mx_w (a + b)), v2, v3, v4] S h n) ∧
  (∀ (d : Nat) (i a : Int) (l0 l1 l2 l3 : Option mx_V) (v2 v3 : mx_V) (S h : mx_H) (n : Int), mx_ex d 259 1290 [l0, l1, l2, l3] [(0, i), (2, a), v2, v3] S h n = mx_gd ((S a (-2) = 20 ∨ S a (-2) = 24) ∧ 0 ≤ i ∧ i < S a (-1)) d 259 1291 [l0, l1, l2, l3] [(0, h a i), v2, v3] S h n) ∧
  (∀ (d : Nat) (x : Int) (l1 l2 l3 : Option mx_V) (v0 v1 v2 : mx_V) (S h : mx_H) (n : Int), mx_ex d 259 1291 [some (2, x), l1, l2, l3] [v0, v1, v2] S h n = mx_ex d 259 1292 [some (2, x), l1, l2, l3] [(2, x), v0, v1, v2] S h n) ∧
  (∀ (d : Nat) (x : Int) (l0 l1 l2 : Option mx_V) (v0 v1 v2 v3 : mx_V) (S h : mx_H) (n : Int), mx_ex d 259 1292 [l0, l1, l2, some (0, x)] [v0, v1, v2, v3] S h n = mx_ex d 259 1293 [l0, l1, l2, some (0, x)] [(0, x), v0, v1, v2, v3] S h n) ∧
  (∀ (d : Nat) (l0 l1 l2 l3 : Option mx_V) (v0 v1 v2 v3 v4 : mx_V) (S h : mx_H) (n : Int), mx_ex d 259 1293 [l0, l1, l2, l3] [v0, v1, v2, v3, v4] S h n = mx_ex d 259 1294 [l0, l1, l2, l3] [(0, 3), v0, v1, v2, v3, v4] S h n) ∧
  (∀ (d : Nat) (b a : Int) (l0 l1 l2 l3 : Option mx_V) (v2 v3 v4 v5 : mx_V) (S h : mx_H) (n : Int), mx_ex d 259 1294 [l0, l1, l2, l3] [(0, b), (0, a), v2, v3, v4, v5] S h n = mx_ex d 259 1295 [l0, l1, l2, l3] [(0, mx_w (a + b)), v2, v3, v4, v5] S h n) ∧
  (∀ (d : Nat) (i a : Int) (l0 l1 l2 l3 : Option mx_V) (v2 v3 v4 : mx_V) (S h : mx_H) (n : Int), mx_ex d 259 1295 [l0, l1, l2, l3] [(0, i), (2, a), v2, v3, v4] S h n = mx_gd ((S a (-2) = 20 ∨ S a (-2) = 24) ∧ 0 ≤ i ∧ i < S a (-1)) d 259 1296 [l0, l1, l2, l3] [(0, h a i), v2, v3, v4] S h n) ∧
  (∀ (d : Nat) (x : Int) (l1 l2 l3 : Option mx_V) (v0 v1 v2 v3 : mx_V) (S h : mx_H) (n : Int), mx_ex d 259 1296 [some (2, x), l1, l2, l3] [v0, v1, v2, v3] S h n = mx_ex d 259 1297 [some (2, x), l1, l2, l3] [(2, x), v0, v1, v2, v3] S h n) ∧
  (∀ (d : Nat) (x : Int) (l0 l1 l2 : Option mx_V) (v0 v1 v2 v3 v4 : mx_V) (S h : mx_H) (n : Int), mx_ex d 259 1297 [l0, l1, l2, some (0, x)] [v0, v1, v2, v3, v4] S h n = mx_ex d 259 1298 [l0, l1, l2, some (0, x)] [(0, x), v0, v1, v2, v3, v4] S h n) ∧
  (∀ (d : Nat) (l0 l1 l2 l3 : Option mx_V) (v0 v1 v2 v3 v4 v5 : mx_V) (S h : mx_H) (n : Int), mx_ex d 259 1298 [l0, l1, l2, l3] [v0, v1, v2, v3, v4, v5] S h n = mx_ex d 259 1299 [l0, l1, l2, l3] [(0, 4), v0, v1, v2, v3, v4, v5] S h n) ∧
  (∀ (d : Nat) (b a : Int) (l0 l1 l2 l3 : Option mx_V) (v2 v3 v4 v5 v6 : mx_V) (S h : mx_H) (n : Int), mx_ex d 259 1299 [l0, l1, l2, l3] [(0, b), (0, a), v2, v3, v4, v5, v6] S h n = mx_ex d 259 1300 [l0, l1, l2, l3] [(0, mx_w (a + b)), v2, v3, v4, v5, v6] S h n) ∧
  (∀ (d : Nat) (i a : Int) (l0 l1 l2 l3 : Option mx_V) (v2 v3 v4 v5 : mx_V) (S h : mx_H) (n : Int), mx_ex d 259 1300 [l0, l1, l2, l3] [(0, i), (2, a), v2, v3, v4, v5] S h n = mx_gd ((S a (-2) = 20 ∨ S a (-2) = 24) ∧ 0 ≤ i ∧ i < S a (-1)) d 259 1301 [l0, l1, l2, l3] [(0, h a i), v2, v3, v4, v5] S h n) ∧
  (∀ (d : Nat) (x0 x1 x2 x3 a : Int) (l0 l1 l2 l3 : Option mx_V) (S h : mx_H) (n : Int), mx_ex (d + 1) 259 1301 [l0, l1, l2, l3] [(0, x0), (0, x1), (0, x2), (0, x3), (2, a)] S h n = mx_cl (S a (-2) = 7) d 133 [(2, a), (0, x3), (0, x2), (0, x1), (0, x0)] 259 1304 [l0, l1, l2, l3] [] S h n) ∧
  (∀ (d : Nat) (x : Int) (l0 l1 l3 : Option mx_V) (v0 : mx_V) (S h : mx_H) (n : Int), mx_ex d 259 1304 [l0, l1, some (2, x), l3] [v0] S h n = mx_ex d 259 1305 [l0, l1, some (2, x), l3] [(2, x), v0] S h n) ∧
  (∀ (d : Nat) (x : Int) (l1 l2 l3 : Option mx_V) (v0 v1 : mx_V) (S h : mx_H) (n : Int), mx_ex d 259 1305 [some (2, x), l1, l2, l3] [v0, v1] S h n = mx_ex d 259 1306 [some (2, x), l1, l2, l3] [(2, x), v0, v1] S h n) ∧
  (∀ (d : Nat) (x : Int) (l0 l1 l2 : Option mx_V) (v0 v1 v2 : mx_V) (S h : mx_H) (n : Int), mx_ex d 259 1306 [l0, l1, l2, some (0, x)] [v0, v1, v2] S h n = mx_ex d 259 1307 [l0, l1, l2, some (0, x)] [(0, x), v0, v1, v2] S h n) ∧
  (∀ (d : Nat) (l0 l1 l2 l3 : Option mx_V) (v0 v1 v2 v3 : mx_V) (S h : mx_H) (n : Int), mx_ex d 259 1307 [l0, l1, l2, l3] [v0, v1, v2, v3] S h n = mx_ex d 259 1308 [l0, l1, l2, l3] [(0, 1), v0, v1, v2, v3] S h n) ∧
  (∀ (d : Nat) (b a : Int) (l0 l1 l2 l3 : Option mx_V) (v2 v3 v4 : mx_V) (S h : mx_H) (n : Int), mx_ex d 259 1308 [l0, l1, l2, l3] [(0, b), (0, a), v2, v3, v4] S h n = mx_ex d 259 1309 [l0, l1, l2, l3] [(0, mx_w (a + b)), v2, v3, v4] S h n) ∧
  (∀ (d : Nat) (i a : Int) (l0 l1 l2 l3 : Option mx_V) (v2 v3 : mx_V) (S h : mx_H) (n : Int), mx_ex d 259 1309 [l0, l1, l2, l3] [(0, i), (2, a), v2, v3] S h n = mx_gd ((S a (-2) = 20 ∨ S a (-2) = 24) ∧ 0 ≤ i ∧ i < S a (-1)) d 259 1310 [l0, l1, l2, l3] [(0, h a i), v2, v3] S h n) ∧
  (∀ (d : Nat) (x : Int) (l1 l2 l3 : Option mx_V) (v0 v1 v2 : mx_V) (S h : mx_H) (n : Int), mx_ex d 259 1310 [some (2, x), l1, l2, l3] [v0, v1, v2] S h n = mx_ex d 259 1311 [some (2, x), l1, l2, l3] [(2, x), v0, v1, v2] S h n) ∧
  (∀ (d : Nat) (x : Int) (l0 l1 l2 : Option mx_V) (v0 v1 v2 v3 : mx_V) (S h : mx_H) (n : Int), mx_ex d 259 1311 [l0, l1, l2, some (0, x)] [v0, v1, v2, v3] S h n = mx_ex d 259 1312 [l0, l1, l2, some (0, x)] [(0, x), v0, v1, v2, v3] S h n) ∧
  (∀ (d : Nat) (l0 l1 l2 l3 : Option mx_V) (v0 v1 v2 v3 v4 : mx_V) (S h : mx_H) (n : Int), mx_ex d 259 1312 [l0, l1, l2, l3] [v0, v1, v2, v3, v4] S h n = mx_ex d 259 1313 [l0, l1, l2, l3] [(0, 2), v0, v1, v2, v3, v4] S h n) ∧
  (∀ (d : Nat) (b a : Int) (l0 l1 l2 l3 : Option mx_V) (v2 v3 v4 v5 : mx_V) (S h : mx_H) (n : Int), mx_ex d 259 1313 [l0, l1, l2, l3] [(0, b), (0, a), v2, v3, v4, v5] S h n = mx_ex d 259 1314 [l0, l1, l2, l3] [(0, mx_w (a + b)), v2, v3, v4, v5] S h n) :=
  ⟨by intros; exact eq_ld rfl rfl,
   by intros; exact eq_push rfl,
   by intros; exact eq_i2 (o := mx_add) rfl,
   by intros; exact eq_iald rfl,
   by intros; exact eq_ld rfl rfl,
   by intros; exact eq_ld rfl rfl,
   by intros; exact eq_push rfl,
   by intros; exact eq_i2 (o := mx_add) rfl,
   by intros; exact eq_iald rfl,
   by intros; exact eq_ld rfl rfl,
   by intros; exact eq_ld rfl rfl,
   by intros; exact eq_push rfl,
   by intros; exact eq_i2 (o := mx_add) rfl,
   by intros; exact eq_iald rfl,
   by intros; exact eq_i2l rfl,
   by intros; exact eq_push rfl,
   by intros; exact eq_ls (o := ml_shl) rfl,
   by intros; exact eq_ld rfl rfl,
   by intros; exact eq_ld rfl rfl,
   by intros; exact eq_push rfl,
   by intros; exact eq_i2 (o := mx_add) rfl,
   by intros; exact eq_iald rfl,
   by intros; exact eq_i2l rfl,
   by intros; exact eq_push rfl,
   by intros; exact eq_l2 (o := ml_and) rfl,
   by intros; exact eq_l2 (o := ml_or) rfl,
   by intros; exact eq_cv rfl (Nat.le_of_ble_eq_true rfl) rfl rfl rfl (Nat.le_of_ble_eq_true rfl),
   by intros; exact eq_lcmp rfl,
   by intros; exact eq_if0 rfl,
   by intros; exact eq_push rfl,
   by intros; exact eq_rr rfl,
   by intros; exact eq_ld rfl rfl,
   by intros; exact eq_cv rfl (Nat.le_of_ble_eq_true rfl) rfl rfl rfl (Nat.le_of_ble_eq_true rfl),
   by intros; exact eq_ld rfl rfl,
   by intros; exact eq_cv rfl (Nat.le_of_ble_eq_true rfl) rfl rfl rfl (Nat.le_of_ble_eq_true rfl),
   by intros; exact eq_ic0 rfl,
   by intros; exact eq_push rfl,
   by intros; exact eq_rr rfl,
   by intros; exact eq_ld rfl rfl,
   by intros; exact eq_ld rfl rfl,
   by intros; exact eq_ld rfl rfl,
   by intros; exact eq_push rfl,
   by intros; exact eq_i2 (o := mx_add) rfl,
   by intros; exact eq_iald rfl,
   by intros; exact eq_ld rfl rfl,
   by intros; exact eq_ld rfl rfl,
   by intros; exact eq_push rfl,
   by intros; exact eq_i2 (o := mx_add) rfl,
   by intros; exact eq_iald rfl,
   by intros; exact eq_ld rfl rfl,
   by intros; exact eq_ld rfl rfl,
   by intros; exact eq_push rfl,
   by intros; exact eq_i2 (o := mx_add) rfl,
   by intros; exact eq_iald rfl,
   by intros; exact eq_ld rfl rfl,
   by intros; exact eq_ld rfl rfl,
   by intros; exact eq_push rfl,
   by intros; exact eq_i2 (o := mx_add) rfl,
   by intros; exact eq_iald rfl,
   by intros; exact eq_cv rfl (Nat.le_of_ble_eq_true rfl) rfl rfl rfl (Nat.le_of_ble_eq_true rfl),
   by intros; exact eq_ld rfl rfl,
   by intros; exact eq_ld rfl rfl,
   by intros; exact eq_ld rfl rfl,
   by intros; exact eq_push rfl,
   by intros; exact eq_i2 (o := mx_add) rfl,
   by intros; exact eq_iald rfl,
   by intros; exact eq_ld rfl rfl,
   by intros; exact eq_ld rfl rfl,
   by intros; exact eq_push rfl,
   by intros; exact eq_i2 (o := mx_add) rfl⟩
theorem rw_L_law_13 :
  (∀ (d : Nat) (i a : Int) (l0 l1 l2 l3 : Option mx_V) (v2 v3 v4 : mx_V) (S h : mx_H) (n : Int), mx_ex d 259 1314 [l0, l1, l2, l3] [(0, i), (2, a), v2, v3, v4] S h n = mx_gd ((S a (-2) = 20 ∨ S a (-2) = 24) ∧ 0 ≤ i ∧ i < S a (-1)) d 259 1315 [l0, l1, l2, l3] [(0, h a i), v2, v3, v4] S h n) ∧
  (∀ (d : Nat) (x : Int) (l1 l2 l3 : Option mx_V) (v0 v1 v2 v3 : mx_V) (S h : mx_H) (n : Int), mx_ex d 259 1315 [some (2, x), l1, l2, l3] [v0, v1, v2, v3] S h n = mx_ex d 259 1316 [some (2, x), l1, l2, l3] [(2, x), v0, v1, v2, v3] S h n) ∧
  (∀ (d : Nat) (x : Int) (l0 l1 l2 : Option mx_V) (v0 v1 v2 v3 v4 : mx_V) (S h : mx_H) (n : Int), mx_ex d 259 1316 [l0, l1, l2, some (0, x)] [v0, v1, v2, v3, v4] S h n = mx_ex d 259 1317 [l0, l1, l2, some (0, x)] [(0, x), v0, v1, v2, v3, v4] S h n) ∧
  (∀ (d : Nat) (l0 l1 l2 l3 : Option mx_V) (v0 v1 v2 v3 v4 v5 : mx_V) (S h : mx_H) (n : Int), mx_ex d 259 1317 [l0, l1, l2, l3] [v0, v1, v2, v3, v4, v5] S h n = mx_ex d 259 1318 [l0, l1, l2, l3] [(0, 3), v0, v1, v2, v3, v4, v5] S h n) ∧
  (∀ (d : Nat) (b a : Int) (l0 l1 l2 l3 : Option mx_V) (v2 v3 v4 v5 v6 : mx_V) (S h : mx_H) (n : Int), mx_ex d 259 1318 [l0, l1, l2, l3] [(0, b), (0, a), v2, v3, v4, v5, v6] S h n = mx_ex d 259 1319 [l0, l1, l2, l3] [(0, mx_w (a + b)), v2, v3, v4, v5, v6] S h n) ∧
  (∀ (d : Nat) (i a : Int) (l0 l1 l2 l3 : Option mx_V) (v2 v3 v4 v5 : mx_V) (S h : mx_H) (n : Int), mx_ex d 259 1319 [l0, l1, l2, l3] [(0, i), (2, a), v2, v3, v4, v5] S h n = mx_gd ((S a (-2) = 20 ∨ S a (-2) = 24) ∧ 0 ≤ i ∧ i < S a (-1)) d 259 1320 [l0, l1, l2, l3] [(0, h a i), v2, v3, v4, v5] S h n) ∧
  (∀ (d : Nat) (x : Int) (l1 l2 l3 : Option mx_V) (v0 v1 v2 v3 v4 : mx_V) (S h : mx_H) (n : Int), mx_ex d 259 1320 [some (2, x), l1, l2, l3] [v0, v1, v2, v3, v4] S h n = mx_ex d 259 1321 [some (2, x), l1, l2, l3] [(2, x), v0, v1, v2, v3, v4] S h n) ∧
  (∀ (d : Nat) (x : Int) (l0 l1 l2 : Option mx_V) (v0 v1 v2 v3 v4 v5 : mx_V) (S h : mx_H) (n : Int), mx_ex d 259 1321 [l0, l1, l2, some (0, x)] [v0, v1, v2, v3, v4, v5] S h n = mx_ex d 259 1322 [l0, l1, l2, some (0, x)] [(0, x), v0, v1, v2, v3, v4, v5] S h n) ∧
  (∀ (d : Nat) (l0 l1 l2 l3 : Option mx_V) (v0 v1 v2 v3 v4 v5 v6 : mx_V) (S h : mx_H) (n : Int), mx_ex d 259 1322 [l0, l1, l2, l3] [v0, v1, v2, v3, v4, v5, v6] S h n = mx_ex d 259 1323 [l0, l1, l2, l3] [(0, 4), v0, v1, v2, v3, v4, v5, v6] S h n) ∧
  (∀ (d : Nat) (b a : Int) (l0 l1 l2 l3 : Option mx_V) (v2 v3 v4 v5 v6 v7 : mx_V) (S h : mx_H) (n : Int), mx_ex d 259 1323 [l0, l1, l2, l3] [(0, b), (0, a), v2, v3, v4, v5, v6, v7] S h n = mx_ex d 259 1324 [l0, l1, l2, l3] [(0, mx_w (a + b)), v2, v3, v4, v5, v6, v7] S h n) ∧
  (∀ (d : Nat) (i a : Int) (l0 l1 l2 l3 : Option mx_V) (v2 v3 v4 v5 v6 : mx_V) (S h : mx_H) (n : Int), mx_ex d 259 1324 [l0, l1, l2, l3] [(0, i), (2, a), v2, v3, v4, v5, v6] S h n = mx_gd ((S a (-2) = 20 ∨ S a (-2) = 24) ∧ 0 ≤ i ∧ i < S a (-1)) d 259 1325 [l0, l1, l2, l3] [(0, h a i), v2, v3, v4, v5, v6] S h n) ∧
  (∀ (d : Nat) (x0 x1 x2 x3 a : Int) (l0 l1 l2 l3 : Option mx_V) (v5 : mx_V) (S h : mx_H) (n : Int), mx_ex (d + 1) 259 1325 [l0, l1, l2, l3] [(0, x0), (0, x1), (0, x2), (0, x3), (2, a), v5] S h n = mx_cl (S a (-2) = 13) d 228 [(2, a), (0, x3), (0, x2), (0, x1), (0, x0)] 259 1328 [l0, l1, l2, l3] [v5] S h n) ∧
  (∀ (d : Nat) (b a : Int) (l0 l1 l2 l3 : Option mx_V) (S h : mx_H) (n : Int), mx_ex d 259 1328 [l0, l1, l2, l3] [(0, b), (0, a)] S h n = mx_br (a = b) d 259 1653 1331 [l0, l1, l2, l3] [] S h n) ∧
  (∀ (d : Nat) (l0 l1 l2 l3 : Option mx_V) (S h : mx_H) (n : Int), mx_ex d 259 1331 [l0, l1, l2, l3] [] S h n = mx_ex d 259 1332 [l0, l1, l2, l3] [(0, 0)] S h n) ∧
  (∀ (d : Nat) (x : Int) (l0 l1 l2 l3 : Option mx_V) (S h : mx_H) (n : Int), mx_ex d 259 1332 [l0, l1, l2, l3] [(0, x)] S h n = mx_re (0 ≤ x ∧ x ≤ 1) (some (0, x)) S h n) ∧
  (∀ (d : Nat) (x : Int) (l0 l2 l3 : Option mx_V) (S h : mx_H) (n : Int), mx_ex d 259 1333 [l0, some (2, x), l2, l3] [] S h n = mx_ex d 259 1334 [l0, some (2, x), l2, l3] [(2, x)] S h n) ∧
  (∀ (d : Nat) (x : Int) (l1 l2 l3 : Option mx_V) (v0 : mx_V) (S h : mx_H) (n : Int), mx_ex d 259 1334 [some (2, x), l1, l2, l3] [v0] S h n = mx_ex d 259 1335 [some (2, x), l1, l2, l3] [(2, x), v0] S h n) ∧
  (∀ (d : Nat) (x : Int) (l0 l1 l2 : Option mx_V) (v0 v1 : mx_V) (S h : mx_H) (n : Int), mx_ex d 259 1335 [l0, l1, l2, some (0, x)] [v0, v1] S h n = mx_ex d 259 1336 [l0, l1, l2, some (0, x)] [(0, x), v0, v1] S h n) ∧
  (∀ (d : Nat) (l0 l1 l2 l3 : Option mx_V) (v0 v1 v2 : mx_V) (S h : mx_H) (n : Int), mx_ex d 259 1336 [l0, l1, l2, l3] [v0, v1, v2] S h n = mx_ex d 259 1337 [l0, l1, l2, l3] [(0, 1), v0, v1, v2] S h n) ∧
  (∀ (d : Nat) (b a : Int) (l0 l1 l2 l3 : Option mx_V) (v2 v3 : mx_V) (S h : mx_H) (n : Int), mx_ex d 259 1337 [l0, l1, l2, l3] [(0, b), (0, a), v2, v3] S h n = mx_ex d 259 1338 [l0, l1, l2, l3] [(0, mx_w (a + b)), v2, v3] S h n) ∧
  (∀ (d : Nat) (i a : Int) (l0 l1 l2 l3 : Option mx_V) (v2 : mx_V) (S h : mx_H) (n : Int), mx_ex d 259 1338 [l0, l1, l2, l3] [(0, i), (2, a), v2] S h n = mx_gd ((S a (-2) = 20 ∨ S a (-2) = 24) ∧ 0 ≤ i ∧ i < S a (-1)) d 259 1339 [l0, l1, l2, l3] [(0, h a i), v2] S h n) ∧
  (∀ (d : Nat) (x : Int) (l1 l2 l3 : Option mx_V) (v0 v1 : mx_V) (S h : mx_H) (n : Int), mx_ex d 259 1339 [some (2, x), l1, l2, l3] [v0, v1] S h n = mx_ex d 259 1340 [some (2, x), l1, l2, l3] [(2, x), v0, v1] S h n) ∧
  (∀ (d : Nat) (x : Int) (l0 l1 l2 : Option mx_V) (v0 v1 v2 : mx_V) (S h : mx_H) (n : Int), mx_ex d 259 1340 [l0, l1, l2, some (0, x)] [v0, v1, v2] S h n = mx_ex d 259 1341 [l0, l1, l2, some (0, x)] [(0, x), v0, v1, v2] S h n) ∧
  (∀ (d : Nat) (l0 l1 l2 l3 : Option mx_V) (v0 v1 v2 v3 : mx_V) (S h : mx_H) (n : Int), mx_ex d 259 1341 [l0, l1, l2, l3] [v0, v1, v2, v3] S h n = mx_ex d 259 1342 [l0, l1, l2, l3] [(0, 2), v0, v1, v2, v3] S h n) ∧
  (∀ (d : Nat) (b a : Int) (l0 l1 l2 l3 : Option mx_V) (v2 v3 v4 : mx_V) (S h : mx_H) (n : Int), mx_ex d 259 1342 [l0, l1, l2, l3] [(0, b), (0, a), v2, v3, v4] S h n = mx_ex d 259 1343 [l0, l1, l2, l3] [(0, mx_w (a + b)), v2, v3, v4] S h n) ∧
  (∀ (d : Nat) (i a : Int) (l0 l1 l2 l3 : Option mx_V) (v2 v3 : mx_V) (S h : mx_H) (n : Int), mx_ex d 259 1343 [l0, l1, l2, l3] [(0, i), (2, a), v2, v3] S h n = mx_gd ((S a (-2) = 20 ∨ S a (-2) = 24) ∧ 0 ≤ i ∧ i < S a (-1)) d 259 1344 [l0, l1, l2, l3] [(0, h a i), v2, v3] S h n) ∧
  (∀ (d : Nat) (x : Int) (l1 l2 l3 : Option mx_V) (v0 v1 v2 : mx_V) (S h : mx_H) (n : Int), mx_ex d 259 1344 [some (2, x), l1, l2, l3] [v0, v1, v2] S h n = mx_ex d 259 1345 [some (2, x), l1, l2, l3] [(2, x), v0, v1, v2] S h n) ∧
  (∀ (d : Nat) (x : Int) (l0 l1 l2 : Option mx_V) (v0 v1 v2 v3 : mx_V) (S h : mx_H) (n : Int), mx_ex d 259 1345 [l0, l1, l2, some (0, x)] [v0, v1, v2, v3] S h n = mx_ex d 259 1346 [l0, l1, l2, some (0, x)] [(0, x), v0, v1, v2, v3] S h n) ∧
  (∀ (d : Nat) (l0 l1 l2 l3 : Option mx_V) (v0 v1 v2 v3 v4 : mx_V) (S h : mx_H) (n : Int), mx_ex d 259 1346 [l0, l1, l2, l3] [v0, v1, v2, v3, v4] S h n = mx_ex d 259 1347 [l0, l1, l2, l3] [(0, 3), v0, v1, v2, v3, v4] S h n) ∧
  (∀ (d : Nat) (b a : Int) (l0 l1 l2 l3 : Option mx_V) (v2 v3 v4 v5 : mx_V) (S h : mx_H) (n : Int), mx_ex d 259 1347 [l0, l1, l2, l3] [(0, b), (0, a), v2, v3, v4, v5] S h n = mx_ex d 259 1348 [l0, l1, l2, l3] [(0, mx_w (a + b)), v2, v3, v4, v5] S h n) ∧
  (∀ (d : Nat) (i a : Int) (l0 l1 l2 l3 : Option mx_V) (v2 v3 v4 : mx_V) (S h : mx_H) (n : Int), mx_ex d 259 1348 [l0, l1, l2, l3] [(0, i), (2, a), v2, v3, v4] S h n = mx_gd ((S a (-2) = 20 ∨ S a (-2) = 24) ∧ 0 ≤ i ∧ i < S a (-1)) d 259 1349 [l0, l1, l2, l3] [(0, h a i), v2, v3, v4] S h n) ∧
  (∀ (d : Nat) (x0 x1 x2 a : Int) (l0 l1 l2 l3 : Option mx_V) (S h : mx_H) (n : Int), mx_ex (d + 1) 259 1349 [l0, l1, l2, l3] [(0, x0), (0, x1), (0, x2), (2, a)] S h n = mx_cl (S a (-2) = 7) d 134 [(2, a), (0, x2), (0, x1), (0, x0)] 259 1352 [l0, l1, l2, l3] [] S h n) ∧
  (∀ (d : Nat) (x : Int) (l0 l1 l3 : Option mx_V) (v0 : mx_V) (S h : mx_H) (n : Int), mx_ex d 259 1352 [l0, l1, some (2, x), l3] [v0] S h n = mx_ex d 259 1353 [l0, l1, some (2, x), l3] [(2, x), v0] S h n) ∧
  (∀ (d : Nat) (x : Int) (l1 l2 l3 : Option mx_V) (v0 v1 : mx_V) (S h : mx_H) (n : Int), mx_ex d 259 1353 [some (2, x), l1, l2, l3] [v0, v1] S h n = mx_ex d 259 1354 [some (2, x), l1, l2, l3] [(2, x), v0, v1] S h n) ∧
  (∀ (d : Nat) (x : Int) (l0 l1 l2 : Option mx_V) (v0 v1 v2 : mx_V) (S h : mx_H) (n : Int), mx_ex d 259 1354 [l0, l1, l2, some (0, x)] [v0, v1, v2] S h n = mx_ex d 259 1355 [l0, l1, l2, some (0, x)] [(0, x), v0, v1, v2] S h n) ∧
  (∀ (d : Nat) (l0 l1 l2 l3 : Option mx_V) (v0 v1 v2 v3 : mx_V) (S h : mx_H) (n : Int), mx_ex d 259 1355 [l0, l1, l2, l3] [v0, v1, v2, v3] S h n = mx_ex d 259 1356 [l0, l1, l2, l3] [(0, 1), v0, v1, v2, v3] S h n) ∧
  (∀ (d : Nat) (b a : Int) (l0 l1 l2 l3 : Option mx_V) (v2 v3 v4 : mx_V) (S h : mx_H) (n : Int), mx_ex d 259 1356 [l0, l1, l2, l3] [(0, b), (0, a), v2, v3, v4] S h n = mx_ex d 259 1357 [l0, l1, l2, l3] [(0, mx_w (a + b)), v2, v3, v4] S h n) ∧
  (∀ (d : Nat) (i a : Int) (l0 l1 l2 l3 : Option mx_V) (v2 v3 : mx_V) (S h : mx_H) (n : Int), mx_ex d 259 1357 [l0, l1, l2, l3] [(0, i), (2, a), v2, v3] S h n = mx_gd ((S a (-2) = 20 ∨ S a (-2) = 24) ∧ 0 ≤ i ∧ i < S a (-1)) d 259 1358 [l0, l1, l2, l3] [(0, h a i), v2, v3] S h n) ∧
  (∀ (d : Nat) (x : Int) (l1 l2 l3 : Option mx_V) (v0 v1 v2 : mx_V) (S h : mx_H) (n : Int), mx_ex d 259 1358 [some (2, x), l1, l2, l3] [v0, v1, v2] S h n = mx_ex d 259 1359 [some (2, x), l1, l2, l3] [(2, x), v0, v1, v2] S h n) ∧
  (∀ (d : Nat) (x : Int) (l0 l1 l2 : Option mx_V) (v0 v1 v2 v3 : mx_V) (S h : mx_H) (n : Int), mx_ex d 259 1359 [l0, l1, l2, some (0, x)] [v0, v1, v2, v3] S h n = mx_ex d 259 1360 [l0, l1, l2, some (0, x)] [(0, x), v0, v1, v2, v3] S h n) ∧
  (∀ (d : Nat) (l0 l1 l2 l3 : Option mx_V) (v0 v1 v2 v3 v4 : mx_V) (S h : mx_H) (n : Int), mx_ex d 259 1360 [l0, l1, l2, l3] [v0, v1, v2, v3, v4] S h n = mx_ex d 259 1361 [l0, l1, l2, l3] [(0, 2), v0, v1, v2, v3, v4] S h n) ∧
  (∀ (d : Nat) (b a : Int) (l0 l1 l2 l3 : Option mx_V) (v2 v3 v4 v5 : mx_V) (S h : mx_H) (n : Int), mx_ex d 259 1361 [l0, l1, l2, l3] [(0, b), (0, a), v2, v3, v4, v5] S h n = mx_ex d 259 1362 [l0, l1, l2, l3] [(0, mx_w (a + b)), v2, v3, v4, v5] S h n) ∧
  (∀ (d : Nat) (i a : Int) (l0 l1 l2 l3 : Option mx_V) (v2 v3 v4 : mx_V) (S h : mx_H) (n : Int), mx_ex d 259 1362 [l0, l1, l2, l3] [(0, i), (2, a), v2, v3, v4] S h n = mx_gd ((S a (-2) = 20 ∨ S a (-2) = 24) ∧ 0 ≤ i ∧ i < S a (-1)) d 259 1363 [l0, l1, l2, l3] [(0, h a i), v2, v3, v4] S h n) ∧
  (∀ (d : Nat) (x : Int) (l1 l2 l3 : Option mx_V) (v0 v1 v2 v3 : mx_V) (S h : mx_H) (n : Int), mx_ex d 259 1363 [some (2, x), l1, l2, l3] [v0, v1, v2, v3] S h n = mx_ex d 259 1364 [some (2, x), l1, l2, l3] [(2, x), v0, v1, v2, v3] S h n) ∧
  (∀ (d : Nat) (x : Int) (l0 l1 l2 : Option mx_V) (v0 v1 v2 v3 v4 : mx_V) (S h : mx_H) (n : Int), mx_ex d 259 1364 [l0, l1, l2, some (0, x)] [v0, v1, v2, v3, v4] S h n = mx_ex d 259 1365 [l0, l1, l2, some (0, x)] [(0, x), v0, v1, v2, v3, v4] S h n) ∧
  (∀ (d : Nat) (l0 l1 l2 l3 : Option mx_V) (v0 v1 v2 v3 v4 v5 : mx_V) (S h : mx_H) (n : Int), mx_ex d 259 1365 [l0, l1, l2, l3] [v0, v1, v2, v3, v4, v5] S h n = mx_ex d 259 1366 [l0, l1, l2, l3] [(0, 3), v0, v1, v2, v3, v4, v5] S h n) ∧
  (∀ (d : Nat) (b a : Int) (l0 l1 l2 l3 : Option mx_V) (v2 v3 v4 v5 v6 : mx_V) (S h : mx_H) (n : Int), mx_ex d 259 1366 [l0, l1, l2, l3] [(0, b), (0, a), v2, v3, v4, v5, v6] S h n = mx_ex d 259 1367 [l0, l1, l2, l3] [(0, mx_w (a + b)), v2, v3, v4, v5, v6] S h n) ∧
  (∀ (d : Nat) (i a : Int) (l0 l1 l2 l3 : Option mx_V) (v2 v3 v4 v5 : mx_V) (S h : mx_H) (n : Int), mx_ex d 259 1367 [l0, l1, l2, l3] [(0, i), (2, a), v2, v3, v4, v5] S h n = mx_gd ((S a (-2) = 20 ∨ S a (-2) = 24) ∧ 0 ≤ i ∧ i < S a (-1)) d 259 1368 [l0, l1, l2, l3] [(0, h a i), v2, v3, v4, v5] S h n) ∧
  (∀ (d : Nat) (x0 x1 x2 a : Int) (l0 l1 l2 l3 : Option mx_V) (v4 : mx_V) (S h : mx_H) (n : Int), mx_ex (d + 1) 259 1368 [l0, l1, l2, l3] [(0, x0), (0, x1), (0, x2), (2, a), v4] S h n = mx_cl (S a (-2) = 13) d 229 [(2, a), (0, x2), (0, x1), (0, x0)] 259 1371 [l0, l1, l2, l3] [v4] S h n) ∧
  (∀ (d : Nat) (b a : Int) (l0 l1 l2 l3 : Option mx_V) (S h : mx_H) (n : Int), mx_ex d 259 1371 [l0, l1, l2, l3] [(0, b), (0, a)] S h n = mx_br (a = b) d 259 1653 1374 [l0, l1, l2, l3] [] S h n) ∧
  (∀ (d : Nat) (l0 l1 l2 l3 : Option mx_V) (S h : mx_H) (n : Int), mx_ex d 259 1374 [l0, l1, l2, l3] [] S h n = mx_ex d 259 1375 [l0, l1, l2, l3] [(0, 0)] S h n) ∧
  (∀ (d : Nat) (x : Int) (l0 l1 l2 l3 : Option mx_V) (S h : mx_H) (n : Int), mx_ex d 259 1375 [l0, l1, l2, l3] [(0, x)] S h n = mx_re (0 ≤ x ∧ x ≤ 1) (some (0, x)) S h n) ∧
  (∀ (d : Nat) (x : Int) (l0 l2 l3 : Option mx_V) (S h : mx_H) (n : Int), mx_ex d 259 1376 [l0, some (2, x), l2, l3] [] S h n = mx_ex d 259 1377 [l0, some (2, x), l2, l3] [(2, x)] S h n) ∧
  (∀ (d : Nat) (x : Int) (l1 l2 l3 : Option mx_V) (v0 : mx_V) (S h : mx_H) (n : Int), mx_ex d 259 1377 [some (2, x), l1, l2, l3] [v0] S h n = mx_ex d 259 1378 [some (2, x), l1, l2, l3] [(2, x), v0] S h n) ∧
  (∀ (d : Nat) (x : Int) (l0 l1 l2 : Option mx_V) (v0 v1 : mx_V) (S h : mx_H) (n : Int), mx_ex d 259 1378 [l0, l1, l2, some (0, x)] [v0, v1] S h n = mx_ex d 259 1379 [l0, l1, l2, some (0, x)] [(0, x), v0, v1] S h n) ∧
  (∀ (d : Nat) (l0 l1 l2 l3 : Option mx_V) (v0 v1 v2 : mx_V) (S h : mx_H) (n : Int), mx_ex d 259 1379 [l0, l1, l2, l3] [v0, v1, v2] S h n = mx_ex d 259 1380 [l0, l1, l2, l3] [(0, 1), v0, v1, v2] S h n) ∧
  (∀ (d : Nat) (b a : Int) (l0 l1 l2 l3 : Option mx_V) (v2 v3 : mx_V) (S h : mx_H) (n : Int), mx_ex d 259 1380 [l0, l1, l2, l3] [(0, b), (0, a), v2, v3] S h n = mx_ex d 259 1381 [l0, l1, l2, l3] [(0, mx_w (a + b)), v2, v3] S h n) ∧
  (∀ (d : Nat) (i a : Int) (l0 l1 l2 l3 : Option mx_V) (v2 : mx_V) (S h : mx_H) (n : Int), mx_ex d 259 1381 [l0, l1, l2, l3] [(0, i), (2, a), v2] S h n = mx_gd ((S a (-2) = 20 ∨ S a (-2) = 24) ∧ 0 ≤ i ∧ i < S a (-1)) d 259 1382 [l0, l1, l2, l3] [(0, h a i), v2] S h n) ∧
  (∀ (d : Nat) (x : Int) (l1 l2 l3 : Option mx_V) (v0 v1 : mx_V) (S h : mx_H) (n : Int), mx_ex d 259 1382 [some (2, x), l1, l2, l3] [v0, v1] S h n = mx_ex d 259 1383 [some (2, x), l1, l2, l3] [(2, x), v0, v1] S h n) ∧
  (∀ (d : Nat) (x : Int) (l0 l1 l2 : Option mx_V) (v0 v1 v2 : mx_V) (S h : mx_H) (n : Int), mx_ex d 259 1383 [l0, l1, l2, some (0, x)] [v0, v1, v2] S h n = mx_ex d 259 1384 [l0, l1, l2, some (0, x)] [(0, x), v0, v1, v2] S h n) ∧
  (∀ (d : Nat) (l0 l1 l2 l3 : Option mx_V) (v0 v1 v2 v3 : mx_V) (S h : mx_H) (n : Int), mx_ex d 259 1384 [l0, l1, l2, l3] [v0, v1, v2, v3] S h n = mx_ex d 259 1385 [l0, l1, l2, l3] [(0, 2), v0, v1, v2, v3] S h n) ∧
  (∀ (d : Nat) (b a : Int) (l0 l1 l2 l3 : Option mx_V) (v2 v3 v4 : mx_V) (S h : mx_H) (n : Int), mx_ex d 259 1385 [l0, l1, l2, l3] [(0, b), (0, a), v2, v3, v4] S h n = mx_ex d 259 1386 [l0, l1, l2, l3] [(0, mx_w (a + b)), v2, v3, v4] S h n) ∧
  (∀ (d : Nat) (i a : Int) (l0 l1 l2 l3 : Option mx_V) (v2 v3 : mx_V) (S h : mx_H) (n : Int), mx_ex d 259 1386 [l0, l1, l2, l3] [(0, i), (2, a), v2, v3] S h n = mx_gd ((S a (-2) = 20 ∨ S a (-2) = 24) ∧ 0 ≤ i ∧ i < S a (-1)) d 259 1387 [l0, l1, l2, l3] [(0, h a i), v2, v3] S h n) ∧
  (∀ (d : Nat) (x : Int) (l1 l2 l3 : Option mx_V) (v0 v1 v2 : mx_V) (S h : mx_H) (n : Int), mx_ex d 259 1387 [some (2, x), l1, l2, l3] [v0, v1, v2] S h n = mx_ex d 259 1388 [some (2, x), l1, l2, l3] [(2, x), v0, v1, v2] S h n) ∧
  (∀ (d : Nat) (x : Int) (l0 l1 l2 : Option mx_V) (v0 v1 v2 v3 : mx_V) (S h : mx_H) (n : Int), mx_ex d 259 1388 [l0, l1, l2, some (0, x)] [v0, v1, v2, v3] S h n = mx_ex d 259 1389 [l0, l1, l2, some (0, x)] [(0, x), v0, v1, v2, v3] S h n) ∧
  (∀ (d : Nat) (l0 l1 l2 l3 : Option mx_V) (v0 v1 v2 v3 v4 : mx_V) (S h : mx_H) (n : Int), mx_ex d 259 1389 [l0, l1, l2, l3] [v0, v1, v2, v3, v4] S h n = mx_ex d 259 1390 [l0, l1, l2, l3] [(0, 3), v0, v1, v2, v3, v4] S h n) ∧
  (∀ (d : Nat) (b a : Int) (l0 l1 l2 l3 : Option mx_V) (v2 v3 v4 v5 : mx_V) (S h : mx_H) (n : Int), mx_ex d 259 1390 [l0, l1, l2, l3] [(0, b), (0, a), v2, v3, v4, v5] S h n = mx_ex d 259 1391 [l0, l1, l2, l3] [(0, mx_w (a + b)), v2, v3, v4, v5] S h n) ∧
  (∀ (d : Nat) (i a : Int) (l0 l1 l2 l3 : Option mx_V) (v2 v3 v4 : mx_V) (S h : mx_H) (n : Int), mx_ex d 259 1391 [l0, l1, l2, l3] [(0, i), (2, a), v2, v3, v4] S h n = mx_gd ((S a (-2) = 20 ∨ S a (-2) = 24) ∧ 0 ≤ i ∧ i < S a (-1)) d 259 1392 [l0, l1, l2, l3] [(0, h a i), v2, v3, v4] S h n) ∧
  (∀ (d : Nat) (x0 x1 x2 a : Int) (l0 l1 l2 l3 : Option mx_V) (S h : mx_H) (n : Int), mx_ex (d + 1) 259 1392 [l0, l1, l2, l3] [(0, x0), (0, x1), (0, x2), (2, a)] S h n = mx_cl (S a (-2) = 7) d 135 [(2, a), (0, x2), (0, x1), (0, x0)] 259 1395 [l0, l1, l2, l3] [] S h n) ∧
  (∀ (d : Nat) (x : Int) (l0 l1 l3 : Option mx_V) (v0 : mx_V) (S h : mx_H) (n : Int), mx_ex d 259 1395 [l0, l1, some (2, x), l3] [v0] S h n = mx_ex d 259 1396 [l0, l1, some (2, x), l3] [(2, x), v0] S h n) :=
  ⟨by intros; exact eq_iald rfl,
   by intros; exact eq_ld rfl rfl,
   by intros; exact eq_ld rfl rfl,
   by intros; exact eq_push rfl,
   by intros; exact eq_i2 (o := mx_add) rfl,
   by intros; exact eq_iald rfl,
   by intros; exact eq_ld rfl rfl,
   by intros; exact eq_ld rfl rfl,
   by intros; exact eq_push rfl,
   by intros; exact eq_i2 (o := mx_add) rfl,
   by intros; exact eq_iald rfl,
   by intros; exact eq_cv rfl (Nat.le_of_ble_eq_true rfl) rfl rfl rfl (Nat.le_of_ble_eq_true rfl),
   by intros; exact eq_ic0 rfl,
   by intros; exact eq_push rfl,
   by intros; exact eq_rr rfl,
   by intros; exact eq_ld rfl rfl,
   by intros; exact eq_ld rfl rfl,
   by intros; exact eq_ld rfl rfl,
   by intros; exact eq_push rfl,
   by intros; exact eq_i2 (o := mx_add) rfl,
   by intros; exact eq_iald rfl,
   by intros; exact eq_ld rfl rfl,
   by intros; exact eq_ld rfl rfl,
   by intros; exact eq_push rfl,
   by intros; exact eq_i2 (o := mx_add) rfl,
   by intros; exact eq_iald rfl,
   by intros; exact eq_ld rfl rfl,
   by intros; exact eq_ld rfl rfl,
   by intros; exact eq_push rfl,
   by intros; exact eq_i2 (o := mx_add) rfl,
   by intros; exact eq_iald rfl,
   by intros; exact eq_cv rfl (Nat.le_of_ble_eq_true rfl) rfl rfl rfl (Nat.le_of_ble_eq_true rfl),
   by intros; exact eq_ld rfl rfl,
   by intros; exact eq_ld rfl rfl,
   by intros; exact eq_ld rfl rfl,
   by intros; exact eq_push rfl,
   by intros; exact eq_i2 (o := mx_add) rfl,
   by intros; exact eq_iald rfl,
   by intros; exact eq_ld rfl rfl,
   by intros; exact eq_ld rfl rfl,
   by intros; exact eq_push rfl,
   by intros; exact eq_i2 (o := mx_add) rfl,
   by intros; exact eq_iald rfl,
   by intros; exact eq_ld rfl rfl,
   by intros; exact eq_ld rfl rfl,
   by intros; exact eq_push rfl,
   by intros; exact eq_i2 (o := mx_add) rfl,
   by intros; exact eq_iald rfl,
   by intros; exact eq_cv rfl (Nat.le_of_ble_eq_true rfl) rfl rfl rfl (Nat.le_of_ble_eq_true rfl),
   by intros; exact eq_ic0 rfl,
   by intros; exact eq_push rfl,
   by intros; exact eq_rr rfl,
   by intros; exact eq_ld rfl rfl,
   by intros; exact eq_ld rfl rfl,
   by intros; exact eq_ld rfl rfl,
   by intros; exact eq_push rfl,
   by intros; exact eq_i2 (o := mx_add) rfl,
   by intros; exact eq_iald rfl,
   by intros; exact eq_ld rfl rfl,
   by intros; exact eq_ld rfl rfl,
   by intros; exact eq_push rfl,
   by intros; exact eq_i2 (o := mx_add) rfl,
   by intros; exact eq_iald rfl,
   by intros; exact eq_ld rfl rfl,
   by intros; exact eq_ld rfl rfl,
   by intros; exact eq_push rfl,
   by intros; exact eq_i2 (o := mx_add) rfl,
   by intros; exact eq_iald rfl,
   by intros; exact eq_cv rfl (Nat.le_of_ble_eq_true rfl) rfl rfl rfl (Nat.le_of_ble_eq_true rfl),
   by intros; exact eq_ld rfl rfl⟩
theorem rw_L_law_14 :
  (∀ (d : Nat) (x : Int) (l1 l2 l3 : Option mx_V) (v0 v1 : mx_V) (S h : mx_H) (n : Int), mx_ex d 259 1396 [some (2, x), l1, l2, l3] [v0, v1] S h n = mx_ex d 259 1397 [some (2, x), l1, l2, l3] [(2, x), v0, v1] S h n) ∧
  (∀ (d : Nat) (x : Int) (l0 l1 l2 : Option mx_V) (v0 v1 v2 : mx_V) (S h : mx_H) (n : Int), mx_ex d 259 1397 [l0, l1, l2, some (0, x)] [v0, v1, v2] S h n = mx_ex d 259 1398 [l0, l1, l2, some (0, x)] [(0, x), v0, v1, v2] S h n) ∧
  (∀ (d : Nat) (l0 l1 l2 l3 : Option mx_V) (v0 v1 v2 v3 : mx_V) (S h : mx_H) (n : Int), mx_ex d 259 1398 [l0, l1, l2, l3] [v0, v1, v2, v3] S h n = mx_ex d 259 1399 [l0, l1, l2, l3] [(0, 1), v0, v1, v2, v3] S h n) ∧
  (∀ (d : Nat) (b a : Int) (l0 l1 l2 l3 : Option mx_V) (v2 v3 v4 : mx_V) (S h : mx_H) (n : Int), mx_ex d 259 1399 [l0, l1, l2, l3] [(0, b), (0, a), v2, v3, v4] S h n = mx_ex d 259 1400 [l0, l1, l2, l3] [(0, mx_w (a + b)), v2, v3, v4] S h n) ∧
  (∀ (d : Nat) (i a : Int) (l0 l1 l2 l3 : Option mx_V) (v2 v3 : mx_V) (S h : mx_H) (n : Int), mx_ex d 259 1400 [l0, l1, l2, l3] [(0, i), (2, a), v2, v3] S h n = mx_gd ((S a (-2) = 20 ∨ S a (-2) = 24) ∧ 0 ≤ i ∧ i < S a (-1)) d 259 1401 [l0, l1, l2, l3] [(0, h a i), v2, v3] S h n) ∧
  (∀ (d : Nat) (x : Int) (l1 l2 l3 : Option mx_V) (v0 v1 v2 : mx_V) (S h : mx_H) (n : Int), mx_ex d 259 1401 [some (2, x), l1, l2, l3] [v0, v1, v2] S h n = mx_ex d 259 1402 [some (2, x), l1, l2, l3] [(2, x), v0, v1, v2] S h n) ∧
  (∀ (d : Nat) (x : Int) (l0 l1 l2 : Option mx_V) (v0 v1 v2 v3 : mx_V) (S h : mx_H) (n : Int), mx_ex d 259 1402 [l0, l1, l2, some (0, x)] [v0, v1, v2, v3] S h n = mx_ex d 259 1403 [l0, l1, l2, some (0, x)] [(0, x), v0, v1, v2, v3] S h n) ∧
  (∀ (d : Nat) (l0 l1 l2 l3 : Option mx_V) (v0 v1 v2 v3 v4 : mx_V) (S h : mx_H) (n : Int), mx_ex d 259 1403 [l0, l1, l2, l3] [v0, v1, v2, v3, v4] S h n = mx_ex d 259 1404 [l0, l1, l2, l3] [(0, 2), v0, v1, v2, v3, v4] S h n) ∧
  (∀ (d : Nat) (b a : Int) (l0 l1 l2 l3 : Option mx_V) (v2 v3 v4 v5 : mx_V) (S h : mx_H) (n : Int), mx_ex d 259 1404 [l0, l1, l2, l3] [(0, b), (0, a), v2, v3, v4, v5] S h n = mx_ex d 259 1405 [l0, l1, l2, l3] [(0, mx_w (a + b)), v2, v3, v4, v5] S h n) ∧
  (∀ (d : Nat) (i a : Int) (l0 l1 l2 l3 : Option mx_V) (v2 v3 v4 : mx_V) (S h : mx_H) (n : Int), mx_ex d 259 1405 [l0, l1, l2, l3] [(0, i), (2, a), v2, v3, v4] S h n = mx_gd ((S a (-2) = 20 ∨ S a (-2) = 24) ∧ 0 ≤ i ∧ i < S a (-1)) d 259 1406 [l0, l1, l2, l3] [(0, h a i), v2, v3, v4] S h n) ∧
  (∀ (d : Nat) (x : Int) (l1 l2 l3 : Option mx_V) (v0 v1 v2 v3 : mx_V) (S h : mx_H) (n : Int), mx_ex d 259 1406 [some (2, x), l1, l2, l3] [v0, v1, v2, v3] S h n = mx_ex d 259 1407 [some (2, x), l1, l2, l3] [(2, x), v0, v1, v2, v3] S h n) ∧
  (∀ (d : Nat) (x : Int) (l0 l1 l2 : Option mx_V) (v0 v1 v2 v3 v4 : mx_V) (S h : mx_H) (n : Int), mx_ex d 259 1407 [l0, l1, l2, some (0, x)] [v0, v1, v2, v3, v4] S h n = mx_ex d 259 1408 [l0, l1, l2, some (0, x)] [(0, x), v0, v1, v2, v3, v4] S h n) ∧
  (∀ (d : Nat) (l0 l1 l2 l3 : Option mx_V) (v0 v1 v2 v3 v4 v5 : mx_V) (S h : mx_H) (n : Int), mx_ex d 259 1408 [l0, l1, l2, l3] [v0, v1, v2, v3, v4, v5] S h n = mx_ex d 259 1409 [l0, l1, l2, l3] [(0, 3), v0, v1, v2, v3, v4, v5] S h n) ∧
  (∀ (d : Nat) (b a : Int) (l0 l1 l2 l3 : Option mx_V) (v2 v3 v4 v5 v6 : mx_V) (S h : mx_H) (n : Int), mx_ex d 259 1409 [l0, l1, l2, l3] [(0, b), (0, a), v2, v3, v4, v5, v6] S h n = mx_ex d 259 1410 [l0, l1, l2, l3] [(0, mx_w (a + b)), v2, v3, v4, v5, v6] S h n) ∧
  (∀ (d : Nat) (i a : Int) (l0 l1 l2 l3 : Option mx_V) (v2 v3 v4 v5 : mx_V) (S h : mx_H) (n : Int), mx_ex d 259 1410 [l0, l1, l2, l3] [(0, i), (2, a), v2, v3, v4, v5] S h n = mx_gd ((S a (-2) = 20 ∨ S a (-2) = 24) ∧ 0 ≤ i ∧ i < S a (-1)) d 259 1411 [l0, l1, l2, l3] [(0, h a i), v2, v3, v4, v5] S h n) ∧
  (∀ (d : Nat) (x0 x1 x2 a : Int) (l0 l1 l2 l3 : Option mx_V) (v4 : mx_V) (S h : mx_H) (n : Int), mx_ex (d + 1) 259 1411 [l0, l1, l2, l3] [(0, x0), (0, x1), (0, x2), (2, a), v4] S h n = mx_cl (S a (-2) = 13) d 231 [(2, a), (0, x2), (0, x1), (0, x0)] 259 1414 [l0, l1, l2, l3] [v4] S h n) ∧
  (∀ (d : Nat) (b a : Int) (l0 l1 l2 l3 : Option mx_V) (S h : mx_H) (n : Int), mx_ex d 259 1414 [l0, l1, l2, l3] [(0, b), (0, a)] S h n = mx_br (a = b) d 259 1653 1417 [l0, l1, l2, l3] [] S h n) ∧
  (∀ (d : Nat) (l0 l1 l2 l3 : Option mx_V) (S h : mx_H) (n : Int), mx_ex d 259 1417 [l0, l1, l2, l3] [] S h n = mx_ex d 259 1418 [l0, l1, l2, l3] [(0, 0)] S h n) ∧
  (∀ (d : Nat) (x : Int) (l0 l1 l2 l3 : Option mx_V) (S h : mx_H) (n : Int), mx_ex d 259 1418 [l0, l1, l2, l3] [(0, x)] S h n = mx_re (0 ≤ x ∧ x ≤ 1) (some (0, x)) S h n) ∧
  (∀ (d : Nat) (x : Int) (l0 l2 l3 : Option mx_V) (S h : mx_H) (n : Int), mx_ex d 259 1419 [l0, some (2, x), l2, l3] [] S h n = mx_ex d 259 1420 [l0, some (2, x), l2, l3] [(2, x)] S h n) ∧
  (∀ (d : Nat) (x : Int) (l1 l2 l3 : Option mx_V) (v0 : mx_V) (S h : mx_H) (n : Int), mx_ex d 259 1420 [some (2, x), l1, l2, l3] [v0] S h n = mx_ex d 259 1421 [some (2, x), l1, l2, l3] [(2, x), v0] S h n) ∧
  (∀ (d : Nat) (x : Int) (l0 l1 l2 : Option mx_V) (v0 v1 : mx_V) (S h : mx_H) (n : Int), mx_ex d 259 1421 [l0, l1, l2, some (0, x)] [v0, v1] S h n = mx_ex d 259 1422 [l0, l1, l2, some (0, x)] [(0, x), v0, v1] S h n) ∧
  (∀ (d : Nat) (l0 l1 l2 l3 : Option mx_V) (v0 v1 v2 : mx_V) (S h : mx_H) (n : Int), mx_ex d 259 1422 [l0, l1, l2, l3] [v0, v1, v2] S h n = mx_ex d 259 1423 [l0, l1, l2, l3] [(0, 1), v0, v1, v2] S h n) ∧
  (∀ (d : Nat) (b a : Int) (l0 l1 l2 l3 : Option mx_V) (v2 v3 : mx_V) (S h : mx_H) (n : Int), mx_ex d 259 1423 [l0, l1, l2, l3] [(0, b), (0, a), v2, v3] S h n = mx_ex d 259 1424 [l0, l1, l2, l3] [(0, mx_w (a + b)), v2, v3] S h n) ∧
  (∀ (d : Nat) (i a : Int) (l0 l1 l2 l3 : Option mx_V) (v2 : mx_V) (S h : mx_H) (n : Int), mx_ex d 259 1424 [l0, l1, l2, l3] [(0, i), (2, a), v2] S h n = mx_gd ((S a (-2) = 20 ∨ S a (-2) = 24) ∧ 0 ≤ i ∧ i < S a (-1)) d 259 1425 [l0, l1, l2, l3] [(0, h a i), v2] S h n) ∧
  (∀ (d : Nat) (x : Int) (l1 l2 l3 : Option mx_V) (v0 v1 : mx_V) (S h : mx_H) (n : Int), mx_ex d 259 1425 [some (2, x), l1, l2, l3] [v0, v1] S h n = mx_ex d 259 1426 [some (2, x), l1, l2, l3] [(2, x), v0, v1] S h n) ∧
  (∀ (d : Nat) (x : Int) (l0 l1 l2 : Option mx_V) (v0 v1 v2 : mx_V) (S h : mx_H) (n : Int), mx_ex d 259 1426 [l0, l1, l2, some (0, x)] [v0, v1, v2] S h n = mx_ex d 259 1427 [l0, l1, l2, some (0, x)] [(0, x), v0, v1, v2] S h n) ∧
  (∀ (d : Nat) (l0 l1 l2 l3 : Option mx_V) (v0 v1 v2 v3 : mx_V) (S h : mx_H) (n : Int), mx_ex d 259 1427 [l0, l1, l2, l3] [v0, v1, v2, v3] S h n = mx_ex d 259 1428 [l0, l1, l2, l3] [(0, 2), v0, v1, v2, v3] S h n) ∧
  (∀ (d : Nat) (b a : Int) (l0 l1 l2 l3 : Option mx_V) (v2 v3 v4 : mx_V) (S h : mx_H) (n : Int), mx_ex d 259 1428 [l0, l1, l2, l3] [(0, b), (0, a), v2, v3, v4] S h n = mx_ex d 259 1429 [l0, l1, l2, l3] [(0, mx_w (a + b)), v2, v3, v4] S h n) ∧
  (∀ (d : Nat) (i a : Int) (l0 l1 l2 l3 : Option mx_V) (v2 v3 : mx_V) (S h : mx_H) (n : Int), mx_ex d 259 1429 [l0, l1, l2, l3] [(0, i), (2, a), v2, v3] S h n = mx_gd ((S a (-2) = 20 ∨ S a (-2) = 24) ∧ 0 ≤ i ∧ i < S a (-1)) d 259 1430 [l0, l1, l2, l3] [(0, h a i), v2, v3] S h n) ∧
  (∀ (d : Nat) (x : Int) (l1 l2 l3 : Option mx_V) (v0 v1 v2 : mx_V) (S h : mx_H) (n : Int), mx_ex d 259 1430 [some (2, x), l1, l2, l3] [v0, v1, v2] S h n = mx_ex d 259 1431 [some (2, x), l1, l2, l3] [(2, x), v0, v1, v2] S h n) ∧
  (∀ (d : Nat) (x : Int) (l0 l1 l2 : Option mx_V) (v0 v1 v2 v3 : mx_V) (S h : mx_H) (n : Int), mx_ex d 259 1431 [l0, l1, l2, some (0, x)] [v0, v1, v2, v3] S h n = mx_ex d 259 1432 [l0, l1, l2, some (0, x)] [(0, x), v0, v1, v2, v3] S h n) ∧
  (∀ (d : Nat) (l0 l1 l2 l3 : Option mx_V) (v0 v1 v2 v3 v4 : mx_V) (S h : mx_H) (n : Int), mx_ex d 259 1432 [l0, l1, l2, l3] [v0, v1, v2, v3, v4] S h n = mx_ex d 259 1433 [l0, l1, l2, l3] [(0, 3), v0, v1, v2, v3, v4] S h n) ∧
  (∀ (d : Nat) (b a : Int) (l0 l1 l2 l3 : Option mx_V) (v2 v3 v4 v5 : mx_V) (S h : mx_H) (n : Int), mx_ex d 259 1433 [l0, l1, l2, l3] [(0, b), (0, a), v2, v3, v4, v5] S h n = mx_ex d 259 1434 [l0, l1, l2, l3] [(0, mx_w (a + b)), v2, v3, v4, v5] S h n) ∧
  (∀ (d : Nat) (i a : Int) (l0 l1 l2 l3 : Option mx_V) (v2 v3 v4 : mx_V) (S h : mx_H) (n : Int), mx_ex d 259 1434 [l0, l1, l2, l3] [(0, i), (2, a), v2, v3, v4] S h n = mx_gd ((S a (-2) = 20 ∨ S a (-2) = 24) ∧ 0 ≤ i ∧ i < S a (-1)) d 259 1435 [l0, l1, l2, l3] [(0, h a i), v2, v3, v4] S h n) ∧
  (∀ (d : Nat) (x0 x1 x2 a : Int) (l0 l1 l2 l3 : Option mx_V) (S h : mx_H) (n : Int), mx_ex (d + 1) 259 1435 [l0, l1, l2, l3] [(0, x0), (0, x1), (0, x2), (2, a)] S h n = mx_cl (S a (-2) = 7) d 136 [(2, a), (0, x2), (0, x1), (0, x0)] 259 1438 [l0, l1, l2, l3] [] S h n) ∧
  (∀ (d : Nat) (x : Int) (l0 l1 l3 : Option mx_V) (v0 : mx_V) (S h : mx_H) (n : Int), mx_ex d 259 1438 [l0, l1, some (2, x), l3] [v0] S h n = mx_ex d 259 1439 [l0, l1, some (2, x), l3] [(2, x), v0] S h n) ∧
  (∀ (d : Nat) (x : Int) (l1 l2 l3 : Option mx_V) (v0 v1 : mx_V) (S h : mx_H) (n : Int), mx_ex d 259 1439 [some (2, x), l1, l2, l3] [v0, v1] S h n = mx_ex d 259 1440 [some (2, x), l1, l2, l3] [(2, x), v0, v1] S h n) ∧
  (∀ (d : Nat) (x : Int) (l0 l1 l2 : Option mx_V) (v0 v1 v2 : mx_V) (S h : mx_H) (n : Int), mx_ex d 259 1440 [l0, l1, l2, some (0, x)] [v0, v1, v2] S h n = mx_ex d 259 1441 [l0, l1, l2, some (0, x)] [(0, x), v0, v1, v2] S h n) ∧
  (∀ (d : Nat) (l0 l1 l2 l3 : Option mx_V) (v0 v1 v2 v3 : mx_V) (S h : mx_H) (n : Int), mx_ex d 259 1441 [l0, l1, l2, l3] [v0, v1, v2, v3] S h n = mx_ex d 259 1442 [l0, l1, l2, l3] [(0, 1), v0, v1, v2, v3] S h n) ∧
  (∀ (d : Nat) (b a : Int) (l0 l1 l2 l3 : Option mx_V) (v2 v3 v4 : mx_V) (S h : mx_H) (n : Int), mx_ex d 259 1442 [l0, l1, l2, l3] [(0, b), (0, a), v2, v3, v4] S h n = mx_ex d 259 1443 [l0, l1, l2, l3] [(0, mx_w (a + b)), v2, v3, v4] S h n) ∧
  (∀ (d : Nat) (i a : Int) (l0 l1 l2 l3 : Option mx_V) (v2 v3 : mx_V) (S h : mx_H) (n : Int), mx_ex d 259 1443 [l0, l1, l2, l3] [(0, i), (2, a), v2, v3] S h n = mx_gd ((S a (-2) = 20 ∨ S a (-2) = 24) ∧ 0 ≤ i ∧ i < S a (-1)) d 259 1444 [l0, l1, l2, l3] [(0, h a i), v2, v3] S h n) ∧
  (∀ (d : Nat) (x : Int) (l1 l2 l3 : Option mx_V) (v0 v1 v2 : mx_V) (S h : mx_H) (n : Int), mx_ex d 259 1444 [some (2, x), l1, l2, l3] [v0, v1, v2] S h n = mx_ex d 259 1445 [some (2, x), l1, l2, l3] [(2, x), v0, v1, v2] S h n) ∧
  (∀ (d : Nat) (x : Int) (l0 l1 l2 : Option mx_V) (v0 v1 v2 v3 : mx_V) (S h : mx_H) (n : Int), mx_ex d 259 1445 [l0, l1, l2, some (0, x)] [v0, v1, v2, v3] S h n = mx_ex d 259 1446 [l0, l1, l2, some (0, x)] [(0, x), v0, v1, v2, v3] S h n) ∧
  (∀ (d : Nat) (l0 l1 l2 l3 : Option mx_V) (v0 v1 v2 v3 v4 : mx_V) (S h : mx_H) (n : Int), mx_ex d 259 1446 [l0, l1, l2, l3] [v0, v1, v2, v3, v4] S h n = mx_ex d 259 1447 [l0, l1, l2, l3] [(0, 2), v0, v1, v2, v3, v4] S h n) ∧
  (∀ (d : Nat) (b a : Int) (l0 l1 l2 l3 : Option mx_V) (v2 v3 v4 v5 : mx_V) (S h : mx_H) (n : Int), mx_ex d 259 1447 [l0, l1, l2, l3] [(0, b), (0, a), v2, v3, v4, v5] S h n = mx_ex d 259 1448 [l0, l1, l2, l3] [(0, mx_w (a + b)), v2, v3, v4, v5] S h n) ∧
  (∀ (d : Nat) (i a : Int) (l0 l1 l2 l3 : Option mx_V) (v2 v3 v4 : mx_V) (S h : mx_H) (n : Int), mx_ex d 259 1448 [l0, l1, l2, l3] [(0, i), (2, a), v2, v3, v4] S h n = mx_gd ((S a (-2) = 20 ∨ S a (-2) = 24) ∧ 0 ≤ i ∧ i < S a (-1)) d 259 1449 [l0, l1, l2, l3] [(0, h a i), v2, v3, v4] S h n) ∧
  (∀ (d : Nat) (x : Int) (l1 l2 l3 : Option mx_V) (v0 v1 v2 v3 : mx_V) (S h : mx_H) (n : Int), mx_ex d 259 1449 [some (2, x), l1, l2, l3] [v0, v1, v2, v3] S h n = mx_ex d 259 1450 [some (2, x), l1, l2, l3] [(2, x), v0, v1, v2, v3] S h n) ∧
  (∀ (d : Nat) (x : Int) (l0 l1 l2 : Option mx_V) (v0 v1 v2 v3 v4 : mx_V) (S h : mx_H) (n : Int), mx_ex d 259 1450 [l0, l1, l2, some (0, x)] [v0, v1, v2, v3, v4] S h n = mx_ex d 259 1451 [l0, l1, l2, some (0, x)] [(0, x), v0, v1, v2, v3, v4] S h n) ∧
  (∀ (d : Nat) (l0 l1 l2 l3 : Option mx_V) (v0 v1 v2 v3 v4 v5 : mx_V) (S h : mx_H) (n : Int), mx_ex d 259 1451 [l0, l1, l2, l3] [v0, v1, v2, v3, v4, v5] S h n = mx_ex d 259 1452 [l0, l1, l2, l3] [(0, 3), v0, v1, v2, v3, v4, v5] S h n) ∧
  (∀ (d : Nat) (b a : Int) (l0 l1 l2 l3 : Option mx_V) (v2 v3 v4 v5 v6 : mx_V) (S h : mx_H) (n : Int), mx_ex d 259 1452 [l0, l1, l2, l3] [(0, b), (0, a), v2, v3, v4, v5, v6] S h n = mx_ex d 259 1453 [l0, l1, l2, l3] [(0, mx_w (a + b)), v2, v3, v4, v5, v6] S h n) ∧
  (∀ (d : Nat) (i a : Int) (l0 l1 l2 l3 : Option mx_V) (v2 v3 v4 v5 : mx_V) (S h : mx_H) (n : Int), mx_ex d 259 1453 [l0, l1, l2, l3] [(0, i), (2, a), v2, v3, v4, v5] S h n = mx_gd ((S a (-2) = 20 ∨ S a (-2) = 24) ∧ 0 ≤ i ∧ i < S a (-1)) d 259 1454 [l0, l1, l2, l3] [(0, h a i), v2, v3, v4, v5] S h n) ∧
  (∀ (d : Nat) (x0 x1 x2 a : Int) (l0 l1 l2 l3 : Option mx_V) (v4 : mx_V) (S h : mx_H) (n : Int), mx_ex (d + 1) 259 1454 [l0, l1, l2, l3] [(0, x0), (0, x1), (0, x2), (2, a), v4] S h n = mx_cl (S a (-2) = 13) d 232 [(2, a), (0, x2), (0, x1), (0, x0)] 259 1457 [l0, l1, l2, l3] [v4] S h n) ∧
  (∀ (d : Nat) (b a : Int) (l0 l1 l2 l3 : Option mx_V) (S h : mx_H) (n : Int), mx_ex d 259 1457 [l0, l1, l2, l3] [(0, b), (0, a)] S h n = mx_br (a = b) d 259 1653 1460 [l0, l1, l2, l3] [] S h n) ∧
  (∀ (d : Nat) (l0 l1 l2 l3 : Option mx_V) (S h : mx_H) (n : Int), mx_ex d 259 1460 [l0, l1, l2, l3] [] S h n = mx_ex d 259 1461 [l0, l1, l2, l3] [(0, 0)] S h n) ∧
  (∀ (d : Nat) (x : Int) (l0 l1 l2 l3 : Option mx_V) (S h : mx_H) (n : Int), mx_ex d 259 1461 [l0, l1, l2, l3] [(0, x)] S h n = mx_re (0 ≤ x ∧ x ≤ 1) (some (0, x)) S h n) ∧
  (∀ (d : Nat) (x : Int) (l0 l2 l3 : Option mx_V) (S h : mx_H) (n : Int), mx_ex d 259 1462 [l0, some (2, x), l2, l3] [] S h n = mx_ex d 259 1463 [l0, some (2, x), l2, l3] [(2, x)] S h n) ∧
  (∀ (d : Nat) (x : Int) (l1 l2 l3 : Option mx_V) (v0 : mx_V) (S h : mx_H) (n : Int), mx_ex d 259 1463 [some (2, x), l1, l2, l3] [v0] S h n = mx_ex d 259 1464 [some (2, x), l1, l2, l3] [(2, x), v0] S h n) ∧
  (∀ (d : Nat) (x : Int) (l0 l1 l2 : Option mx_V) (v0 v1 : mx_V) (S h : mx_H) (n : Int), mx_ex d 259 1464 [l0, l1, l2, some (0, x)] [v0, v1] S h n = mx_ex d 259 1465 [l0, l1, l2, some (0, x)] [(0, x), v0, v1] S h n) ∧
  (∀ (d : Nat) (l0 l1 l2 l3 : Option mx_V) (v0 v1 v2 : mx_V) (S h : mx_H) (n : Int), mx_ex d 259 1465 [l0, l1, l2, l3] [v0, v1, v2] S h n = mx_ex d 259 1466 [l0, l1, l2, l3] [(0, 1), v0, v1, v2] S h n) ∧
  (∀ (d : Nat) (b a : Int) (l0 l1 l2 l3 : Option mx_V) (v2 v3 : mx_V) (S h : mx_H) (n : Int), mx_ex d 259 1466 [l0, l1, l2, l3] [(0, b), (0, a), v2, v3] S h n = mx_ex d 259 1467 [l0, l1, l2, l3] [(0, mx_w (a + b)), v2, v3] S h n) ∧
  (∀ (d : Nat) (i a : Int) (l0 l1 l2 l3 : Option mx_V) (v2 : mx_V) (S h : mx_H) (n : Int), mx_ex d 259 1467 [l0, l1, l2, l3] [(0, i), (2, a), v2] S h n = mx_gd ((S a (-2) = 20 ∨ S a (-2) = 24) ∧ 0 ≤ i ∧ i < S a (-1)) d 259 1468 [l0, l1, l2, l3] [(0, h a i), v2] S h n) ∧
  (∀ (d : Nat) (x : Int) (l1 l2 l3 : Option mx_V) (v0 v1 : mx_V) (S h : mx_H) (n : Int), mx_ex d 259 1468 [some (2, x), l1, l2, l3] [v0, v1] S h n = mx_ex d 259 1469 [some (2, x), l1, l2, l3] [(2, x), v0, v1] S h n) ∧
  (∀ (d : Nat) (x : Int) (l0 l1 l2 : Option mx_V) (v0 v1 v2 : mx_V) (S h : mx_H) (n : Int), mx_ex d 259 1469 [l0, l1, l2, some (0, x)] [v0, v1, v2] S h n = mx_ex d 259 1470 [l0, l1, l2, some (0, x)] [(0, x), v0, v1, v2] S h n) ∧
  (∀ (d : Nat) (l0 l1 l2 l3 : Option mx_V) (v0 v1 v2 v3 : mx_V) (S h : mx_H) (n : Int), mx_ex d 259 1470 [l0, l1, l2, l3] [v0, v1, v2, v3] S h n = mx_ex d 259 1471 [l0, l1, l2, l3] [(0, 2), v0, v1, v2, v3] S h n) ∧
  (∀ (d : Nat) (b a : Int) (l0 l1 l2 l3 : Option mx_V) (v2 v3 v4 : mx_V) (S h : mx_H) (n : Int), mx_ex d 259 1471 [l0, l1, l2, l3] [(0, b), (0, a), v2, v3, v4] S h n = mx_ex d 259 1472 [l0, l1, l2, l3] [(0, mx_w (a + b)), v2, v3, v4] S h n) ∧
  (∀ (d : Nat) (i a : Int) (l0 l1 l2 l3 : Option mx_V) (v2 v3 : mx_V) (S h : mx_H) (n : Int), mx_ex d 259 1472 [l0, l1, l2, l3] [(0, i), (2, a), v2, v3] S h n = mx_gd ((S a (-2) = 20 ∨ S a (-2) = 24) ∧ 0 ≤ i ∧ i < S a (-1)) d 259 1473 [l0, l1, l2, l3] [(0, h a i), v2, v3] S h n) ∧
  (∀ (d : Nat) (x : Int) (l1 l2 l3 : Option mx_V) (v0 v1 v2 : mx_V) (S h : mx_H) (n : Int), mx_ex d 259 1473 [some (2, x), l1, l2, l3] [v0, v1, v2] S h n = mx_ex d 259 1474 [some (2, x), l1, l2, l3] [(2, x), v0, v1, v2] S h n) ∧
  (∀ (d : Nat) (x : Int) (l0 l1 l2 : Option mx_V) (v0 v1 v2 v3 : mx_V) (S h : mx_H) (n : Int), mx_ex d 259 1474 [l0, l1, l2, some (0, x)] [v0, v1, v2, v3] S h n = mx_ex d 259 1475 [l0, l1, l2, some (0, x)] [(0, x), v0, v1, v2, v3] S h n) ∧
  (∀ (d : Nat) (l0 l1 l2 l3 : Option mx_V) (v0 v1 v2 v3 v4 : mx_V) (S h : mx_H) (n : Int), mx_ex d 259 1475 [l0, l1, l2, l3] [v0, v1, v2, v3, v4] S h n = mx_ex d 259 1476 [l0, l1, l2, l3] [(0, 3), v0, v1, v2, v3, v4] S h n) :=
  ⟨by intros; exact eq_ld rfl rfl,
   by intros; exact eq_ld rfl rfl,
   by intros; exact eq_push rfl,
   by intros; exact eq_i2 (o := mx_add) rfl,
   by intros; exact eq_iald rfl,
   by intros; exact eq_ld rfl rfl,
   by intros; exact eq_ld rfl rfl,
   by intros; exact eq_push rfl,
   by intros; exact eq_i2 (o := mx_add) rfl,
   by intros; exact eq_iald rfl,
   by intros; exact eq_ld rfl rfl,
   by intros; exact eq_ld rfl rfl,
   by intros; exact eq_push rfl,
   by intros; exact eq_i2 (o := mx_add) rfl,
   by intros; exact eq_iald rfl,
   by intros; exact eq_cv rfl (Nat.le_of_ble_eq_true rfl) rfl rfl rfl (Nat.le_of_ble_eq_true rfl),
   by intros; exact eq_ic0 rfl,
   by intros; exact eq_push rfl,
   by intros; exact eq_rr rfl,
   by intros; exact eq_ld rfl rfl,
   by intros; exact eq_ld rfl rfl,
   by intros; exact eq_ld rfl rfl,
   by intros; exact eq_push rfl,
   by intros; exact eq_i2 (o := mx_add) rfl,
   by intros; exact eq_iald rfl,
   by intros; exact eq_ld rfl rfl,
   by intros; exact eq_ld rfl rfl,
   by intros; exact eq_push rfl,
   by intros; exact eq_i2 (o := mx_add) rfl,
   by intros; exact eq_iald rfl,
   by intros; exact eq_ld rfl rfl,
   by intros; exact eq_ld rfl rfl,
   by intros; exact eq_push rfl,
   by intros; exact eq_i2 (o := mx_add) rfl,
   by intros; exact eq_iald rfl,
   by intros; exact eq_cv rfl (Nat.le_of_ble_eq_true rfl) rfl rfl rfl (Nat.le_of_ble_eq_true rfl),
   by intros; exact eq_ld rfl rfl,
   by intros; exact eq_ld rfl rfl,
   by intros; exact eq_ld rfl rfl,
   by intros; exact eq_push rfl,
   by intros; exact eq_i2 (o := mx_add) rfl,
   by intros; exact eq_iald rfl,
   by intros; exact eq_ld rfl rfl,
   by intros; exact eq_ld rfl rfl,
   by intros; exact eq_push rfl,
   by intros; exact eq_i2 (o := mx_add) rfl,
   by intros; exact eq_iald rfl,
   by intros; exact eq_ld rfl rfl,
   by intros; exact eq_ld rfl rfl,
   by intros; exact eq_push rfl,
   by intros; exact eq_i2 (o := mx_add) rfl,
   by intros; exact eq_iald rfl,
   by intros; exact eq_cv rfl (Nat.le_of_ble_eq_true rfl) rfl rfl rfl (Nat.le_of_ble_eq_true rfl),
   by intros; exact eq_ic0 rfl,
   by intros; exact eq_push rfl,
   by intros; exact eq_rr rfl,
   by intros; exact eq_ld rfl rfl,
   by intros; exact eq_ld rfl rfl,
   by intros; exact eq_ld rfl rfl,
   by intros; exact eq_push rfl,
   by intros; exact eq_i2 (o := mx_add) rfl,
   by intros; exact eq_iald rfl,
   by intros; exact eq_ld rfl rfl,
   by intros; exact eq_ld rfl rfl,
   by intros; exact eq_push rfl,
   by intros; exact eq_i2 (o := mx_add) rfl,
   by intros; exact eq_iald rfl,
   by intros; exact eq_ld rfl rfl,
   by intros; exact eq_ld rfl rfl,
   by intros; exact eq_push rfl⟩
theorem rw_L_law_15 :
  (∀ (d : Nat) (b a : Int) (l0 l1 l2 l3 : Option mx_V) (v2 v3 v4 v5 : mx_V) (S h : mx_H) (n : Int), mx_ex d 259 1476 [l0, l1, l2, l3] [(0, b), (0, a), v2, v3, v4, v5] S h n = mx_ex d 259 1477 [l0, l1, l2, l3] [(0, mx_w (a + b)), v2, v3, v4, v5] S h n) ∧
  (∀ (d : Nat) (i a : Int) (l0 l1 l2 l3 : Option mx_V) (v2 v3 v4 : mx_V) (S h : mx_H) (n : Int), mx_ex d 259 1477 [l0, l1, l2, l3] [(0, i), (2, a), v2, v3, v4] S h n = mx_gd ((S a (-2) = 20 ∨ S a (-2) = 24) ∧ 0 ≤ i ∧ i < S a (-1)) d 259 1478 [l0, l1, l2, l3] [(0, h a i), v2, v3, v4] S h n) ∧
  (∀ (d : Nat) (x0 x1 x2 a : Int) (l0 l1 l2 l3 : Option mx_V) (S h : mx_H) (n : Int), mx_ex (d + 1) 259 1478 [l0, l1, l2, l3] [(0, x0), (0, x1), (0, x2), (2, a)] S h n = mx_cl (S a (-2) = 7) d 137 [(2, a), (0, x2), (0, x1), (0, x0)] 259 1481 [l0, l1, l2, l3] [] S h n) ∧
  (∀ (d : Nat) (x : Int) (l0 l1 l3 : Option mx_V) (v0 : mx_V) (S h : mx_H) (n : Int), mx_ex d 259 1481 [l0, l1, some (2, x), l3] [v0] S h n = mx_ex d 259 1482 [l0, l1, some (2, x), l3] [(2, x), v0] S h n) ∧
  (∀ (d : Nat) (x : Int) (l1 l2 l3 : Option mx_V) (v0 v1 : mx_V) (S h : mx_H) (n : Int), mx_ex d 259 1482 [some (2, x), l1, l2, l3] [v0, v1] S h n = mx_ex d 259 1483 [some (2, x), l1, l2, l3] [(2, x), v0, v1] S h n) ∧
  (∀ (d : Nat) (x : Int) (l0 l1 l2 : Option mx_V) (v0 v1 v2 : mx_V) (S h : mx_H) (n : Int), mx_ex d 259 1483 [l0, l1, l2, some (0, x)] [v0, v1, v2] S h n = mx_ex d 259 1484 [l0, l1, l2, some (0, x)] [(0, x), v0, v1, v2] S h n) ∧
  (∀ (d : Nat) (l0 l1 l2 l3 : Option mx_V) (v0 v1 v2 v3 : mx_V) (S h : mx_H) (n : Int), mx_ex d 259 1484 [l0, l1, l2, l3] [v0, v1, v2, v3] S h n = mx_ex d 259 1485 [l0, l1, l2, l3] [(0, 1), v0, v1, v2, v3] S h n) ∧
  (∀ (d : Nat) (b a : Int) (l0 l1 l2 l3 : Option mx_V) (v2 v3 v4 : mx_V) (S h : mx_H) (n : Int), mx_ex d 259 1485 [l0, l1, l2, l3] [(0, b), (0, a), v2, v3, v4] S h n = mx_ex d 259 1486 [l0, l1, l2, l3] [(0, mx_w (a + b)), v2, v3, v4] S h n) ∧
  (∀ (d : Nat) (i a : Int) (l0 l1 l2 l3 : Option mx_V) (v2 v3 : mx_V) (S h : mx_H) (n : Int), mx_ex d 259 1486 [l0, l1, l2, l3] [(0, i), (2, a), v2, v3] S h n = mx_gd ((S a (-2) = 20 ∨ S a (-2) = 24) ∧ 0 ≤ i ∧ i < S a (-1)) d 259 1487 [l0, l1, l2, l3] [(0, h a i), v2, v3] S h n) ∧
  (∀ (d : Nat) (x : Int) (l1 l2 l3 : Option mx_V) (v0 v1 v2 : mx_V) (S h : mx_H) (n : Int), mx_ex d 259 1487 [some (2, x), l1, l2, l3] [v0, v1, v2] S h n = mx_ex d 259 1488 [some (2, x), l1, l2, l3] [(2, x), v0, v1, v2] S h n) ∧
  (∀ (d : Nat) (x : Int) (l0 l1 l2 : Option mx_V) (v0 v1 v2 v3 : mx_V) (S h : mx_H) (n : Int), mx_ex d 259 1488 [l0, l1, l2, some (0, x)] [v0, v1, v2, v3] S h n = mx_ex d 259 1489 [l0, l1, l2, some (0, x)] [(0, x), v0, v1, v2, v3] S h n) ∧
  (∀ (d : Nat) (l0 l1 l2 l3 : Option mx_V) (v0 v1 v2 v3 v4 : mx_V) (S h : mx_H) (n : Int), mx_ex d 259 1489 [l0, l1, l2, l3] [v0, v1, v2, v3, v4] S h n = mx_ex d 259 1490 [l0, l1, l2, l3] [(0, 2), v0, v1, v2, v3, v4] S h n) ∧
  (∀ (d : Nat) (b a : Int) (l0 l1 l2 l3 : Option mx_V) (v2 v3 v4 v5 : mx_V) (S h : mx_H) (n : Int), mx_ex d 259 1490 [l0, l1, l2, l3] [(0, b), (0, a), v2, v3, v4, v5] S h n = mx_ex d 259 1491 [l0, l1, l2, l3] [(0, mx_w (a + b)), v2, v3, v4, v5] S h n) ∧
  (∀ (d : Nat) (i a : Int) (l0 l1 l2 l3 : Option mx_V) (v2 v3 v4 : mx_V) (S h : mx_H) (n : Int), mx_ex d 259 1491 [l0, l1, l2, l3] [(0, i), (2, a), v2, v3, v4] S h n = mx_gd ((S a (-2) = 20 ∨ S a (-2) = 24) ∧ 0 ≤ i ∧ i < S a (-1)) d 259 1492 [l0, l1, l2, l3] [(0, h a i), v2, v3, v4] S h n) ∧
  (∀ (d : Nat) (x : Int) (l1 l2 l3 : Option mx_V) (v0 v1 v2 v3 : mx_V) (S h : mx_H) (n : Int), mx_ex d 259 1492 [some (2, x), l1, l2, l3] [v0, v1, v2, v3] S h n = mx_ex d 259 1493 [some (2, x), l1, l2, l3] [(2, x), v0, v1, v2, v3] S h n) ∧
  (∀ (d : Nat) (x : Int) (l0 l1 l2 : Option mx_V) (v0 v1 v2 v3 v4 : mx_V) (S h : mx_H) (n : Int), mx_ex d 259 1493 [l0, l1, l2, some (0, x)] [v0, v1, v2, v3, v4] S h n = mx_ex d 259 1494 [l0, l1, l2, some (0, x)] [(0, x), v0, v1, v2, v3, v4] S h n) ∧
  (∀ (d : Nat) (l0 l1 l2 l3 : Option mx_V) (v0 v1 v2 v3 v4 v5 : mx_V) (S h : mx_H) (n : Int), mx_ex d 259 1494 [l0, l1, l2, l3] [v0, v1, v2, v3, v4, v5] S h n = mx_ex d 259 1495 [l0, l1, l2, l3] [(0, 3), v0, v1, v2, v3, v4, v5] S h n) ∧
  (∀ (d : Nat) (b a : Int) (l0 l1 l2 l3 : Option mx_V) (v2 v3 v4 v5 v6 : mx_V) (S h : mx_H) (n : Int), mx_ex d 259 1495 [l0, l1, l2, l3] [(0, b), (0, a), v2, v3, v4, v5, v6] S h n = mx_ex d 259 1496 [l0, l1, l2, l3] [(0, mx_w (a + b)), v2, v3, v4, v5, v6] S h n) ∧
  (∀ (d : Nat) (i a : Int) (l0 l1 l2 l3 : Option mx_V) (v2 v3 v4 v5 : mx_V) (S h : mx_H) (n : Int), mx_ex d 259 1496 [l0, l1, l2, l3] [(0, i), (2, a), v2, v3, v4, v5] S h n = mx_gd ((S a (-2) = 20 ∨ S a (-2) = 24) ∧ 0 ≤ i ∧ i < S a (-1)) d 259 1497 [l0, l1, l2, l3] [(0, h a i), v2, v3, v4, v5] S h n) ∧
  (∀ (d : Nat) (x0 x1 x2 a : Int) (l0 l1 l2 l3 : Option mx_V) (v4 : mx_V) (S h : mx_H) (n : Int), mx_ex (d + 1) 259 1497 [l0, l1, l2, l3] [(0, x0), (0, x1), (0, x2), (2, a), v4] S h n = mx_cl (S a (-2) = 13) d 234 [(2, a), (0, x2), (0, x1), (0, x0)] 259 1500 [l0, l1, l2, l3] [v4] S h n) ∧
  (∀ (d : Nat) (b a : Int) (l0 l1 l2 l3 : Option mx_V) (S h : mx_H) (n : Int), mx_ex d 259 1500 [l0, l1, l2, l3] [(0, b), (0, a)] S h n = mx_br (a = b) d 259 1653 1503 [l0, l1, l2, l3] [] S h n) ∧
  (∀ (d : Nat) (l0 l1 l2 l3 : Option mx_V) (S h : mx_H) (n : Int), mx_ex d 259 1503 [l0, l1, l2, l3] [] S h n = mx_ex d 259 1504 [l0, l1, l2, l3] [(0, 0)] S h n) ∧
  (∀ (d : Nat) (x : Int) (l0 l1 l2 l3 : Option mx_V) (S h : mx_H) (n : Int), mx_ex d 259 1504 [l0, l1, l2, l3] [(0, x)] S h n = mx_re (0 ≤ x ∧ x ≤ 1) (some (0, x)) S h n) ∧
  (∀ (d : Nat) (x : Int) (l0 l2 l3 : Option mx_V) (S h : mx_H) (n : Int), mx_ex d 259 1505 [l0, some (2, x), l2, l3] [] S h n = mx_ex d 259 1506 [l0, some (2, x), l2, l3] [(2, x)] S h n) ∧
  (∀ (d : Nat) (x : Int) (l1 l2 l3 : Option mx_V) (v0 : mx_V) (S h : mx_H) (n : Int), mx_ex d 259 1506 [some (2, x), l1, l2, l3] [v0] S h n = mx_ex d 259 1507 [some (2, x), l1, l2, l3] [(2, x), v0] S h n) ∧
  (∀ (d : Nat) (x : Int) (l0 l1 l2 : Option mx_V) (v0 v1 : mx_V) (S h : mx_H) (n : Int), mx_ex d 259 1507 [l0, l1, l2, some (0, x)] [v0, v1] S h n = mx_ex d 259 1508 [l0, l1, l2, some (0, x)] [(0, x), v0, v1] S h n) ∧
  (∀ (d : Nat) (l0 l1 l2 l3 : Option mx_V) (v0 v1 v2 : mx_V) (S h : mx_H) (n : Int), mx_ex d 259 1508 [l0, l1, l2, l3] [v0, v1, v2] S h n = mx_ex d 259 1509 [l0, l1, l2, l3] [(0, 1), v0, v1, v2] S h n) ∧
  (∀ (d : Nat) (b a : Int) (l0 l1 l2 l3 : Option mx_V) (v2 v3 : mx_V) (S h : mx_H) (n : Int), mx_ex d 259 1509 [l0, l1, l2, l3] [(0, b), (0, a), v2, v3] S h n = mx_ex d 259 1510 [l0, l1, l2, l3] [(0, mx_w (a + b)), v2, v3] S h n) ∧
  (∀ (d : Nat) (i a : Int) (l0 l1 l2 l3 : Option mx_V) (v2 : mx_V) (S h : mx_H) (n : Int), mx_ex d 259 1510 [l0, l1, l2, l3] [(0, i), (2, a), v2] S h n = mx_gd ((S a (-2) = 20 ∨ S a (-2) = 24) ∧ 0 ≤ i ∧ i < S a (-1)) d 259 1511 [l0, l1, l2, l3] [(0, h a i), v2] S h n) ∧
  (∀ (d : Nat) (x : Int) (l1 l2 l3 : Option mx_V) (v0 v1 : mx_V) (S h : mx_H) (n : Int), mx_ex d 259 1511 [some (2, x), l1, l2, l3] [v0, v1] S h n = mx_ex d 259 1512 [some (2, x), l1, l2, l3] [(2, x), v0, v1] S h n) ∧
  (∀ (d : Nat) (x : Int) (l0 l1 l2 : Option mx_V) (v0 v1 v2 : mx_V) (S h : mx_H) (n : Int), mx_ex d 259 1512 [l0, l1, l2, some (0, x)] [v0, v1, v2] S h n = mx_ex d 259 1513 [l0, l1, l2, some (0, x)] [(0, x), v0, v1, v2] S h n) ∧
  (∀ (d : Nat) (l0 l1 l2 l3 : Option mx_V) (v0 v1 v2 v3 : mx_V) (S h : mx_H) (n : Int), mx_ex d 259 1513 [l0, l1, l2, l3] [v0, v1, v2, v3] S h n = mx_ex d 259 1514 [l0, l1, l2, l3] [(0, 2), v0, v1, v2, v3] S h n) ∧
  (∀ (d : Nat) (b a : Int) (l0 l1 l2 l3 : Option mx_V) (v2 v3 v4 : mx_V) (S h : mx_H) (n : Int), mx_ex d 259 1514 [l0, l1, l2, l3] [(0, b), (0, a), v2, v3, v4] S h n = mx_ex d 259 1515 [l0, l1, l2, l3] [(0, mx_w (a + b)), v2, v3, v4] S h n) ∧
  (∀ (d : Nat) (i a : Int) (l0 l1 l2 l3 : Option mx_V) (v2 v3 : mx_V) (S h : mx_H) (n : Int), mx_ex d 259 1515 [l0, l1, l2, l3] [(0, i), (2, a), v2, v3] S h n = mx_gd ((S a (-2) = 20 ∨ S a (-2) = 24) ∧ 0 ≤ i ∧ i < S a (-1)) d 259 1516 [l0, l1, l2, l3] [(0, h a i), v2, v3] S h n) ∧
  (∀ (d : Nat) (x0 x1 a : Int) (l0 l1 l2 l3 : Option mx_V) (S h : mx_H) (n : Int), mx_ex (d + 1) 259 1516 [l0, l1, l2, l3] [(0, x0), (0, x1), (2, a)] S h n = mx_cl (S a (-2) = 7) d 138 [(2, a), (0, x1), (0, x0)] 259 1519 [l0, l1, l2, l3] [] S h n) ∧
  (∀ (d : Nat) (x : Int) (l0 l1 l3 : Option mx_V) (v0 : mx_V) (S h : mx_H) (n : Int), mx_ex d 259 1519 [l0, l1, some (2, x), l3] [v0] S h n = mx_ex d 259 1520 [l0, l1, some (2, x), l3] [(2, x), v0] S h n) ∧
  (∀ (d : Nat) (x : Int) (l1 l2 l3 : Option mx_V) (v0 v1 : mx_V) (S h : mx_H) (n : Int), mx_ex d 259 1520 [some (2, x), l1, l2, l3] [v0, v1] S h n = mx_ex d 259 1521 [some (2, x), l1, l2, l3] [(2, x), v0, v1] S h n) ∧
  (∀ (d : Nat) (x : Int) (l0 l1 l2 : Option mx_V) (v0 v1 v2 : mx_V) (S h : mx_H) (n : Int), mx_ex d 259 1521 [l0, l1, l2, some (0, x)] [v0, v1, v2] S h n = mx_ex d 259 1522 [l0, l1, l2, some (0, x)] [(0, x), v0, v1, v2] S h n) ∧
  (∀ (d : Nat) (l0 l1 l2 l3 : Option mx_V) (v0 v1 v2 v3 : mx_V) (S h : mx_H) (n : Int), mx_ex d 259 1522 [l0, l1, l2, l3] [v0, v1, v2, v3] S h n = mx_ex d 259 1523 [l0, l1, l2, l3] [(0, 1), v0, v1, v2, v3] S h n) ∧
  (∀ (d : Nat) (b a : Int) (l0 l1 l2 l3 : Option mx_V) (v2 v3 v4 : mx_V) (S h : mx_H) (n : Int), mx_ex d 259 1523 [l0, l1, l2, l3] [(0, b), (0, a), v2, v3, v4] S h n = mx_ex d 259 1524 [l0, l1, l2, l3] [(0, mx_w (a + b)), v2, v3, v4] S h n) ∧
  (∀ (d : Nat) (i a : Int) (l0 l1 l2 l3 : Option mx_V) (v2 v3 : mx_V) (S h : mx_H) (n : Int), mx_ex d 259 1524 [l0, l1, l2, l3] [(0, i), (2, a), v2, v3] S h n = mx_gd ((S a (-2) = 20 ∨ S a (-2) = 24) ∧ 0 ≤ i ∧ i < S a (-1)) d 259 1525 [l0, l1, l2, l3] [(0, h a i), v2, v3] S h n) ∧
  (∀ (d : Nat) (x : Int) (l1 l2 l3 : Option mx_V) (v0 v1 v2 : mx_V) (S h : mx_H) (n : Int), mx_ex d 259 1525 [some (2, x), l1, l2, l3] [v0, v1, v2] S h n = mx_ex d 259 1526 [some (2, x), l1, l2, l3] [(2, x), v0, v1, v2] S h n) ∧
  (∀ (d : Nat) (x : Int) (l0 l1 l2 : Option mx_V) (v0 v1 v2 v3 : mx_V) (S h : mx_H) (n : Int), mx_ex d 259 1526 [l0, l1, l2, some (0, x)] [v0, v1, v2, v3] S h n = mx_ex d 259 1527 [l0, l1, l2, some (0, x)] [(0, x), v0, v1, v2, v3] S h n) ∧
  (∀ (d : Nat) (l0 l1 l2 l3 : Option mx_V) (v0 v1 v2 v3 v4 : mx_V) (S h : mx_H) (n : Int), mx_ex d 259 1527 [l0, l1, l2, l3] [v0, v1, v2, v3, v4] S h n = mx_ex d 259 1528 [l0, l1, l2, l3] [(0, 2), v0, v1, v2, v3, v4] S h n) ∧
  (∀ (d : Nat) (b a : Int) (l0 l1 l2 l3 : Option mx_V) (v2 v3 v4 v5 : mx_V) (S h : mx_H) (n : Int), mx_ex d 259 1528 [l0, l1, l2, l3] [(0, b), (0, a), v2, v3, v4, v5] S h n = mx_ex d 259 1529 [l0, l1, l2, l3] [(0, mx_w (a + b)), v2, v3, v4, v5] S h n) ∧
  (∀ (d : Nat) (i a : Int) (l0 l1 l2 l3 : Option mx_V) (v2 v3 v4 : mx_V) (S h : mx_H) (n : Int), mx_ex d 259 1529 [l0, l1, l2, l3] [(0, i), (2, a), v2, v3, v4] S h n = mx_gd ((S a (-2) = 20 ∨ S a (-2) = 24) ∧ 0 ≤ i ∧ i < S a (-1)) d 259 1530 [l0, l1, l2, l3] [(0, h a i), v2, v3, v4] S h n) ∧
  (∀ (d : Nat) (x0 x1 a : Int) (l0 l1 l2 l3 : Option mx_V) (v3 : mx_V) (S h : mx_H) (n : Int), mx_ex (d + 1) 259 1530 [l0, l1, l2, l3] [(0, x0), (0, x1), (2, a), v3] S h n = mx_cl (S a (-2) = 13) d 237 [(2, a), (0, x1), (0, x0)] 259 1533 [l0, l1, l2, l3] [v3] S h n) ∧
  (∀ (d : Nat) (b a : Int) (l0 l1 l2 l3 : Option mx_V) (S h : mx_H) (n : Int), mx_ex d 259 1533 [l0, l1, l2, l3] [(0, b), (0, a)] S h n = mx_br (a = b) d 259 1653 1536 [l0, l1, l2, l3] [] S h n) ∧
  (∀ (d : Nat) (l0 l1 l2 l3 : Option mx_V) (S h : mx_H) (n : Int), mx_ex d 259 1536 [l0, l1, l2, l3] [] S h n = mx_ex d 259 1537 [l0, l1, l2, l3] [(0, 0)] S h n) ∧
  (∀ (d : Nat) (x : Int) (l0 l1 l2 l3 : Option mx_V) (S h : mx_H) (n : Int), mx_ex d 259 1537 [l0, l1, l2, l3] [(0, x)] S h n = mx_re (0 ≤ x ∧ x ≤ 1) (some (0, x)) S h n) ∧
  (∀ (d : Nat) (x : Int) (l0 l2 l3 : Option mx_V) (S h : mx_H) (n : Int), mx_ex d 259 1538 [l0, some (2, x), l2, l3] [] S h n = mx_ex d 259 1539 [l0, some (2, x), l2, l3] [(2, x)] S h n) ∧
  (∀ (d : Nat) (x : Int) (l1 l2 l3 : Option mx_V) (v0 : mx_V) (S h : mx_H) (n : Int), mx_ex d 259 1539 [some (2, x), l1, l2, l3] [v0] S h n = mx_ex d 259 1540 [some (2, x), l1, l2, l3] [(2, x), v0] S h n) ∧
  (∀ (d : Nat) (x : Int) (l0 l1 l2 : Option mx_V) (v0 v1 : mx_V) (S h : mx_H) (n : Int), mx_ex d 259 1540 [l0, l1, l2, some (0, x)] [v0, v1] S h n = mx_ex d 259 1541 [l0, l1, l2, some (0, x)] [(0, x), v0, v1] S h n) ∧
  (∀ (d : Nat) (l0 l1 l2 l3 : Option mx_V) (v0 v1 v2 : mx_V) (S h : mx_H) (n : Int), mx_ex d 259 1541 [l0, l1, l2, l3] [v0, v1, v2] S h n = mx_ex d 259 1542 [l0, l1, l2, l3] [(0, 1), v0, v1, v2] S h n) ∧
  (∀ (d : Nat) (b a : Int) (l0 l1 l2 l3 : Option mx_V) (v2 v3 : mx_V) (S h : mx_H) (n : Int), mx_ex d 259 1542 [l0, l1, l2, l3] [(0, b), (0, a), v2, v3] S h n = mx_ex d 259 1543 [l0, l1, l2, l3] [(0, mx_w (a + b)), v2, v3] S h n) ∧
  (∀ (d : Nat) (i a : Int) (l0 l1 l2 l3 : Option mx_V) (v2 : mx_V) (S h : mx_H) (n : Int), mx_ex d 259 1543 [l0, l1, l2, l3] [(0, i), (2, a), v2] S h n = mx_gd ((S a (-2) = 20 ∨ S a (-2) = 24) ∧ 0 ≤ i ∧ i < S a (-1)) d 259 1544 [l0, l1, l2, l3] [(0, h a i), v2] S h n) ∧
  (∀ (d : Nat) (x : Int) (l1 l2 l3 : Option mx_V) (v0 v1 : mx_V) (S h : mx_H) (n : Int), mx_ex d 259 1544 [some (2, x), l1, l2, l3] [v0, v1] S h n = mx_ex d 259 1545 [some (2, x), l1, l2, l3] [(2, x), v0, v1] S h n) ∧
  (∀ (d : Nat) (x : Int) (l0 l1 l2 : Option mx_V) (v0 v1 v2 : mx_V) (S h : mx_H) (n : Int), mx_ex d 259 1545 [l0, l1, l2, some (0, x)] [v0, v1, v2] S h n = mx_ex d 259 1546 [l0, l1, l2, some (0, x)] [(0, x), v0, v1, v2] S h n) ∧
  (∀ (d : Nat) (l0 l1 l2 l3 : Option mx_V) (v0 v1 v2 v3 : mx_V) (S h : mx_H) (n : Int), mx_ex d 259 1546 [l0, l1, l2, l3] [v0, v1, v2, v3] S h n = mx_ex d 259 1547 [l0, l1, l2, l3] [(0, 2), v0, v1, v2, v3] S h n) ∧
  (∀ (d : Nat) (b a : Int) (l0 l1 l2 l3 : Option mx_V) (v2 v3 v4 : mx_V) (S h : mx_H) (n : Int), mx_ex d 259 1547 [l0, l1, l2, l3] [(0, b), (0, a), v2, v3, v4] S h n = mx_ex d 259 1548 [l0, l1, l2, l3] [(0, mx_w (a + b)), v2, v3, v4] S h n) ∧
  (∀ (d : Nat) (i a : Int) (l0 l1 l2 l3 : Option mx_V) (v2 v3 : mx_V) (S h : mx_H) (n : Int), mx_ex d 259 1548 [l0, l1, l2, l3] [(0, i), (2, a), v2, v3] S h n = mx_gd ((S a (-2) = 20 ∨ S a (-2) = 24) ∧ 0 ≤ i ∧ i < S a (-1)) d 259 1549 [l0, l1, l2, l3] [(0, h a i), v2, v3] S h n) ∧
  (∀ (d : Nat) (x : Int) (l1 l2 l3 : Option mx_V) (v0 v1 v2 : mx_V) (S h : mx_H) (n : Int), mx_ex d 259 1549 [some (2, x), l1, l2, l3] [v0, v1, v2] S h n = mx_ex d 259 1550 [some (2, x), l1, l2, l3] [(2, x), v0, v1, v2] S h n) ∧
  (∀ (d : Nat) (x : Int) (l0 l1 l2 : Option mx_V) (v0 v1 v2 v3 : mx_V) (S h : mx_H) (n : Int), mx_ex d 259 1550 [l0, l1, l2, some (0, x)] [v0, v1, v2, v3] S h n = mx_ex d 259 1551 [l0, l1, l2, some (0, x)] [(0, x), v0, v1, v2, v3] S h n) ∧
  (∀ (d : Nat) (l0 l1 l2 l3 : Option mx_V) (v0 v1 v2 v3 v4 : mx_V) (S h : mx_H) (n : Int), mx_ex d 259 1551 [l0, l1, l2, l3] [v0, v1, v2, v3, v4] S h n = mx_ex d 259 1552 [l0, l1, l2, l3] [(0, 3), v0, v1, v2, v3, v4] S h n) ∧
  (∀ (d : Nat) (b a : Int) (l0 l1 l2 l3 : Option mx_V) (v2 v3 v4 v5 : mx_V) (S h : mx_H) (n : Int), mx_ex d 259 1552 [l0, l1, l2, l3] [(0, b), (0, a), v2, v3, v4, v5] S h n = mx_ex d 259 1553 [l0, l1, l2, l3] [(0, mx_w (a + b)), v2, v3, v4, v5] S h n) ∧
  (∀ (d : Nat) (i a : Int) (l0 l1 l2 l3 : Option mx_V) (v2 v3 v4 : mx_V) (S h : mx_H) (n : Int), mx_ex d 259 1553 [l0, l1, l2, l3] [(0, i), (2, a), v2, v3, v4] S h n = mx_gd ((S a (-2) = 20 ∨ S a (-2) = 24) ∧ 0 ≤ i ∧ i < S a (-1)) d 259 1554 [l0, l1, l2, l3] [(0, h a i), v2, v3, v4] S h n) ∧
  (∀ (d : Nat) (x0 x1 x2 a : Int) (l0 l1 l2 l3 : Option mx_V) (S h : mx_H) (n : Int), mx_ex (d + 1) 259 1554 [l0, l1, l2, l3] [(0, x0), (0, x1), (0, x2), (2, a)] S h n = mx_cl (S a (-2) = 7) d 139 [(2, a), (0, x2), (0, x1), (0, x0)] 259 1557 [l0, l1, l2, l3] [] S h n) ∧
  (∀ (d : Nat) (x : Int) (l0 l1 l3 : Option mx_V) (v0 : mx_V) (S h : mx_H) (n : Int), mx_ex d 259 1557 [l0, l1, some (2, x), l3] [v0] S h n = mx_ex d 259 1558 [l0, l1, some (2, x), l3] [(2, x), v0] S h n) ∧
  (∀ (d : Nat) (x : Int) (l1 l2 l3 : Option mx_V) (v0 v1 : mx_V) (S h : mx_H) (n : Int), mx_ex d 259 1558 [some (2, x), l1, l2, l3] [v0, v1] S h n = mx_ex d 259 1559 [some (2, x), l1, l2, l3] [(2, x), v0, v1] S h n) ∧
  (∀ (d : Nat) (x : Int) (l0 l1 l2 : Option mx_V) (v0 v1 v2 : mx_V) (S h : mx_H) (n : Int), mx_ex d 259 1559 [l0, l1, l2, some (0, x)] [v0, v1, v2] S h n = mx_ex d 259 1560 [l0, l1, l2, some (0, x)] [(0, x), v0, v1, v2] S h n) :=
  ⟨by intros; exact eq_i2 (o := mx_add) rfl,
   by intros; exact eq_iald rfl,
   by intros; exact eq_cv rfl (Nat.le_of_ble_eq_true rfl) rfl rfl rfl (Nat.le_of_ble_eq_true rfl),
   by intros; exact eq_ld rfl rfl,
   by intros; exact eq_ld rfl rfl,
   by intros; exact eq_ld rfl rfl,
   by intros; exact eq_push rfl,
   by intros; exact eq_i2 (o := mx_add) rfl,
   by intros; exact eq_iald rfl,
   by intros; exact eq_ld rfl rfl,
   by intros; exact eq_ld rfl rfl,
   by intros; exact eq_push rfl,
   by intros; exact eq_i2 (o := mx_add) rfl,
   by intros; exact eq_iald rfl,
   by intros; exact eq_ld rfl rfl,
   by intros; exact eq_ld rfl rfl,
   by intros; exact eq_push rfl,
   by intros; exact eq_i2 (o := mx_add) rfl,
   by intros; exact eq_iald rfl,
   by intros; exact eq_cv rfl (Nat.le_of_ble_eq_true rfl) rfl rfl rfl (Nat.le_of_ble_eq_true rfl),
   by intros; exact eq_ic0 rfl,
   by intros; exact eq_push rfl,
   by intros; exact eq_rr rfl,
   by intros; exact eq_ld rfl rfl,
   by intros; exact eq_ld rfl rfl,
   by intros; exact eq_ld rfl rfl,
   by intros; exact eq_push rfl,
   by intros; exact eq_i2 (o := mx_add) rfl,
   by intros; exact eq_iald rfl,
   by intros; exact eq_ld rfl rfl,
   by intros; exact eq_ld rfl rfl,
   by intros; exact eq_push rfl,
   by intros; exact eq_i2 (o := mx_add) rfl,
   by intros; exact eq_iald rfl,
   by intros; exact eq_cv rfl (Nat.le_of_ble_eq_true rfl) rfl rfl rfl (Nat.le_of_ble_eq_true rfl),
   by intros; exact eq_ld rfl rfl,
   by intros; exact eq_ld rfl rfl,
   by intros; exact eq_ld rfl rfl,
   by intros; exact eq_push rfl,
   by intros; exact eq_i2 (o := mx_add) rfl,
   by intros; exact eq_iald rfl,
   by intros; exact eq_ld rfl rfl,
   by intros; exact eq_ld rfl rfl,
   by intros; exact eq_push rfl,
   by intros; exact eq_i2 (o := mx_add) rfl,
   by intros; exact eq_iald rfl,
   by intros; exact eq_cv rfl (Nat.le_of_ble_eq_true rfl) rfl rfl rfl (Nat.le_of_ble_eq_true rfl),
   by intros; exact eq_ic0 rfl,
   by intros; exact eq_push rfl,
   by intros; exact eq_rr rfl,
   by intros; exact eq_ld rfl rfl,
   by intros; exact eq_ld rfl rfl,
   by intros; exact eq_ld rfl rfl,
   by intros; exact eq_push rfl,
   by intros; exact eq_i2 (o := mx_add) rfl,
   by intros; exact eq_iald rfl,
   by intros; exact eq_ld rfl rfl,
   by intros; exact eq_ld rfl rfl,
   by intros; exact eq_push rfl,
   by intros; exact eq_i2 (o := mx_add) rfl,
   by intros; exact eq_iald rfl,
   by intros; exact eq_ld rfl rfl,
   by intros; exact eq_ld rfl rfl,
   by intros; exact eq_push rfl,
   by intros; exact eq_i2 (o := mx_add) rfl,
   by intros; exact eq_iald rfl,
   by intros; exact eq_cv rfl (Nat.le_of_ble_eq_true rfl) rfl rfl rfl (Nat.le_of_ble_eq_true rfl),
   by intros; exact eq_ld rfl rfl,
   by intros; exact eq_ld rfl rfl,
   by intros; exact eq_ld rfl rfl⟩
theorem rw_L_law_16 :
  (∀ (d : Nat) (l0 l1 l2 l3 : Option mx_V) (v0 v1 v2 v3 : mx_V) (S h : mx_H) (n : Int), mx_ex d 259 1560 [l0, l1, l2, l3] [v0, v1, v2, v3] S h n = mx_ex d 259 1561 [l0, l1, l2, l3] [(0, 1), v0, v1, v2, v3] S h n) ∧
  (∀ (d : Nat) (b a : Int) (l0 l1 l2 l3 : Option mx_V) (v2 v3 v4 : mx_V) (S h : mx_H) (n : Int), mx_ex d 259 1561 [l0, l1, l2, l3] [(0, b), (0, a), v2, v3, v4] S h n = mx_ex d 259 1562 [l0, l1, l2, l3] [(0, mx_w (a + b)), v2, v3, v4] S h n) ∧
  (∀ (d : Nat) (i a : Int) (l0 l1 l2 l3 : Option mx_V) (v2 v3 : mx_V) (S h : mx_H) (n : Int), mx_ex d 259 1562 [l0, l1, l2, l3] [(0, i), (2, a), v2, v3] S h n = mx_gd ((S a (-2) = 20 ∨ S a (-2) = 24) ∧ 0 ≤ i ∧ i < S a (-1)) d 259 1563 [l0, l1, l2, l3] [(0, h a i), v2, v3] S h n) ∧
  (∀ (d : Nat) (x : Int) (l1 l2 l3 : Option mx_V) (v0 v1 v2 : mx_V) (S h : mx_H) (n : Int), mx_ex d 259 1563 [some (2, x), l1, l2, l3] [v0, v1, v2] S h n = mx_ex d 259 1564 [some (2, x), l1, l2, l3] [(2, x), v0, v1, v2] S h n) ∧
  (∀ (d : Nat) (x : Int) (l0 l1 l2 : Option mx_V) (v0 v1 v2 v3 : mx_V) (S h : mx_H) (n : Int), mx_ex d 259 1564 [l0, l1, l2, some (0, x)] [v0, v1, v2, v3] S h n = mx_ex d 259 1565 [l0, l1, l2, some (0, x)] [(0, x), v0, v1, v2, v3] S h n) ∧
  (∀ (d : Nat) (l0 l1 l2 l3 : Option mx_V) (v0 v1 v2 v3 v4 : mx_V) (S h : mx_H) (n : Int), mx_ex d 259 1565 [l0, l1, l2, l3] [v0, v1, v2, v3, v4] S h n = mx_ex d 259 1566 [l0, l1, l2, l3] [(0, 2), v0, v1, v2, v3, v4] S h n) ∧
  (∀ (d : Nat) (b a : Int) (l0 l1 l2 l3 : Option mx_V) (v2 v3 v4 v5 : mx_V) (S h : mx_H) (n : Int), mx_ex d 259 1566 [l0, l1, l2, l3] [(0, b), (0, a), v2, v3, v4, v5] S h n = mx_ex d 259 1567 [l0, l1, l2, l3] [(0, mx_w (a + b)), v2, v3, v4, v5] S h n) ∧
  (∀ (d : Nat) (i a : Int) (l0 l1 l2 l3 : Option mx_V) (v2 v3 v4 : mx_V) (S h : mx_H) (n : Int), mx_ex d 259 1567 [l0, l1, l2, l3] [(0, i), (2, a), v2, v3, v4] S h n = mx_gd ((S a (-2) = 20 ∨ S a (-2) = 24) ∧ 0 ≤ i ∧ i < S a (-1)) d 259 1568 [l0, l1, l2, l3] [(0, h a i), v2, v3, v4] S h n) ∧
  (∀ (d : Nat) (x : Int) (l1 l2 l3 : Option mx_V) (v0 v1 v2 v3 : mx_V) (S h : mx_H) (n : Int), mx_ex d 259 1568 [some (2, x), l1, l2, l3] [v0, v1, v2, v3] S h n = mx_ex d 259 1569 [some (2, x), l1, l2, l3] [(2, x), v0, v1, v2, v3] S h n) ∧
  (∀ (d : Nat) (x : Int) (l0 l1 l2 : Option mx_V) (v0 v1 v2 v3 v4 : mx_V) (S h : mx_H) (n : Int), mx_ex d 259 1569 [l0, l1, l2, some (0, x)] [v0, v1, v2, v3, v4] S h n = mx_ex d 259 1570 [l0, l1, l2, some (0, x)] [(0, x), v0, v1, v2, v3, v4] S h n) ∧
  (∀ (d : Nat) (l0 l1 l2 l3 : Option mx_V) (v0 v1 v2 v3 v4 v5 : mx_V) (S h : mx_H) (n : Int), mx_ex d 259 1570 [l0, l1, l2, l3] [v0, v1, v2, v3, v4, v5] S h n = mx_ex d 259 1571 [l0, l1, l2, l3] [(0, 3), v0, v1, v2, v3, v4, v5] S h n) ∧
  (∀ (d : Nat) (b a : Int) (l0 l1 l2 l3 : Option mx_V) (v2 v3 v4 v5 v6 : mx_V) (S h : mx_H) (n : Int), mx_ex d 259 1571 [l0, l1, l2, l3] [(0, b), (0, a), v2, v3, v4, v5, v6] S h n = mx_ex d 259 1572 [l0, l1, l2, l3] [(0, mx_w (a + b)), v2, v3, v4, v5, v6] S h n) ∧
  (∀ (d : Nat) (i a : Int) (l0 l1 l2 l3 : Option mx_V) (v2 v3 v4 v5 : mx_V) (S h : mx_H) (n : Int), mx_ex d 259 1572 [l0, l1, l2, l3] [(0, i), (2, a), v2, v3, v4, v5] S h n = mx_gd ((S a (-2) = 20 ∨ S a (-2) = 24) ∧ 0 ≤ i ∧ i < S a (-1)) d 259 1573 [l0, l1, l2, l3] [(0, h a i), v2, v3, v4, v5] S h n) ∧
  (∀ (d : Nat) (x0 x1 x2 a : Int) (l0 l1 l2 l3 : Option mx_V) (v4 : mx_V) (S h : mx_H) (n : Int), mx_ex (d + 1) 259 1573 [l0, l1, l2, l3] [(0, x0), (0, x1), (0, x2), (2, a), v4] S h n = mx_cl (S a (-2) = 13) d 245 [(2, a), (0, x2), (0, x1), (0, x0)] 259 1576 [l0, l1, l2, l3] [v4] S h n) ∧
  (∀ (d : Nat) (b a : Int) (l0 l1 l2 l3 : Option mx_V) (S h : mx_H) (n : Int), mx_ex d 259 1576 [l0, l1, l2, l3] [(0, b), (0, a)] S h n = mx_br (a = b) d 259 1653 1579 [l0, l1, l2, l3] [] S h n) ∧
  (∀ (d : Nat) (l0 l1 l2 l3 : Option mx_V) (S h : mx_H) (n : Int), mx_ex d 259 1579 [l0, l1, l2, l3] [] S h n = mx_ex d 259 1580 [l0, l1, l2, l3] [(0, 0)] S h n) ∧
  (∀ (d : Nat) (x : Int) (l0 l1 l2 l3 : Option mx_V) (S h : mx_H) (n : Int), mx_ex d 259 1580 [l0, l1, l2, l3] [(0, x)] S h n = mx_re (0 ≤ x ∧ x ≤ 1) (some (0, x)) S h n) ∧
  (∀ (d : Nat) (x : Int) (l0 l2 l3 : Option mx_V) (S h : mx_H) (n : Int), mx_ex d 259 1581 [l0, some (2, x), l2, l3] [] S h n = mx_ex d 259 1582 [l0, some (2, x), l2, l3] [(2, x)] S h n) ∧
  (∀ (d : Nat) (x : Int) (l1 l2 l3 : Option mx_V) (v0 : mx_V) (S h : mx_H) (n : Int), mx_ex d 259 1582 [some (2, x), l1, l2, l3] [v0] S h n = mx_ex d 259 1583 [some (2, x), l1, l2, l3] [(2, x), v0] S h n) ∧
  (∀ (d : Nat) (x : Int) (l0 l1 l2 : Option mx_V) (v0 v1 : mx_V) (S h : mx_H) (n : Int), mx_ex d 259 1583 [l0, l1, l2, some (0, x)] [v0, v1] S h n = mx_ex d 259 1584 [l0, l1, l2, some (0, x)] [(0, x), v0, v1] S h n) ∧
  (∀ (d : Nat) (l0 l1 l2 l3 : Option mx_V) (v0 v1 v2 : mx_V) (S h : mx_H) (n : Int), mx_ex d 259 1584 [l0, l1, l2, l3] [v0, v1, v2] S h n = mx_ex d 259 1585 [l0, l1, l2, l3] [(0, 1), v0, v1, v2] S h n) ∧
  (∀ (d : Nat) (b a : Int) (l0 l1 l2 l3 : Option mx_V) (v2 v3 : mx_V) (S h : mx_H) (n : Int), mx_ex d 259 1585 [l0, l1, l2, l3] [(0, b), (0, a), v2, v3] S h n = mx_ex d 259 1586 [l0, l1, l2, l3] [(0, mx_w (a + b)), v2, v3] S h n) ∧
  (∀ (d : Nat) (i a : Int) (l0 l1 l2 l3 : Option mx_V) (v2 : mx_V) (S h : mx_H) (n : Int), mx_ex d 259 1586 [l0, l1, l2, l3] [(0, i), (2, a), v2] S h n = mx_gd ((S a (-2) = 20 ∨ S a (-2) = 24) ∧ 0 ≤ i ∧ i < S a (-1)) d 259 1587 [l0, l1, l2, l3] [(0, h a i), v2] S h n) ∧
  (∀ (d : Nat) (x0 a : Int) (l0 l1 l2 l3 : Option mx_V) (S h : mx_H) (n : Int), mx_ex (d + 1) 259 1587 [l0, l1, l2, l3] [(0, x0), (2, a)] S h n = mx_cl (S a (-2) = 7) d 140 [(2, a), (0, x0)] 259 1590 [l0, l1, l2, l3] [] S h n) ∧
  (∀ (d : Nat) (x : Int) (l0 l1 l3 : Option mx_V) (v0 : mx_V) (S h : mx_H) (n : Int), mx_ex d 259 1590 [l0, l1, some (2, x), l3] [v0] S h n = mx_ex d 259 1591 [l0, l1, some (2, x), l3] [(2, x), v0] S h n) ∧
  (∀ (d : Nat) (x : Int) (l1 l2 l3 : Option mx_V) (v0 v1 : mx_V) (S h : mx_H) (n : Int), mx_ex d 259 1591 [some (2, x), l1, l2, l3] [v0, v1] S h n = mx_ex d 259 1592 [some (2, x), l1, l2, l3] [(2, x), v0, v1] S h n) ∧
  (∀ (d : Nat) (x : Int) (l0 l1 l2 : Option mx_V) (v0 v1 v2 : mx_V) (S h : mx_H) (n : Int), mx_ex d 259 1592 [l0, l1, l2, some (0, x)] [v0, v1, v2] S h n = mx_ex d 259 1593 [l0, l1, l2, some (0, x)] [(0, x), v0, v1, v2] S h n) ∧
  (∀ (d : Nat) (l0 l1 l2 l3 : Option mx_V) (v0 v1 v2 v3 : mx_V) (S h : mx_H) (n : Int), mx_ex d 259 1593 [l0, l1, l2, l3] [v0, v1, v2, v3] S h n = mx_ex d 259 1594 [l0, l1, l2, l3] [(0, 1), v0, v1, v2, v3] S h n) ∧
  (∀ (d : Nat) (b a : Int) (l0 l1 l2 l3 : Option mx_V) (v2 v3 v4 : mx_V) (S h : mx_H) (n : Int), mx_ex d 259 1594 [l0, l1, l2, l3] [(0, b), (0, a), v2, v3, v4] S h n = mx_ex d 259 1595 [l0, l1, l2, l3] [(0, mx_w (a + b)), v2, v3, v4] S h n) ∧
  (∀ (d : Nat) (i a : Int) (l0 l1 l2 l3 : Option mx_V) (v2 v3 : mx_V) (S h : mx_H) (n : Int), mx_ex d 259 1595 [l0, l1, l2, l3] [(0, i), (2, a), v2, v3] S h n = mx_gd ((S a (-2) = 20 ∨ S a (-2) = 24) ∧ 0 ≤ i ∧ i < S a (-1)) d 259 1596 [l0, l1, l2, l3] [(0, h a i), v2, v3] S h n) ∧
  (∀ (d : Nat) (x0 a : Int) (l0 l1 l2 l3 : Option mx_V) (v2 : mx_V) (S h : mx_H) (n : Int), mx_ex (d + 1) 259 1596 [l0, l1, l2, l3] [(0, x0), (2, a), v2] S h n = mx_cl (S a (-2) = 13) d 246 [(2, a), (0, x0)] 259 1599 [l0, l1, l2, l3] [v2] S h n) ∧
  (∀ (d : Nat) (b a : Int) (l0 l1 l2 l3 : Option mx_V) (S h : mx_H) (n : Int), mx_ex d 259 1599 [l0, l1, l2, l3] [(0, b), (0, a)] S h n = mx_br (a = b) d 259 1653 1602 [l0, l1, l2, l3] [] S h n) ∧
  (∀ (d : Nat) (l0 l1 l2 l3 : Option mx_V) (S h : mx_H) (n : Int), mx_ex d 259 1602 [l0, l1, l2, l3] [] S h n = mx_ex d 259 1603 [l0, l1, l2, l3] [(0, 0)] S h n) ∧
  (∀ (d : Nat) (x : Int) (l0 l1 l2 l3 : Option mx_V) (S h : mx_H) (n : Int), mx_ex d 259 1603 [l0, l1, l2, l3] [(0, x)] S h n = mx_re (0 ≤ x ∧ x ≤ 1) (some (0, x)) S h n) ∧
  (∀ (d : Nat) (x : Int) (l0 l2 l3 : Option mx_V) (S h : mx_H) (n : Int), mx_ex d 259 1604 [l0, some (2, x), l2, l3] [] S h n = mx_ex d 259 1605 [l0, some (2, x), l2, l3] [(2, x)] S h n) ∧
  (∀ (d : Nat) (x : Int) (l1 l2 l3 : Option mx_V) (v0 : mx_V) (S h : mx_H) (n : Int), mx_ex d 259 1605 [some (2, x), l1, l2, l3] [v0] S h n = mx_ex d 259 1606 [some (2, x), l1, l2, l3] [(2, x), v0] S h n) ∧
  (∀ (d : Nat) (x : Int) (l0 l1 l2 : Option mx_V) (v0 v1 : mx_V) (S h : mx_H) (n : Int), mx_ex d 259 1606 [l0, l1, l2, some (0, x)] [v0, v1] S h n = mx_ex d 259 1607 [l0, l1, l2, some (0, x)] [(0, x), v0, v1] S h n) ∧
  (∀ (d : Nat) (l0 l1 l2 l3 : Option mx_V) (v0 v1 v2 : mx_V) (S h : mx_H) (n : Int), mx_ex d 259 1607 [l0, l1, l2, l3] [v0, v1, v2] S h n = mx_ex d 259 1608 [l0, l1, l2, l3] [(0, 1), v0, v1, v2] S h n) ∧
  (∀ (d : Nat) (b a : Int) (l0 l1 l2 l3 : Option mx_V) (v2 v3 : mx_V) (S h : mx_H) (n : Int), mx_ex d 259 1608 [l0, l1, l2, l3] [(0, b), (0, a), v2, v3] S h n = mx_ex d 259 1609 [l0, l1, l2, l3] [(0, mx_w (a + b)), v2, v3] S h n) ∧
  (∀ (d : Nat) (i a : Int) (l0 l1 l2 l3 : Option mx_V) (v2 : mx_V) (S h : mx_H) (n : Int), mx_ex d 259 1609 [l0, l1, l2, l3] [(0, i), (2, a), v2] S h n = mx_gd ((S a (-2) = 20 ∨ S a (-2) = 24) ∧ 0 ≤ i ∧ i < S a (-1)) d 259 1610 [l0, l1, l2, l3] [(0, h a i), v2] S h n) ∧
  (∀ (d : Nat) (x0 a : Int) (l0 l1 l2 l3 : Option mx_V) (S h : mx_H) (n : Int), mx_ex (d + 1) 259 1610 [l0, l1, l2, l3] [(0, x0), (2, a)] S h n = mx_cl (S a (-2) = 7) d 141 [(2, a), (0, x0)] 259 1613 [l0, l1, l2, l3] [] S h n) ∧
  (∀ (d : Nat) (x : Int) (l0 l1 l3 : Option mx_V) (v0 : mx_V) (S h : mx_H) (n : Int), mx_ex d 259 1613 [l0, l1, some (2, x), l3] [v0] S h n = mx_ex d 259 1614 [l0, l1, some (2, x), l3] [(2, x), v0] S h n) ∧
  (∀ (d : Nat) (x : Int) (l1 l2 l3 : Option mx_V) (v0 v1 : mx_V) (S h : mx_H) (n : Int), mx_ex d 259 1614 [some (2, x), l1, l2, l3] [v0, v1] S h n = mx_ex d 259 1615 [some (2, x), l1, l2, l3] [(2, x), v0, v1] S h n) ∧
  (∀ (d : Nat) (x : Int) (l0 l1 l2 : Option mx_V) (v0 v1 v2 : mx_V) (S h : mx_H) (n : Int), mx_ex d 259 1615 [l0, l1, l2, some (0, x)] [v0, v1, v2] S h n = mx_ex d 259 1616 [l0, l1, l2, some (0, x)] [(0, x), v0, v1, v2] S h n) ∧
  (∀ (d : Nat) (l0 l1 l2 l3 : Option mx_V) (v0 v1 v2 v3 : mx_V) (S h : mx_H) (n : Int), mx_ex d 259 1616 [l0, l1, l2, l3] [v0, v1, v2, v3] S h n = mx_ex d 259 1617 [l0, l1, l2, l3] [(0, 1), v0, v1, v2, v3] S h n) ∧
  (∀ (d : Nat) (b a : Int) (l0 l1 l2 l3 : Option mx_V) (v2 v3 v4 : mx_V) (S h : mx_H) (n : Int), mx_ex d 259 1617 [l0, l1, l2, l3] [(0, b), (0, a), v2, v3, v4] S h n = mx_ex d 259 1618 [l0, l1, l2, l3] [(0, mx_w (a + b)), v2, v3, v4] S h n) ∧
  (∀ (d : Nat) (i a : Int) (l0 l1 l2 l3 : Option mx_V) (v2 v3 : mx_V) (S h : mx_H) (n : Int), mx_ex d 259 1618 [l0, l1, l2, l3] [(0, i), (2, a), v2, v3] S h n = mx_gd ((S a (-2) = 20 ∨ S a (-2) = 24) ∧ 0 ≤ i ∧ i < S a (-1)) d 259 1619 [l0, l1, l2, l3] [(0, h a i), v2, v3] S h n) ∧
  (∀ (d : Nat) (x0 a : Int) (l0 l1 l2 l3 : Option mx_V) (v2 : mx_V) (S h : mx_H) (n : Int), mx_ex (d + 1) 259 1619 [l0, l1, l2, l3] [(0, x0), (2, a), v2] S h n = mx_cl (S a (-2) = 13) d 247 [(2, a), (0, x0)] 259 1622 [l0, l1, l2, l3] [v2] S h n) ∧
  (∀ (d : Nat) (b a : Int) (l0 l1 l2 l3 : Option mx_V) (S h : mx_H) (n : Int), mx_ex d 259 1622 [l0, l1, l2, l3] [(0, b), (0, a)] S h n = mx_br (a = b) d 259 1653 1625 [l0, l1, l2, l3] [] S h n) ∧
  (∀ (d : Nat) (l0 l1 l2 l3 : Option mx_V) (S h : mx_H) (n : Int), mx_ex d 259 1625 [l0, l1, l2, l3] [] S h n = mx_ex d 259 1626 [l0, l1, l2, l3] [(0, 0)] S h n) ∧
  (∀ (d : Nat) (x : Int) (l0 l1 l2 l3 : Option mx_V) (S h : mx_H) (n : Int), mx_ex d 259 1626 [l0, l1, l2, l3] [(0, x)] S h n = mx_re (0 ≤ x ∧ x ≤ 1) (some (0, x)) S h n) ∧
  (∀ (d : Nat) (x : Int) (l0 l2 l3 : Option mx_V) (S h : mx_H) (n : Int), mx_ex d 259 1627 [l0, some (2, x), l2, l3] [] S h n = mx_ex d 259 1628 [l0, some (2, x), l2, l3] [(2, x)] S h n) ∧
  (∀ (d : Nat) (a : Int) (l0 l1 l2 l3 : Option mx_V) (S h : mx_H) (n : Int), mx_ex (d + 1) 259 1628 [l0, l1, l2, l3] [(2, a)] S h n = mx_cl (S a (-2) = 7) d 142 [(2, a)] 259 1631 [l0, l1, l2, l3] [] S h n) ∧
  (∀ (d : Nat) (x : Int) (l0 l1 l3 : Option mx_V) (v0 : mx_V) (S h : mx_H) (n : Int), mx_ex d 259 1631 [l0, l1, some (2, x), l3] [v0] S h n = mx_ex d 259 1632 [l0, l1, some (2, x), l3] [(2, x), v0] S h n) ∧
  (∀ (d : Nat) (a : Int) (l0 l1 l2 l3 : Option mx_V) (v1 : mx_V) (S h : mx_H) (n : Int), mx_ex (d + 1) 259 1632 [l0, l1, l2, l3] [(2, a), v1] S h n = mx_cl (S a (-2) = 13) d 248 [(2, a)] 259 1635 [l0, l1, l2, l3] [v1] S h n) ∧
  (∀ (d : Nat) (b a : Int) (l0 l1 l2 l3 : Option mx_V) (S h : mx_H) (n : Int), mx_ex d 259 1635 [l0, l1, l2, l3] [(0, b), (0, a)] S h n = mx_br (a = b) d 259 1653 1638 [l0, l1, l2, l3] [] S h n) ∧
  (∀ (d : Nat) (l0 l1 l2 l3 : Option mx_V) (S h : mx_H) (n : Int), mx_ex d 259 1638 [l0, l1, l2, l3] [] S h n = mx_ex d 259 1639 [l0, l1, l2, l3] [(0, 0)] S h n) ∧
  (∀ (d : Nat) (x : Int) (l0 l1 l2 l3 : Option mx_V) (S h : mx_H) (n : Int), mx_ex d 259 1639 [l0, l1, l2, l3] [(0, x)] S h n = mx_re (0 ≤ x ∧ x ≤ 1) (some (0, x)) S h n) ∧
  (∀ (d : Nat) (x : Int) (l0 l2 l3 : Option mx_V) (S h : mx_H) (n : Int), mx_ex d 259 1640 [l0, some (2, x), l2, l3] [] S h n = mx_ex d 259 1641 [l0, some (2, x), l2, l3] [(2, x)] S h n) ∧
  (∀ (d : Nat) (a : Int) (l0 l1 l2 l3 : Option mx_V) (S h : mx_H) (n : Int), mx_ex (d + 1) 259 1641 [l0, l1, l2, l3] [(2, a)] S h n = mx_cl (S a (-2) = 7) d 143 [(2, a)] 259 1644 [l0, l1, l2, l3] [] S h n) ∧
  (∀ (d : Nat) (x : Int) (l0 l1 l3 : Option mx_V) (v0 : mx_V) (S h : mx_H) (n : Int), mx_ex d 259 1644 [l0, l1, some (2, x), l3] [v0] S h n = mx_ex d 259 1645 [l0, l1, some (2, x), l3] [(2, x), v0] S h n) ∧
  (∀ (d : Nat) (a : Int) (l0 l1 l2 l3 : Option mx_V) (v1 : mx_V) (S h : mx_H) (n : Int), mx_ex (d + 1) 259 1645 [l0, l1, l2, l3] [(2, a), v1] S h n = mx_cl (S a (-2) = 13) d 249 [(2, a)] 259 1648 [l0, l1, l2, l3] [v1] S h n) ∧
  (∀ (d : Nat) (b a : Int) (l0 l1 l2 l3 : Option mx_V) (S h : mx_H) (n : Int), mx_ex d 259 1648 [l0, l1, l2, l3] [(0, b), (0, a)] S h n = mx_br (a = b) d 259 1653 1651 [l0, l1, l2, l3] [] S h n) ∧
  (∀ (d : Nat) (l0 l1 l2 l3 : Option mx_V) (S h : mx_H) (n : Int), mx_ex d 259 1651 [l0, l1, l2, l3] [] S h n = mx_ex d 259 1652 [l0, l1, l2, l3] [(0, 0)] S h n) ∧
  (∀ (d : Nat) (x : Int) (l0 l1 l2 l3 : Option mx_V) (S h : mx_H) (n : Int), mx_ex d 259 1652 [l0, l1, l2, l3] [(0, x)] S h n = mx_re (0 ≤ x ∧ x ≤ 1) (some (0, x)) S h n) ∧
  (∀ (d : Nat) (x : Int) (l0 l1 l2 : Option mx_V) (S h : mx_H) (n : Int), mx_ex d 259 1653 [l0, l1, l2, some (0, x)] [] S h n = mx_ex d 259 1656 [l0, l1, mx_nl l2, some (0, mx_w (x + 6))] [] S h n) ∧
  (∀ (d : Nat) (l0 l1 l2 l3 : Option mx_V) (S h : mx_H) (n : Int), mx_ex d 259 1656 [l0, l1, l2, l3] [] S h n = mx_ex d 259 18 [l0, l1, l2, l3] [] S h n) ∧
  (∀ (d : Nat) (l0 l1 l2 l3 : Option mx_V) (S h : mx_H) (n : Int), mx_ex d 259 1659 [l0, l1, l2, l3] [] S h n = mx_ex d 259 1660 [l0, l1, l2, l3] [(0, 1)] S h n) ∧
  (∀ (d : Nat) (x : Int) (l0 l1 l2 l3 : Option mx_V) (S h : mx_H) (n : Int), mx_ex d 259 1660 [l0, l1, l2, l3] [(0, x)] S h n = mx_re (0 ≤ x ∧ x ≤ 1) (some (0, x)) S h n) :=
  ⟨by intros; exact eq_push rfl,
   by intros; exact eq_i2 (o := mx_add) rfl,
   by intros; exact eq_iald rfl,
   by intros; exact eq_ld rfl rfl,
   by intros; exact eq_ld rfl rfl,
   by intros; exact eq_push rfl,
   by intros; exact eq_i2 (o := mx_add) rfl,
   by intros; exact eq_iald rfl,
   by intros; exact eq_ld rfl rfl,
   by intros; exact eq_ld rfl rfl,
   by intros; exact eq_push rfl,
   by intros; exact eq_i2 (o := mx_add) rfl,
   by intros; exact eq_iald rfl,
   by intros; exact eq_cv rfl (Nat.le_of_ble_eq_true rfl) rfl rfl rfl (Nat.le_of_ble_eq_true rfl),
   by intros; exact eq_ic0 rfl,
   by intros; exact eq_push rfl,
   by intros; exact eq_rr rfl,
   by intros; exact eq_ld rfl rfl,
   by intros; exact eq_ld rfl rfl,
   by intros; exact eq_ld rfl rfl,
   by intros; exact eq_push rfl,
   by intros; exact eq_i2 (o := mx_add) rfl,
   by intros; exact eq_iald rfl,
   by intros; exact eq_cv rfl (Nat.le_of_ble_eq_true rfl) rfl rfl rfl (Nat.le_of_ble_eq_true rfl),
   by intros; exact eq_ld rfl rfl,
   by intros; exact eq_ld rfl rfl,
   by intros; exact eq_ld rfl rfl,
   by intros; exact eq_push rfl,
   by intros; exact eq_i2 (o := mx_add) rfl,
   by intros; exact eq_iald rfl,
   by intros; exact eq_cv rfl (Nat.le_of_ble_eq_true rfl) rfl rfl rfl (Nat.le_of_ble_eq_true rfl),
   by intros; exact eq_ic0 rfl,
   by intros; exact eq_push rfl,
   by intros; exact eq_rr rfl,
   by intros; exact eq_ld rfl rfl,
   by intros; exact eq_ld rfl rfl,
   by intros; exact eq_ld rfl rfl,
   by intros; exact eq_push rfl,
   by intros; exact eq_i2 (o := mx_add) rfl,
   by intros; exact eq_iald rfl,
   by intros; exact eq_cv rfl (Nat.le_of_ble_eq_true rfl) rfl rfl rfl (Nat.le_of_ble_eq_true rfl),
   by intros; exact eq_ld rfl rfl,
   by intros; exact eq_ld rfl rfl,
   by intros; exact eq_ld rfl rfl,
   by intros; exact eq_push rfl,
   by intros; exact eq_i2 (o := mx_add) rfl,
   by intros; exact eq_iald rfl,
   by intros; exact eq_cv rfl (Nat.le_of_ble_eq_true rfl) rfl rfl rfl (Nat.le_of_ble_eq_true rfl),
   by intros; exact eq_ic0 rfl,
   by intros; exact eq_push rfl,
   by intros; exact eq_rr rfl,
   by intros; exact eq_ld rfl rfl,
   by intros; exact eq_cv rfl (Nat.le_of_ble_eq_true rfl) rfl rfl rfl (Nat.le_of_ble_eq_true rfl),
   by intros; exact eq_ld rfl rfl,
   by intros; exact eq_cv rfl (Nat.le_of_ble_eq_true rfl) rfl rfl rfl (Nat.le_of_ble_eq_true rfl),
   by intros; exact eq_ic0 rfl,
   by intros; exact eq_push rfl,
   by intros; exact eq_rr rfl,
   by intros; exact eq_ld rfl rfl,
   by intros; exact eq_cv rfl (Nat.le_of_ble_eq_true rfl) rfl rfl rfl (Nat.le_of_ble_eq_true rfl),
   by intros; exact eq_ld rfl rfl,
   by intros; exact eq_cv rfl (Nat.le_of_ble_eq_true rfl) rfl rfl rfl (Nat.le_of_ble_eq_true rfl),
   by intros; exact eq_ic0 rfl,
   by intros; exact eq_push rfl,
   by intros; exact eq_rr rfl,
   by intros; exact eq_inc rfl rfl rfl,
   by intros; exact eq_go rfl,
   by intros; exact eq_push rfl,
   by intros; exact eq_rr rfl⟩
