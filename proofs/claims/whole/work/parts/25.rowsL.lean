/-! PRINTED (gen_rows.py): a row an instruction -/
theorem rw_L_law :
  (∀ (d : Nat) (a0 : Int) (S h : mx_H) (n : Int), mx_M d 263 [(2, a0)] S h n = mx_ex d 263 0 [some (2, a0), none, none, none] [] S h n) ∧
  (∀ (d : Nat) (l0 l1 l2 l3 : Option mx_V) (S h : mx_H) (n : Int), mx_ex d 263 0 [l0, l1, l2, l3] [] S h n = mx_ex d 263 3 [l0, l1, l2, l3] [(2, n)] (mx_t S n 7 0) (mx_z h n) (n + 1)) ∧
  (∀ (d : Nat) (a : Int) (l0 l1 l2 l3 : Option mx_V) (S h : mx_H) (n : Int), mx_ex d 263 3 [l0, l1, l2, l3] [(2, a)] S h n = mx_ex d 263 4 [l0, l1, l2, l3] [(2, a), (2, a)] S h n) ∧
  (∀ (d : Nat) (a : Int) (l0 l1 l2 l3 : Option mx_V) (v1 : mx_V) (S h : mx_H) (n : Int), mx_ex (d + 1) 263 4 [l0, l1, l2, l3] [(2, a), v1] S h n = mx_cl (7 ≤ S a (-2) ∧ S a (-2) ≤ 7) d 100 [(2, a)] 263 7 [l0, l1, l2, l3] [v1] S h n) ∧
  (∀ (d : Nat) (x : Int) (l0 l1 l2 l3 : Option mx_V) (S h : mx_H) (n : Int), mx_ex d 263 7 [l0, l1, l2, l3] [(2, x)] S h n = mx_ex d 263 8 [mx_nl l0, some (2, x), l2, l3] [] S h n) ∧
  (∀ (d : Nat) (l0 l1 l2 l3 : Option mx_V) (S h : mx_H) (n : Int), mx_ex d 263 8 [l0, l1, l2, l3] [] S h n = mx_ex d 263 11 [l0, l1, l2, l3] [(2, n)] (mx_t S n 13 0) (mx_z h n) (n + 1)) ∧
  (∀ (d : Nat) (a : Int) (l0 l1 l2 l3 : Option mx_V) (S h : mx_H) (n : Int), mx_ex d 263 11 [l0, l1, l2, l3] [(2, a)] S h n = mx_ex d 263 12 [l0, l1, l2, l3] [(2, a), (2, a)] S h n) ∧
  (∀ (d : Nat) (a : Int) (l0 l1 l2 l3 : Option mx_V) (v1 : mx_V) (S h : mx_H) (n : Int), mx_ex (d + 1) 263 12 [l0, l1, l2, l3] [(2, a), v1] S h n = mx_cl (13 ≤ S a (-2) ∧ S a (-2) ≤ 13) d 156 [(2, a)] 263 15 [l0, l1, l2, l3] [v1] S h n) ∧
  (∀ (d : Nat) (x : Int) (l0 l1 l2 l3 : Option mx_V) (S h : mx_H) (n : Int), mx_ex d 263 15 [l0, l1, l2, l3] [(2, x)] S h n = mx_ex d 263 16 [l0, mx_nl l1, some (2, x), l3] [] S h n) ∧
  (∀ (d : Nat) (l0 l1 l2 l3 : Option mx_V) (S h : mx_H) (n : Int), mx_ex d 263 16 [l0, l1, l2, l3] [] S h n = mx_ex d 263 17 [l0, l1, l2, l3] [(0, 0)] S h n) ∧
  (∀ (d : Nat) (x : Int) (l0 l1 l2 l3 : Option mx_V) (S h : mx_H) (n : Int), mx_ex d 263 17 [l0, l1, l2, l3] [(0, x)] S h n = mx_ex d 263 18 [l0, l1, mx_nl l2, some (0, x)] [] S h n) ∧
  (∀ (d : Nat) (x : Int) (l0 l1 l2 : Option mx_V) (S h : mx_H) (n : Int), mx_ex d 263 18 [l0, l1, l2, some (0, x)] [] S h n = mx_ex d 263 19 [l0, l1, l2, some (0, x)] [(0, x)] S h n) ∧
  (∀ (d : Nat) (x : Int) (l1 l2 l3 : Option mx_V) (v0 : mx_V) (S h : mx_H) (n : Int), mx_ex d 263 19 [some (2, x), l1, l2, l3] [v0] S h n = mx_ex d 263 20 [some (2, x), l1, l2, l3] [(2, x), v0] S h n) ∧
  (∀ (d : Nat) (a : Int) (l0 l1 l2 l3 : Option mx_V) (v1 : mx_V) (S h : mx_H) (n : Int), mx_ex d 263 20 [l0, l1, l2, l3] [(2, a), v1] S h n = mx_gd (20 ≤ S a (-2) ∧ S a (-2) ≤ 25) d 263 21 [l0, l1, l2, l3] [(0, S a (-1)), v1] S h n) ∧
  (∀ (d : Nat) (l0 l1 l2 l3 : Option mx_V) (v0 v1 : mx_V) (S h : mx_H) (n : Int), mx_ex d 263 21 [l0, l1, l2, l3] [v0, v1] S h n = mx_ex d 263 23 [l0, l1, l2, l3] [(0, 6), v0, v1] S h n) ∧
  (∀ (d : Nat) (b a : Int) (l0 l1 l2 l3 : Option mx_V) (v2 : mx_V) (S h : mx_H) (n : Int), mx_ex d 263 23 [l0, l1, l2, l3] [(0, b), (0, a), v2] S h n = mx_ex d 263 24 [l0, l1, l2, l3] [(0, mx_w (a - b)), v2] S h n) ∧
  (∀ (d : Nat) (b a : Int) (l0 l1 l2 l3 : Option mx_V) (S h : mx_H) (n : Int), mx_ex d 263 24 [l0, l1, l2, l3] [(0, b), (0, a)] S h n = mx_br (b < a) d 263 1659 27 [l0, l1, l2, l3] [] S h n) ∧
  (∀ (d : Nat) (x : Int) (l1 l2 l3 : Option mx_V) (S h : mx_H) (n : Int), mx_ex d 263 27 [some (2, x), l1, l2, l3] [] S h n = mx_ex d 263 28 [some (2, x), l1, l2, l3] [(2, x)] S h n) ∧
  (∀ (d : Nat) (x : Int) (l0 l1 l2 : Option mx_V) (v0 : mx_V) (S h : mx_H) (n : Int), mx_ex d 263 28 [l0, l1, l2, some (0, x)] [v0] S h n = mx_ex d 263 29 [l0, l1, l2, some (0, x)] [(0, x), v0] S h n) ∧
  (∀ (d : Nat) (i a : Int) (l0 l1 l2 l3 : Option mx_V) (S h : mx_H) (n : Int), mx_ex d 263 29 [l0, l1, l2, l3] [(0, i), (2, a)] S h n = mx_gd ((S a (-2) = 20 ∨ S a (-2) = 24) ∧ 0 ≤ i ∧ i < S a (-1)) d 263 30 [l0, l1, l2, l3] [(0, h a i)] S h n) ∧
  (∀ (d : Nat) (l0 l1 l2 l3 : Option mx_V) (v0 : mx_V) (S h : mx_H) (n : Int), mx_ex d 263 30 [l0, l1, l2, l3] [v0] S h n = mx_ex d 263 32 [l0, l1, l2, l3] [(0, 63), v0] S h n) ∧
  (∀ (d : Nat) (b a : Int) (l0 l1 l2 l3 : Option mx_V) (S h : mx_H) (n : Int), mx_ex d 263 32 [l0, l1, l2, l3] [(0, b), (0, a)] S h n = mx_ex d 263 33 [l0, l1, l2, l3] [(0, mx_and a b)] S h n) ∧
  (∀ (d : Nat) (a : Int) (l0 l1 l2 l3 : Option mx_V) (S h : mx_H) (n : Int), mx_ex d 263 33 [l0, l1, l2, l3] [(0, a)] S h n = mx_sw a [(0, 220), (1, 283), (2, 296), (3, 339), (4, 372), (5, 435), (6, 468), (7, 511), (8, 544), (9, 578), (10, 601), (11, 654), (12, 687), (13, 710), (14, 723), (15, 756), (16, 779), (17, 802), (18, 855), (19, 868), (20, 891), (21, 914), (22, 958), (23, 1001), (24, 1034), (25, 1067), (26, 1100), (27, 1123), (28, 1136), (29, 1159), (30, 1193), (31, 1267), (32, 1280), (33, 1333), (34, 1376), (35, 1419), (36, 1462), (37, 1505), (38, 1538), (39, 1581), (40, 1604), (41, 1627), (42, 1640)] d 263 1653 [l0, l1, l2, l3] [] S h n) ∧
  (∀ (d : Nat) (x : Int) (l0 l2 l3 : Option mx_V) (S h : mx_H) (n : Int), mx_ex d 263 220 [l0, some (2, x), l2, l3] [] S h n = mx_ex d 263 221 [l0, some (2, x), l2, l3] [(2, x)] S h n) ∧
  (∀ (d : Nat) (x : Int) (l1 l2 l3 : Option mx_V) (v0 : mx_V) (S h : mx_H) (n : Int), mx_ex d 263 221 [some (2, x), l1, l2, l3] [v0] S h n = mx_ex d 263 222 [some (2, x), l1, l2, l3] [(2, x), v0] S h n) ∧
  (∀ (d : Nat) (x : Int) (l0 l1 l2 : Option mx_V) (v0 v1 : mx_V) (S h : mx_H) (n : Int), mx_ex d 263 222 [l0, l1, l2, some (0, x)] [v0, v1] S h n = mx_ex d 263 223 [l0, l1, l2, some (0, x)] [(0, x), v0, v1] S h n) ∧
  (∀ (d : Nat) (l0 l1 l2 l3 : Option mx_V) (v0 v1 v2 : mx_V) (S h : mx_H) (n : Int), mx_ex d 263 223 [l0, l1, l2, l3] [v0, v1, v2] S h n = mx_ex d 263 224 [l0, l1, l2, l3] [(0, 1), v0, v1, v2] S h n) ∧
  (∀ (d : Nat) (b a : Int) (l0 l1 l2 l3 : Option mx_V) (v2 v3 : mx_V) (S h : mx_H) (n : Int), mx_ex d 263 224 [l0, l1, l2, l3] [(0, b), (0, a), v2, v3] S h n = mx_ex d 263 225 [l0, l1, l2, l3] [(0, mx_w (a + b)), v2, v3] S h n) ∧
  (∀ (d : Nat) (i a : Int) (l0 l1 l2 l3 : Option mx_V) (v2 : mx_V) (S h : mx_H) (n : Int), mx_ex d 263 225 [l0, l1, l2, l3] [(0, i), (2, a), v2] S h n = mx_gd ((S a (-2) = 20 ∨ S a (-2) = 24) ∧ 0 ≤ i ∧ i < S a (-1)) d 263 226 [l0, l1, l2, l3] [(0, h a i), v2] S h n) ∧
  (∀ (d : Nat) (a : Int) (l0 l1 l2 l3 : Option mx_V) (v1 : mx_V) (S h : mx_H) (n : Int), mx_ex d 263 226 [l0, l1, l2, l3] [(0, a), v1] S h n = mx_ex d 263 227 [l0, l1, l2, l3] [(1, a), v1] S h n) ∧
  (∀ (d : Nat) (l0 l1 l2 l3 : Option mx_V) (v0 v1 : mx_V) (S h : mx_H) (n : Int), mx_ex d 263 227 [l0, l1, l2, l3] [v0, v1] S h n = mx_ex d 263 229 [l0, l1, l2, l3] [(0, 32), v0, v1] S h n) ∧
  (∀ (d : Nat) (b a : Int) (l0 l1 l2 l3 : Option mx_V) (v2 : mx_V) (S h : mx_H) (n : Int), mx_ex d 263 229 [l0, l1, l2, l3] [(0, b), (1, a), v2] S h n = mx_ex d 263 230 [l0, l1, l2, l3] [(1, ml_shl a b), v2] S h n) ∧
  (∀ (d : Nat) (x : Int) (l1 l2 l3 : Option mx_V) (v0 v1 : mx_V) (S h : mx_H) (n : Int), mx_ex d 263 230 [some (2, x), l1, l2, l3] [v0, v1] S h n = mx_ex d 263 231 [some (2, x), l1, l2, l3] [(2, x), v0, v1] S h n) ∧
  (∀ (d : Nat) (x : Int) (l0 l1 l2 : Option mx_V) (v0 v1 v2 : mx_V) (S h : mx_H) (n : Int), mx_ex d 263 231 [l0, l1, l2, some (0, x)] [v0, v1, v2] S h n = mx_ex d 263 232 [l0, l1, l2, some (0, x)] [(0, x), v0, v1, v2] S h n) ∧
  (∀ (d : Nat) (l0 l1 l2 l3 : Option mx_V) (v0 v1 v2 v3 : mx_V) (S h : mx_H) (n : Int), mx_ex d 263 232 [l0, l1, l2, l3] [v0, v1, v2, v3] S h n = mx_ex d 263 233 [l0, l1, l2, l3] [(0, 2), v0, v1, v2, v3] S h n) ∧
  (∀ (d : Nat) (b a : Int) (l0 l1 l2 l3 : Option mx_V) (v2 v3 v4 : mx_V) (S h : mx_H) (n : Int), mx_ex d 263 233 [l0, l1, l2, l3] [(0, b), (0, a), v2, v3, v4] S h n = mx_ex d 263 234 [l0, l1, l2, l3] [(0, mx_w (a + b)), v2, v3, v4] S h n) ∧
  (∀ (d : Nat) (i a : Int) (l0 l1 l2 l3 : Option mx_V) (v2 v3 : mx_V) (S h : mx_H) (n : Int), mx_ex d 263 234 [l0, l1, l2, l3] [(0, i), (2, a), v2, v3] S h n = mx_gd ((S a (-2) = 20 ∨ S a (-2) = 24) ∧ 0 ≤ i ∧ i < S a (-1)) d 263 235 [l0, l1, l2, l3] [(0, h a i), v2, v3] S h n) ∧
  (∀ (d : Nat) (a : Int) (l0 l1 l2 l3 : Option mx_V) (v1 v2 : mx_V) (S h : mx_H) (n : Int), mx_ex d 263 235 [l0, l1, l2, l3] [(0, a), v1, v2] S h n = mx_ex d 263 236 [l0, l1, l2, l3] [(1, a), v1, v2] S h n) ∧
  (∀ (d : Nat) (l0 l1 l2 l3 : Option mx_V) (v0 v1 v2 : mx_V) (S h : mx_H) (n : Int), mx_ex d 263 236 [l0, l1, l2, l3] [v0, v1, v2] S h n = mx_ex d 263 239 [l0, l1, l2, l3] [(1, 4294967295), v0, v1, v2] S h n) ∧
  (∀ (d : Nat) (b a : Int) (l0 l1 l2 l3 : Option mx_V) (v2 v3 : mx_V) (S h : mx_H) (n : Int), mx_ex d 263 239 [l0, l1, l2, l3] [(1, b), (1, a), v2, v3] S h n = mx_ex d 263 240 [l0, l1, l2, l3] [(1, ml_and a b), v2, v3] S h n) ∧
  (∀ (d : Nat) (b a : Int) (l0 l1 l2 l3 : Option mx_V) (v2 : mx_V) (S h : mx_H) (n : Int), mx_ex d 263 240 [l0, l1, l2, l3] [(1, b), (1, a), v2] S h n = mx_ex d 263 241 [l0, l1, l2, l3] [(1, ml_or a b), v2] S h n) ∧
  (∀ (d : Nat) (x : Int) (l1 l2 l3 : Option mx_V) (v0 v1 : mx_V) (S h : mx_H) (n : Int), mx_ex d 263 241 [some (2, x), l1, l2, l3] [v0, v1] S h n = mx_ex d 263 242 [some (2, x), l1, l2, l3] [(2, x), v0, v1] S h n) ∧
  (∀ (d : Nat) (x : Int) (l0 l1 l2 : Option mx_V) (v0 v1 v2 : mx_V) (S h : mx_H) (n : Int), mx_ex d 263 242 [l0, l1, l2, some (0, x)] [v0, v1, v2] S h n = mx_ex d 263 243 [l0, l1, l2, some (0, x)] [(0, x), v0, v1, v2] S h n) ∧
  (∀ (d : Nat) (l0 l1 l2 l3 : Option mx_V) (v0 v1 v2 v3 : mx_V) (S h : mx_H) (n : Int), mx_ex d 263 243 [l0, l1, l2, l3] [v0, v1, v2, v3] S h n = mx_ex d 263 244 [l0, l1, l2, l3] [(0, 3), v0, v1, v2, v3] S h n) ∧
  (∀ (d : Nat) (b a : Int) (l0 l1 l2 l3 : Option mx_V) (v2 v3 v4 : mx_V) (S h : mx_H) (n : Int), mx_ex d 263 244 [l0, l1, l2, l3] [(0, b), (0, a), v2, v3, v4] S h n = mx_ex d 263 245 [l0, l1, l2, l3] [(0, mx_w (a + b)), v2, v3, v4] S h n) ∧
  (∀ (d : Nat) (i a : Int) (l0 l1 l2 l3 : Option mx_V) (v2 v3 : mx_V) (S h : mx_H) (n : Int), mx_ex d 263 245 [l0, l1, l2, l3] [(0, i), (2, a), v2, v3] S h n = mx_gd ((S a (-2) = 20 ∨ S a (-2) = 24) ∧ 0 ≤ i ∧ i < S a (-1)) d 263 246 [l0, l1, l2, l3] [(0, h a i), v2, v3] S h n) ∧
  (∀ (d : Nat) (x0 x1 a : Int) (l0 l1 l2 l3 : Option mx_V) (S h : mx_H) (n : Int), mx_ex (d + 1) 263 246 [l0, l1, l2, l3] [(0, x0), (1, x1), (2, a)] S h n = mx_cl (S a (-2) = 7) d 101 [(2, a), (1, x1), (0, x0)] 263 249 [l0, l1, l2, l3] [] S h n) ∧
  (∀ (d : Nat) (x : Int) (l0 l1 l3 : Option mx_V) (v0 : mx_V) (S h : mx_H) (n : Int), mx_ex d 263 249 [l0, l1, some (2, x), l3] [v0] S h n = mx_ex d 263 250 [l0, l1, some (2, x), l3] [(2, x), v0] S h n) ∧
  (∀ (d : Nat) (x : Int) (l1 l2 l3 : Option mx_V) (v0 v1 : mx_V) (S h : mx_H) (n : Int), mx_ex d 263 250 [some (2, x), l1, l2, l3] [v0, v1] S h n = mx_ex d 263 251 [some (2, x), l1, l2, l3] [(2, x), v0, v1] S h n) ∧
  (∀ (d : Nat) (x : Int) (l0 l1 l2 : Option mx_V) (v0 v1 v2 : mx_V) (S h : mx_H) (n : Int), mx_ex d 263 251 [l0, l1, l2, some (0, x)] [v0, v1, v2] S h n = mx_ex d 263 252 [l0, l1, l2, some (0, x)] [(0, x), v0, v1, v2] S h n) ∧
  (∀ (d : Nat) (l0 l1 l2 l3 : Option mx_V) (v0 v1 v2 v3 : mx_V) (S h : mx_H) (n : Int), mx_ex d 263 252 [l0, l1, l2, l3] [v0, v1, v2, v3] S h n = mx_ex d 263 253 [l0, l1, l2, l3] [(0, 1), v0, v1, v2, v3] S h n) ∧
  (∀ (d : Nat) (b a : Int) (l0 l1 l2 l3 : Option mx_V) (v2 v3 v4 : mx_V) (S h : mx_H) (n : Int), mx_ex d 263 253 [l0, l1, l2, l3] [(0, b), (0, a), v2, v3, v4] S h n = mx_ex d 263 254 [l0, l1, l2, l3] [(0, mx_w (a + b)), v2, v3, v4] S h n) ∧
  (∀ (d : Nat) (i a : Int) (l0 l1 l2 l3 : Option mx_V) (v2 v3 : mx_V) (S h : mx_H) (n : Int), mx_ex d 263 254 [l0, l1, l2, l3] [(0, i), (2, a), v2, v3] S h n = mx_gd ((S a (-2) = 20 ∨ S a (-2) = 24) ∧ 0 ≤ i ∧ i < S a (-1)) d 263 255 [l0, l1, l2, l3] [(0, h a i), v2, v3] S h n) ∧
  (∀ (d : Nat) (a : Int) (l0 l1 l2 l3 : Option mx_V) (v1 v2 : mx_V) (S h : mx_H) (n : Int), mx_ex d 263 255 [l0, l1, l2, l3] [(0, a), v1, v2] S h n = mx_ex d 263 256 [l0, l1, l2, l3] [(1, a), v1, v2] S h n) ∧
  (∀ (d : Nat) (l0 l1 l2 l3 : Option mx_V) (v0 v1 v2 : mx_V) (S h : mx_H) (n : Int), mx_ex d 263 256 [l0, l1, l2, l3] [v0, v1, v2] S h n = mx_ex d 263 258 [l0, l1, l2, l3] [(0, 32), v0, v1, v2] S h n) ∧
  (∀ (d : Nat) (b a : Int) (l0 l1 l2 l3 : Option mx_V) (v2 v3 : mx_V) (S h : mx_H) (n : Int), mx_ex d 263 258 [l0, l1, l2, l3] [(0, b), (1, a), v2, v3] S h n = mx_ex d 263 259 [l0, l1, l2, l3] [(1, ml_shl a b), v2, v3] S h n) ∧
  (∀ (d : Nat) (x : Int) (l1 l2 l3 : Option mx_V) (v0 v1 v2 : mx_V) (S h : mx_H) (n : Int), mx_ex d 263 259 [some (2, x), l1, l2, l3] [v0, v1, v2] S h n = mx_ex d 263 260 [some (2, x), l1, l2, l3] [(2, x), v0, v1, v2] S h n) ∧
  (∀ (d : Nat) (x : Int) (l0 l1 l2 : Option mx_V) (v0 v1 v2 v3 : mx_V) (S h : mx_H) (n : Int), mx_ex d 263 260 [l0, l1, l2, some (0, x)] [v0, v1, v2, v3] S h n = mx_ex d 263 261 [l0, l1, l2, some (0, x)] [(0, x), v0, v1, v2, v3] S h n) ∧
  (∀ (d : Nat) (l0 l1 l2 l3 : Option mx_V) (v0 v1 v2 v3 v4 : mx_V) (S h : mx_H) (n : Int), mx_ex d 263 261 [l0, l1, l2, l3] [v0, v1, v2, v3, v4] S h n = mx_ex d 263 262 [l0, l1, l2, l3] [(0, 2), v0, v1, v2, v3, v4] S h n) ∧
  (∀ (d : Nat) (b a : Int) (l0 l1 l2 l3 : Option mx_V) (v2 v3 v4 v5 : mx_V) (S h : mx_H) (n : Int), mx_ex d 263 262 [l0, l1, l2, l3] [(0, b), (0, a), v2, v3, v4, v5] S h n = mx_ex d 263 263 [l0, l1, l2, l3] [(0, mx_w (a + b)), v2, v3, v4, v5] S h n) ∧
  (∀ (d : Nat) (i a : Int) (l0 l1 l2 l3 : Option mx_V) (v2 v3 v4 : mx_V) (S h : mx_H) (n : Int), mx_ex d 263 263 [l0, l1, l2, l3] [(0, i), (2, a), v2, v3, v4] S h n = mx_gd ((S a (-2) = 20 ∨ S a (-2) = 24) ∧ 0 ≤ i ∧ i < S a (-1)) d 263 264 [l0, l1, l2, l3] [(0, h a i), v2, v3, v4] S h n) ∧
  (∀ (d : Nat) (a : Int) (l0 l1 l2 l3 : Option mx_V) (v1 v2 v3 : mx_V) (S h : mx_H) (n : Int), mx_ex d 263 264 [l0, l1, l2, l3] [(0, a), v1, v2, v3] S h n = mx_ex d 263 265 [l0, l1, l2, l3] [(1, a), v1, v2, v3] S h n) ∧
  (∀ (d : Nat) (l0 l1 l2 l3 : Option mx_V) (v0 v1 v2 v3 : mx_V) (S h : mx_H) (n : Int), mx_ex d 263 265 [l0, l1, l2, l3] [v0, v1, v2, v3] S h n = mx_ex d 263 268 [l0, l1, l2, l3] [(1, 4294967295), v0, v1, v2, v3] S h n) ∧
  (∀ (d : Nat) (b a : Int) (l0 l1 l2 l3 : Option mx_V) (v2 v3 v4 : mx_V) (S h : mx_H) (n : Int), mx_ex d 263 268 [l0, l1, l2, l3] [(1, b), (1, a), v2, v3, v4] S h n = mx_ex d 263 269 [l0, l1, l2, l3] [(1, ml_and a b), v2, v3, v4] S h n) ∧
  (∀ (d : Nat) (b a : Int) (l0 l1 l2 l3 : Option mx_V) (v2 v3 : mx_V) (S h : mx_H) (n : Int), mx_ex d 263 269 [l0, l1, l2, l3] [(1, b), (1, a), v2, v3] S h n = mx_ex d 263 270 [l0, l1, l2, l3] [(1, ml_or a b), v2, v3] S h n) ∧
  (∀ (d : Nat) (x : Int) (l1 l2 l3 : Option mx_V) (v0 v1 v2 : mx_V) (S h : mx_H) (n : Int), mx_ex d 263 270 [some (2, x), l1, l2, l3] [v0, v1, v2] S h n = mx_ex d 263 271 [some (2, x), l1, l2, l3] [(2, x), v0, v1, v2] S h n) ∧
  (∀ (d : Nat) (x : Int) (l0 l1 l2 : Option mx_V) (v0 v1 v2 v3 : mx_V) (S h : mx_H) (n : Int), mx_ex d 263 271 [l0, l1, l2, some (0, x)] [v0, v1, v2, v3] S h n = mx_ex d 263 272 [l0, l1, l2, some (0, x)] [(0, x), v0, v1, v2, v3] S h n) ∧
  (∀ (d : Nat) (l0 l1 l2 l3 : Option mx_V) (v0 v1 v2 v3 v4 : mx_V) (S h : mx_H) (n : Int), mx_ex d 263 272 [l0, l1, l2, l3] [v0, v1, v2, v3, v4] S h n = mx_ex d 263 273 [l0, l1, l2, l3] [(0, 3), v0, v1, v2, v3, v4] S h n) ∧
  (∀ (d : Nat) (b a : Int) (l0 l1 l2 l3 : Option mx_V) (v2 v3 v4 v5 : mx_V) (S h : mx_H) (n : Int), mx_ex d 263 273 [l0, l1, l2, l3] [(0, b), (0, a), v2, v3, v4, v5] S h n = mx_ex d 263 274 [l0, l1, l2, l3] [(0, mx_w (a + b)), v2, v3, v4, v5] S h n) ∧
  (∀ (d : Nat) (i a : Int) (l0 l1 l2 l3 : Option mx_V) (v2 v3 v4 : mx_V) (S h : mx_H) (n : Int), mx_ex d 263 274 [l0, l1, l2, l3] [(0, i), (2, a), v2, v3, v4] S h n = mx_gd ((S a (-2) = 20 ∨ S a (-2) = 24) ∧ 0 ≤ i ∧ i < S a (-1)) d 263 275 [l0, l1, l2, l3] [(0, h a i), v2, v3, v4] S h n) :=
  ⟨by intros; exact rfl,
   by intros; exact eq_new rfl,
   by intros; exact eq_dup rfl (by decide),
   by intros; exact eq_ci rfl (Nat.le_of_ble_eq_true rfl) rfl rfl rfl (Nat.le_of_ble_eq_true rfl),
   by intros; exact eq_st rfl (by decide) (Nat.le_of_ble_eq_true rfl) rfl,
   by intros; exact eq_new rfl,
   by intros; exact eq_dup rfl (by decide),
   by intros; exact eq_ci rfl (Nat.le_of_ble_eq_true rfl) rfl rfl rfl (Nat.le_of_ble_eq_true rfl),
   by intros; exact eq_st rfl (by decide) (Nat.le_of_ble_eq_true rfl) rfl,
   by intros; exact eq_push rfl,
   by intros; exact eq_st rfl (by decide) (Nat.le_of_ble_eq_true rfl) rfl,
   by intros; exact eq_ld rfl rfl,
   by intros; exact eq_ld rfl rfl,
   by intros; exact eq_alen rfl,
   by intros; exact eq_push rfl,
   by intros; exact eq_i2 (o := mx_sub) rfl,
   by intros; exact eq_ic4 rfl,
   by intros; exact eq_ld rfl rfl,
   by intros; exact eq_ld rfl rfl,
   by intros; exact eq_iald rfl,
   by intros; exact eq_push rfl,
   by intros; exact eq_i2 (o := mx_and) rfl,
   by intros; exact eq_sw rfl,
   by intros; exact eq_ld rfl rfl,
   by intros; exact eq_ld rfl rfl,
   by intros; exact eq_ld rfl rfl,
   by intros; exact eq_push rfl,
   by intros; exact eq_i2 (o := mx_add) rfl,
   by intros; exact eq_iald rfl,
   by intros; exact eq_i2l rfl,
   by intros; exact eq_push rfl,
   by intros; exact eq_ls (o := ml_shl) rfl,
   by intros; exact eq_ld rfl rfl,
   by intros; exact eq_ld rfl rfl,
   by intros; exact eq_push rfl,
   by intros; exact eq_i2 (o := mx_add) rfl,
   by intros; exact eq_iald rfl,
   by intros; exact eq_i2l rfl,
   by intros; exact eq_push rfl,
   by intros; exact eq_l2 (o := ml_and) rfl,
   by intros; exact eq_l2 (o := ml_or) rfl,
   by intros; exact eq_ld rfl rfl,
   by intros; exact eq_ld rfl rfl,
   by intros; exact eq_push rfl,
   by intros; exact eq_i2 (o := mx_add) rfl,
   by intros; exact eq_iald rfl,
   by intros; exact eq_cv rfl (Nat.le_of_ble_eq_true rfl) rfl rfl rfl (Nat.le_of_ble_eq_true rfl),
   by intros; exact eq_ld rfl rfl,
   by intros; exact eq_ld rfl rfl,
   by intros; exact eq_ld rfl rfl,
   by intros; exact eq_push rfl,
   by intros; exact eq_i2 (o := mx_add) rfl,
   by intros; exact eq_iald rfl,
   by intros; exact eq_i2l rfl,
   by intros; exact eq_push rfl,
   by intros; exact eq_ls (o := ml_shl) rfl,
   by intros; exact eq_ld rfl rfl,
   by intros; exact eq_ld rfl rfl,
   by intros; exact eq_push rfl,
   by intros; exact eq_i2 (o := mx_add) rfl,
   by intros; exact eq_iald rfl,
   by intros; exact eq_i2l rfl,
   by intros; exact eq_push rfl,
   by intros; exact eq_l2 (o := ml_and) rfl,
   by intros; exact eq_l2 (o := ml_or) rfl,
   by intros; exact eq_ld rfl rfl,
   by intros; exact eq_ld rfl rfl,
   by intros; exact eq_push rfl,
   by intros; exact eq_i2 (o := mx_add) rfl,
   by intros; exact eq_iald rfl⟩
theorem rw_L_law_1 :
  (∀ (d : Nat) (x0 x1 a : Int) (l0 l1 l2 l3 : Option mx_V) (v3 : mx_V) (S h : mx_H) (n : Int), mx_ex (d + 1) 263 275 [l0, l1, l2, l3] [(0, x0), (1, x1), (2, a), v3] S h n = mx_cl (S a (-2) = 13) d 165 [(2, a), (1, x1), (0, x0)] 263 278 [l0, l1, l2, l3] [v3] S h n) ∧
  (∀ (d : Nat) (b a : Int) (l0 l1 l2 l3 : Option mx_V) (S h : mx_H) (n : Int), mx_ex d 263 278 [l0, l1, l2, l3] [(0, b), (0, a)] S h n = mx_br (a = b) d 263 1653 281 [l0, l1, l2, l3] [] S h n) ∧
  (∀ (d : Nat) (l0 l1 l2 l3 : Option mx_V) (S h : mx_H) (n : Int), mx_ex d 263 281 [l0, l1, l2, l3] [] S h n = mx_ex d 263 282 [l0, l1, l2, l3] [(0, 0)] S h n) ∧
  (∀ (d : Nat) (x : Int) (l0 l1 l2 l3 : Option mx_V) (S h : mx_H) (n : Int), mx_ex d 263 282 [l0, l1, l2, l3] [(0, x)] S h n = mx_re (0 ≤ x ∧ x ≤ 1) (some (0, x)) S h n) ∧
  (∀ (d : Nat) (x : Int) (l0 l2 l3 : Option mx_V) (S h : mx_H) (n : Int), mx_ex d 263 283 [l0, some (2, x), l2, l3] [] S h n = mx_ex d 263 284 [l0, some (2, x), l2, l3] [(2, x)] S h n) ∧
  (∀ (d : Nat) (a : Int) (l0 l1 l2 l3 : Option mx_V) (S h : mx_H) (n : Int), mx_ex (d + 1) 263 284 [l0, l1, l2, l3] [(2, a)] S h n = mx_cl (S a (-2) = 7) d 102 [(2, a)] 263 287 [l0, l1, l2, l3] [] S h n) ∧
  (∀ (d : Nat) (x : Int) (l0 l1 l3 : Option mx_V) (v0 : mx_V) (S h : mx_H) (n : Int), mx_ex d 263 287 [l0, l1, some (2, x), l3] [v0] S h n = mx_ex d 263 288 [l0, l1, some (2, x), l3] [(2, x), v0] S h n) ∧
  (∀ (d : Nat) (a : Int) (l0 l1 l2 l3 : Option mx_V) (v1 : mx_V) (S h : mx_H) (n : Int), mx_ex (d + 1) 263 288 [l0, l1, l2, l3] [(2, a), v1] S h n = mx_cl (S a (-2) = 13) d 176 [(2, a)] 263 291 [l0, l1, l2, l3] [v1] S h n) ∧
  (∀ (d : Nat) (b a : Int) (l0 l1 l2 l3 : Option mx_V) (S h : mx_H) (n : Int), mx_ex d 263 291 [l0, l1, l2, l3] [(0, b), (0, a)] S h n = mx_br (a = b) d 263 1653 294 [l0, l1, l2, l3] [] S h n) ∧
  (∀ (d : Nat) (l0 l1 l2 l3 : Option mx_V) (S h : mx_H) (n : Int), mx_ex d 263 294 [l0, l1, l2, l3] [] S h n = mx_ex d 263 295 [l0, l1, l2, l3] [(0, 0)] S h n) ∧
  (∀ (d : Nat) (x : Int) (l0 l1 l2 l3 : Option mx_V) (S h : mx_H) (n : Int), mx_ex d 263 295 [l0, l1, l2, l3] [(0, x)] S h n = mx_re (0 ≤ x ∧ x ≤ 1) (some (0, x)) S h n) ∧
  (∀ (d : Nat) (x : Int) (l0 l2 l3 : Option mx_V) (S h : mx_H) (n : Int), mx_ex d 263 296 [l0, some (2, x), l2, l3] [] S h n = mx_ex d 263 297 [l0, some (2, x), l2, l3] [(2, x)] S h n) ∧
  (∀ (d : Nat) (x : Int) (l1 l2 l3 : Option mx_V) (v0 : mx_V) (S h : mx_H) (n : Int), mx_ex d 263 297 [some (2, x), l1, l2, l3] [v0] S h n = mx_ex d 263 298 [some (2, x), l1, l2, l3] [(2, x), v0] S h n) ∧
  (∀ (d : Nat) (x : Int) (l0 l1 l2 : Option mx_V) (v0 v1 : mx_V) (S h : mx_H) (n : Int), mx_ex d 263 298 [l0, l1, l2, some (0, x)] [v0, v1] S h n = mx_ex d 263 299 [l0, l1, l2, some (0, x)] [(0, x), v0, v1] S h n) ∧
  (∀ (d : Nat) (l0 l1 l2 l3 : Option mx_V) (v0 v1 v2 : mx_V) (S h : mx_H) (n : Int), mx_ex d 263 299 [l0, l1, l2, l3] [v0, v1, v2] S h n = mx_ex d 263 300 [l0, l1, l2, l3] [(0, 1), v0, v1, v2] S h n) ∧
  (∀ (d : Nat) (b a : Int) (l0 l1 l2 l3 : Option mx_V) (v2 v3 : mx_V) (S h : mx_H) (n : Int), mx_ex d 263 300 [l0, l1, l2, l3] [(0, b), (0, a), v2, v3] S h n = mx_ex d 263 301 [l0, l1, l2, l3] [(0, mx_w (a + b)), v2, v3] S h n) ∧
  (∀ (d : Nat) (i a : Int) (l0 l1 l2 l3 : Option mx_V) (v2 : mx_V) (S h : mx_H) (n : Int), mx_ex d 263 301 [l0, l1, l2, l3] [(0, i), (2, a), v2] S h n = mx_gd ((S a (-2) = 20 ∨ S a (-2) = 24) ∧ 0 ≤ i ∧ i < S a (-1)) d 263 302 [l0, l1, l2, l3] [(0, h a i), v2] S h n) ∧
  (∀ (d : Nat) (x : Int) (l1 l2 l3 : Option mx_V) (v0 v1 : mx_V) (S h : mx_H) (n : Int), mx_ex d 263 302 [some (2, x), l1, l2, l3] [v0, v1] S h n = mx_ex d 263 303 [some (2, x), l1, l2, l3] [(2, x), v0, v1] S h n) ∧
  (∀ (d : Nat) (x : Int) (l0 l1 l2 : Option mx_V) (v0 v1 v2 : mx_V) (S h : mx_H) (n : Int), mx_ex d 263 303 [l0, l1, l2, some (0, x)] [v0, v1, v2] S h n = mx_ex d 263 304 [l0, l1, l2, some (0, x)] [(0, x), v0, v1, v2] S h n) ∧
  (∀ (d : Nat) (l0 l1 l2 l3 : Option mx_V) (v0 v1 v2 v3 : mx_V) (S h : mx_H) (n : Int), mx_ex d 263 304 [l0, l1, l2, l3] [v0, v1, v2, v3] S h n = mx_ex d 263 305 [l0, l1, l2, l3] [(0, 2), v0, v1, v2, v3] S h n) ∧
  (∀ (d : Nat) (b a : Int) (l0 l1 l2 l3 : Option mx_V) (v2 v3 v4 : mx_V) (S h : mx_H) (n : Int), mx_ex d 263 305 [l0, l1, l2, l3] [(0, b), (0, a), v2, v3, v4] S h n = mx_ex d 263 306 [l0, l1, l2, l3] [(0, mx_w (a + b)), v2, v3, v4] S h n) ∧
  (∀ (d : Nat) (i a : Int) (l0 l1 l2 l3 : Option mx_V) (v2 v3 : mx_V) (S h : mx_H) (n : Int), mx_ex d 263 306 [l0, l1, l2, l3] [(0, i), (2, a), v2, v3] S h n = mx_gd ((S a (-2) = 20 ∨ S a (-2) = 24) ∧ 0 ≤ i ∧ i < S a (-1)) d 263 307 [l0, l1, l2, l3] [(0, h a i), v2, v3] S h n) ∧
  (∀ (d : Nat) (x : Int) (l1 l2 l3 : Option mx_V) (v0 v1 v2 : mx_V) (S h : mx_H) (n : Int), mx_ex d 263 307 [some (2, x), l1, l2, l3] [v0, v1, v2] S h n = mx_ex d 263 308 [some (2, x), l1, l2, l3] [(2, x), v0, v1, v2] S h n) ∧
  (∀ (d : Nat) (x : Int) (l0 l1 l2 : Option mx_V) (v0 v1 v2 v3 : mx_V) (S h : mx_H) (n : Int), mx_ex d 263 308 [l0, l1, l2, some (0, x)] [v0, v1, v2, v3] S h n = mx_ex d 263 309 [l0, l1, l2, some (0, x)] [(0, x), v0, v1, v2, v3] S h n) ∧
  (∀ (d : Nat) (l0 l1 l2 l3 : Option mx_V) (v0 v1 v2 v3 v4 : mx_V) (S h : mx_H) (n : Int), mx_ex d 263 309 [l0, l1, l2, l3] [v0, v1, v2, v3, v4] S h n = mx_ex d 263 310 [l0, l1, l2, l3] [(0, 3), v0, v1, v2, v3, v4] S h n) ∧
  (∀ (d : Nat) (b a : Int) (l0 l1 l2 l3 : Option mx_V) (v2 v3 v4 v5 : mx_V) (S h : mx_H) (n : Int), mx_ex d 263 310 [l0, l1, l2, l3] [(0, b), (0, a), v2, v3, v4, v5] S h n = mx_ex d 263 311 [l0, l1, l2, l3] [(0, mx_w (a + b)), v2, v3, v4, v5] S h n) ∧
  (∀ (d : Nat) (i a : Int) (l0 l1 l2 l3 : Option mx_V) (v2 v3 v4 : mx_V) (S h : mx_H) (n : Int), mx_ex d 263 311 [l0, l1, l2, l3] [(0, i), (2, a), v2, v3, v4] S h n = mx_gd ((S a (-2) = 20 ∨ S a (-2) = 24) ∧ 0 ≤ i ∧ i < S a (-1)) d 263 312 [l0, l1, l2, l3] [(0, h a i), v2, v3, v4] S h n) ∧
  (∀ (d : Nat) (x0 x1 x2 a : Int) (l0 l1 l2 l3 : Option mx_V) (S h : mx_H) (n : Int), mx_ex (d + 1) 263 312 [l0, l1, l2, l3] [(0, x0), (0, x1), (0, x2), (2, a)] S h n = mx_cl (S a (-2) = 7) d 103 [(2, a), (0, x2), (0, x1), (0, x0)] 263 315 [l0, l1, l2, l3] [] S h n) ∧
  (∀ (d : Nat) (x : Int) (l0 l1 l3 : Option mx_V) (v0 : mx_V) (S h : mx_H) (n : Int), mx_ex d 263 315 [l0, l1, some (2, x), l3] [v0] S h n = mx_ex d 263 316 [l0, l1, some (2, x), l3] [(2, x), v0] S h n) ∧
  (∀ (d : Nat) (x : Int) (l1 l2 l3 : Option mx_V) (v0 v1 : mx_V) (S h : mx_H) (n : Int), mx_ex d 263 316 [some (2, x), l1, l2, l3] [v0, v1] S h n = mx_ex d 263 317 [some (2, x), l1, l2, l3] [(2, x), v0, v1] S h n) ∧
  (∀ (d : Nat) (x : Int) (l0 l1 l2 : Option mx_V) (v0 v1 v2 : mx_V) (S h : mx_H) (n : Int), mx_ex d 263 317 [l0, l1, l2, some (0, x)] [v0, v1, v2] S h n = mx_ex d 263 318 [l0, l1, l2, some (0, x)] [(0, x), v0, v1, v2] S h n) ∧
  (∀ (d : Nat) (l0 l1 l2 l3 : Option mx_V) (v0 v1 v2 v3 : mx_V) (S h : mx_H) (n : Int), mx_ex d 263 318 [l0, l1, l2, l3] [v0, v1, v2, v3] S h n = mx_ex d 263 319 [l0, l1, l2, l3] [(0, 1), v0, v1, v2, v3] S h n) ∧
  (∀ (d : Nat) (b a : Int) (l0 l1 l2 l3 : Option mx_V) (v2 v3 v4 : mx_V) (S h : mx_H) (n : Int), mx_ex d 263 319 [l0, l1, l2, l3] [(0, b), (0, a), v2, v3, v4] S h n = mx_ex d 263 320 [l0, l1, l2, l3] [(0, mx_w (a + b)), v2, v3, v4] S h n) ∧
  (∀ (d : Nat) (i a : Int) (l0 l1 l2 l3 : Option mx_V) (v2 v3 : mx_V) (S h : mx_H) (n : Int), mx_ex d 263 320 [l0, l1, l2, l3] [(0, i), (2, a), v2, v3] S h n = mx_gd ((S a (-2) = 20 ∨ S a (-2) = 24) ∧ 0 ≤ i ∧ i < S a (-1)) d 263 321 [l0, l1, l2, l3] [(0, h a i), v2, v3] S h n) ∧
  (∀ (d : Nat) (x : Int) (l1 l2 l3 : Option mx_V) (v0 v1 v2 : mx_V) (S h : mx_H) (n : Int), mx_ex d 263 321 [some (2, x), l1, l2, l3] [v0, v1, v2] S h n = mx_ex d 263 322 [some (2, x), l1, l2, l3] [(2, x), v0, v1, v2] S h n) ∧
  (∀ (d : Nat) (x : Int) (l0 l1 l2 : Option mx_V) (v0 v1 v2 v3 : mx_V) (S h : mx_H) (n : Int), mx_ex d 263 322 [l0, l1, l2, some (0, x)] [v0, v1, v2, v3] S h n = mx_ex d 263 323 [l0, l1, l2, some (0, x)] [(0, x), v0, v1, v2, v3] S h n) ∧
  (∀ (d : Nat) (l0 l1 l2 l3 : Option mx_V) (v0 v1 v2 v3 v4 : mx_V) (S h : mx_H) (n : Int), mx_ex d 263 323 [l0, l1, l2, l3] [v0, v1, v2, v3, v4] S h n = mx_ex d 263 324 [l0, l1, l2, l3] [(0, 2), v0, v1, v2, v3, v4] S h n) ∧
  (∀ (d : Nat) (b a : Int) (l0 l1 l2 l3 : Option mx_V) (v2 v3 v4 v5 : mx_V) (S h : mx_H) (n : Int), mx_ex d 263 324 [l0, l1, l2, l3] [(0, b), (0, a), v2, v3, v4, v5] S h n = mx_ex d 263 325 [l0, l1, l2, l3] [(0, mx_w (a + b)), v2, v3, v4, v5] S h n) ∧
  (∀ (d : Nat) (i a : Int) (l0 l1 l2 l3 : Option mx_V) (v2 v3 v4 : mx_V) (S h : mx_H) (n : Int), mx_ex d 263 325 [l0, l1, l2, l3] [(0, i), (2, a), v2, v3, v4] S h n = mx_gd ((S a (-2) = 20 ∨ S a (-2) = 24) ∧ 0 ≤ i ∧ i < S a (-1)) d 263 326 [l0, l1, l2, l3] [(0, h a i), v2, v3, v4] S h n) ∧
  (∀ (d : Nat) (x : Int) (l1 l2 l3 : Option mx_V) (v0 v1 v2 v3 : mx_V) (S h : mx_H) (n : Int), mx_ex d 263 326 [some (2, x), l1, l2, l3] [v0, v1, v2, v3] S h n = mx_ex d 263 327 [some (2, x), l1, l2, l3] [(2, x), v0, v1, v2, v3] S h n) ∧
  (∀ (d : Nat) (x : Int) (l0 l1 l2 : Option mx_V) (v0 v1 v2 v3 v4 : mx_V) (S h : mx_H) (n : Int), mx_ex d 263 327 [l0, l1, l2, some (0, x)] [v0, v1, v2, v3, v4] S h n = mx_ex d 263 328 [l0, l1, l2, some (0, x)] [(0, x), v0, v1, v2, v3, v4] S h n) ∧
  (∀ (d : Nat) (l0 l1 l2 l3 : Option mx_V) (v0 v1 v2 v3 v4 v5 : mx_V) (S h : mx_H) (n : Int), mx_ex d 263 328 [l0, l1, l2, l3] [v0, v1, v2, v3, v4, v5] S h n = mx_ex d 263 329 [l0, l1, l2, l3] [(0, 3), v0, v1, v2, v3, v4, v5] S h n) ∧
  (∀ (d : Nat) (b a : Int) (l0 l1 l2 l3 : Option mx_V) (v2 v3 v4 v5 v6 : mx_V) (S h : mx_H) (n : Int), mx_ex d 263 329 [l0, l1, l2, l3] [(0, b), (0, a), v2, v3, v4, v5, v6] S h n = mx_ex d 263 330 [l0, l1, l2, l3] [(0, mx_w (a + b)), v2, v3, v4, v5, v6] S h n) ∧
  (∀ (d : Nat) (i a : Int) (l0 l1 l2 l3 : Option mx_V) (v2 v3 v4 v5 : mx_V) (S h : mx_H) (n : Int), mx_ex d 263 330 [l0, l1, l2, l3] [(0, i), (2, a), v2, v3, v4, v5] S h n = mx_gd ((S a (-2) = 20 ∨ S a (-2) = 24) ∧ 0 ≤ i ∧ i < S a (-1)) d 263 331 [l0, l1, l2, l3] [(0, h a i), v2, v3, v4, v5] S h n) ∧
  (∀ (d : Nat) (x0 x1 x2 a : Int) (l0 l1 l2 l3 : Option mx_V) (v4 : mx_V) (S h : mx_H) (n : Int), mx_ex (d + 1) 263 331 [l0, l1, l2, l3] [(0, x0), (0, x1), (0, x2), (2, a), v4] S h n = mx_cl (S a (-2) = 13) d 177 [(2, a), (0, x2), (0, x1), (0, x0)] 263 334 [l0, l1, l2, l3] [v4] S h n) ∧
  (∀ (d : Nat) (b a : Int) (l0 l1 l2 l3 : Option mx_V) (S h : mx_H) (n : Int), mx_ex d 263 334 [l0, l1, l2, l3] [(0, b), (0, a)] S h n = mx_br (a = b) d 263 1653 337 [l0, l1, l2, l3] [] S h n) ∧
  (∀ (d : Nat) (l0 l1 l2 l3 : Option mx_V) (S h : mx_H) (n : Int), mx_ex d 263 337 [l0, l1, l2, l3] [] S h n = mx_ex d 263 338 [l0, l1, l2, l3] [(0, 0)] S h n) ∧
  (∀ (d : Nat) (x : Int) (l0 l1 l2 l3 : Option mx_V) (S h : mx_H) (n : Int), mx_ex d 263 338 [l0, l1, l2, l3] [(0, x)] S h n = mx_re (0 ≤ x ∧ x ≤ 1) (some (0, x)) S h n) ∧
  (∀ (d : Nat) (x : Int) (l0 l2 l3 : Option mx_V) (S h : mx_H) (n : Int), mx_ex d 263 339 [l0, some (2, x), l2, l3] [] S h n = mx_ex d 263 340 [l0, some (2, x), l2, l3] [(2, x)] S h n) ∧
  (∀ (d : Nat) (x : Int) (l1 l2 l3 : Option mx_V) (v0 : mx_V) (S h : mx_H) (n : Int), mx_ex d 263 340 [some (2, x), l1, l2, l3] [v0] S h n = mx_ex d 263 341 [some (2, x), l1, l2, l3] [(2, x), v0] S h n) ∧
  (∀ (d : Nat) (x : Int) (l0 l1 l2 : Option mx_V) (v0 v1 : mx_V) (S h : mx_H) (n : Int), mx_ex d 263 341 [l0, l1, l2, some (0, x)] [v0, v1] S h n = mx_ex d 263 342 [l0, l1, l2, some (0, x)] [(0, x), v0, v1] S h n) ∧
  (∀ (d : Nat) (l0 l1 l2 l3 : Option mx_V) (v0 v1 v2 : mx_V) (S h : mx_H) (n : Int), mx_ex d 263 342 [l0, l1, l2, l3] [v0, v1, v2] S h n = mx_ex d 263 343 [l0, l1, l2, l3] [(0, 1), v0, v1, v2] S h n) ∧
  (∀ (d : Nat) (b a : Int) (l0 l1 l2 l3 : Option mx_V) (v2 v3 : mx_V) (S h : mx_H) (n : Int), mx_ex d 263 343 [l0, l1, l2, l3] [(0, b), (0, a), v2, v3] S h n = mx_ex d 263 344 [l0, l1, l2, l3] [(0, mx_w (a + b)), v2, v3] S h n) ∧
  (∀ (d : Nat) (i a : Int) (l0 l1 l2 l3 : Option mx_V) (v2 : mx_V) (S h : mx_H) (n : Int), mx_ex d 263 344 [l0, l1, l2, l3] [(0, i), (2, a), v2] S h n = mx_gd ((S a (-2) = 20 ∨ S a (-2) = 24) ∧ 0 ≤ i ∧ i < S a (-1)) d 263 345 [l0, l1, l2, l3] [(0, h a i), v2] S h n) ∧
  (∀ (d : Nat) (x : Int) (l1 l2 l3 : Option mx_V) (v0 v1 : mx_V) (S h : mx_H) (n : Int), mx_ex d 263 345 [some (2, x), l1, l2, l3] [v0, v1] S h n = mx_ex d 263 346 [some (2, x), l1, l2, l3] [(2, x), v0, v1] S h n) ∧
  (∀ (d : Nat) (x : Int) (l0 l1 l2 : Option mx_V) (v0 v1 v2 : mx_V) (S h : mx_H) (n : Int), mx_ex d 263 346 [l0, l1, l2, some (0, x)] [v0, v1, v2] S h n = mx_ex d 263 347 [l0, l1, l2, some (0, x)] [(0, x), v0, v1, v2] S h n) ∧
  (∀ (d : Nat) (l0 l1 l2 l3 : Option mx_V) (v0 v1 v2 v3 : mx_V) (S h : mx_H) (n : Int), mx_ex d 263 347 [l0, l1, l2, l3] [v0, v1, v2, v3] S h n = mx_ex d 263 348 [l0, l1, l2, l3] [(0, 2), v0, v1, v2, v3] S h n) ∧
  (∀ (d : Nat) (b a : Int) (l0 l1 l2 l3 : Option mx_V) (v2 v3 v4 : mx_V) (S h : mx_H) (n : Int), mx_ex d 263 348 [l0, l1, l2, l3] [(0, b), (0, a), v2, v3, v4] S h n = mx_ex d 263 349 [l0, l1, l2, l3] [(0, mx_w (a + b)), v2, v3, v4] S h n) ∧
  (∀ (d : Nat) (i a : Int) (l0 l1 l2 l3 : Option mx_V) (v2 v3 : mx_V) (S h : mx_H) (n : Int), mx_ex d 263 349 [l0, l1, l2, l3] [(0, i), (2, a), v2, v3] S h n = mx_gd ((S a (-2) = 20 ∨ S a (-2) = 24) ∧ 0 ≤ i ∧ i < S a (-1)) d 263 350 [l0, l1, l2, l3] [(0, h a i), v2, v3] S h n) ∧
  (∀ (d : Nat) (x0 x1 a : Int) (l0 l1 l2 l3 : Option mx_V) (S h : mx_H) (n : Int), mx_ex (d + 1) 263 350 [l0, l1, l2, l3] [(0, x0), (0, x1), (2, a)] S h n = mx_cl (S a (-2) = 7) d 104 [(2, a), (0, x1), (0, x0)] 263 353 [l0, l1, l2, l3] [] S h n) ∧
  (∀ (d : Nat) (x : Int) (l0 l1 l3 : Option mx_V) (v0 : mx_V) (S h : mx_H) (n : Int), mx_ex d 263 353 [l0, l1, some (2, x), l3] [v0] S h n = mx_ex d 263 354 [l0, l1, some (2, x), l3] [(2, x), v0] S h n) ∧
  (∀ (d : Nat) (x : Int) (l1 l2 l3 : Option mx_V) (v0 v1 : mx_V) (S h : mx_H) (n : Int), mx_ex d 263 354 [some (2, x), l1, l2, l3] [v0, v1] S h n = mx_ex d 263 355 [some (2, x), l1, l2, l3] [(2, x), v0, v1] S h n) ∧
  (∀ (d : Nat) (x : Int) (l0 l1 l2 : Option mx_V) (v0 v1 v2 : mx_V) (S h : mx_H) (n : Int), mx_ex d 263 355 [l0, l1, l2, some (0, x)] [v0, v1, v2] S h n = mx_ex d 263 356 [l0, l1, l2, some (0, x)] [(0, x), v0, v1, v2] S h n) ∧
  (∀ (d : Nat) (l0 l1 l2 l3 : Option mx_V) (v0 v1 v2 v3 : mx_V) (S h : mx_H) (n : Int), mx_ex d 263 356 [l0, l1, l2, l3] [v0, v1, v2, v3] S h n = mx_ex d 263 357 [l0, l1, l2, l3] [(0, 1), v0, v1, v2, v3] S h n) ∧
  (∀ (d : Nat) (b a : Int) (l0 l1 l2 l3 : Option mx_V) (v2 v3 v4 : mx_V) (S h : mx_H) (n : Int), mx_ex d 263 357 [l0, l1, l2, l3] [(0, b), (0, a), v2, v3, v4] S h n = mx_ex d 263 358 [l0, l1, l2, l3] [(0, mx_w (a + b)), v2, v3, v4] S h n) ∧
  (∀ (d : Nat) (i a : Int) (l0 l1 l2 l3 : Option mx_V) (v2 v3 : mx_V) (S h : mx_H) (n : Int), mx_ex d 263 358 [l0, l1, l2, l3] [(0, i), (2, a), v2, v3] S h n = mx_gd ((S a (-2) = 20 ∨ S a (-2) = 24) ∧ 0 ≤ i ∧ i < S a (-1)) d 263 359 [l0, l1, l2, l3] [(0, h a i), v2, v3] S h n) ∧
  (∀ (d : Nat) (x : Int) (l1 l2 l3 : Option mx_V) (v0 v1 v2 : mx_V) (S h : mx_H) (n : Int), mx_ex d 263 359 [some (2, x), l1, l2, l3] [v0, v1, v2] S h n = mx_ex d 263 360 [some (2, x), l1, l2, l3] [(2, x), v0, v1, v2] S h n) ∧
  (∀ (d : Nat) (x : Int) (l0 l1 l2 : Option mx_V) (v0 v1 v2 v3 : mx_V) (S h : mx_H) (n : Int), mx_ex d 263 360 [l0, l1, l2, some (0, x)] [v0, v1, v2, v3] S h n = mx_ex d 263 361 [l0, l1, l2, some (0, x)] [(0, x), v0, v1, v2, v3] S h n) ∧
  (∀ (d : Nat) (l0 l1 l2 l3 : Option mx_V) (v0 v1 v2 v3 v4 : mx_V) (S h : mx_H) (n : Int), mx_ex d 263 361 [l0, l1, l2, l3] [v0, v1, v2, v3, v4] S h n = mx_ex d 263 362 [l0, l1, l2, l3] [(0, 2), v0, v1, v2, v3, v4] S h n) ∧
  (∀ (d : Nat) (b a : Int) (l0 l1 l2 l3 : Option mx_V) (v2 v3 v4 v5 : mx_V) (S h : mx_H) (n : Int), mx_ex d 263 362 [l0, l1, l2, l3] [(0, b), (0, a), v2, v3, v4, v5] S h n = mx_ex d 263 363 [l0, l1, l2, l3] [(0, mx_w (a + b)), v2, v3, v4, v5] S h n) :=
  ⟨by intros; exact eq_cv rfl (Nat.le_of_ble_eq_true rfl) rfl rfl rfl (Nat.le_of_ble_eq_true rfl),
   by intros; exact eq_ic0 rfl,
   by intros; exact eq_push rfl,
   by intros; exact eq_rr rfl,
   by intros; exact eq_ld rfl rfl,
   by intros; exact eq_cv rfl (Nat.le_of_ble_eq_true rfl) rfl rfl rfl (Nat.le_of_ble_eq_true rfl),
   by intros; exact eq_ld rfl rfl,
   by intros; exact eq_cv rfl (Nat.le_of_ble_eq_true rfl) rfl rfl rfl (Nat.le_of_ble_eq_true rfl),
   by intros; exact eq_ic0 rfl,
   by intros; exact eq_push rfl,
   by intros; exact eq_rr rfl,
   by intros; exact eq_ld rfl rfl,
   by intros; exact eq_ld rfl rfl,
   by intros; exact eq_ld rfl rfl,
   by intros; exact eq_push rfl,
   by intros; exact eq_i2 (o := mx_add) rfl,
   by intros; exact eq_iald rfl,
   by intros; exact eq_ld rfl rfl,
   by intros; exact eq_ld rfl rfl,
   by intros; exact eq_push rfl,
   by intros; exact eq_i2 (o := mx_add) rfl,
   by intros; exact eq_iald rfl,
   by intros; exact eq_ld rfl rfl,
   by intros; exact eq_ld rfl rfl,
   by intros; exact eq_push rfl,
   by intros; exact eq_i2 (o := mx_add) rfl,
   by intros; exact eq_iald rfl,
   by intros; exact eq_cv rfl (Nat.le_of_ble_eq_true rfl) rfl rfl rfl (Nat.le_of_ble_eq_true rfl),
   by intros; exact eq_ld rfl rfl,
   by intros; exact eq_ld rfl rfl,
   by intros; exact eq_ld rfl rfl,
   by intros; exact eq_push rfl,
   by intros; exact eq_i2 (o := mx_add) rfl,
   by intros; exact eq_iald rfl,
   by intros; exact eq_ld rfl rfl,
   by intros; exact eq_ld rfl rfl,
   by intros; exact eq_push rfl,
   by intros; exact eq_i2 (o := mx_add) rfl,
   by intros; exact eq_iald rfl,
   by intros; exact eq_ld rfl rfl,
   by intros; exact eq_ld rfl rfl,
   by intros; exact eq_push rfl,
   by intros; exact eq_i2 (o := mx_add) rfl,
   by intros; exact eq_iald rfl,
   by intros; exact eq_cv rfl (Nat.le_of_ble_eq_true rfl) rfl rfl rfl (Nat.le_of_ble_eq_true rfl),
   by intros; exact eq_ic0 rfl,
   by intros; exact eq_push rfl,
   by intros; exact eq_rr rfl,
   by intros; exact eq_ld rfl rfl,
   by intros; exact eq_ld rfl rfl,
   by intros; exact eq_ld rfl rfl,
   by intros; exact eq_push rfl,
   by intros; exact eq_i2 (o := mx_add) rfl,
   by intros; exact eq_iald rfl,
   by intros; exact eq_ld rfl rfl,
   by intros; exact eq_ld rfl rfl,
   by intros; exact eq_push rfl,
   by intros; exact eq_i2 (o := mx_add) rfl,
   by intros; exact eq_iald rfl,
   by intros; exact eq_cv rfl (Nat.le_of_ble_eq_true rfl) rfl rfl rfl (Nat.le_of_ble_eq_true rfl),
   by intros; exact eq_ld rfl rfl,
   by intros; exact eq_ld rfl rfl,
   by intros; exact eq_ld rfl rfl,
   by intros; exact eq_push rfl,
   by intros; exact eq_i2 (o := mx_add) rfl,
   by intros; exact eq_iald rfl,
   by intros; exact eq_ld rfl rfl,
   by intros; exact eq_ld rfl rfl,
   by intros; exact eq_push rfl,
   by intros; exact eq_i2 (o := mx_add) rfl⟩
theorem rw_L_law_2 :
  (∀ (d : Nat) (i a : Int) (l0 l1 l2 l3 : Option mx_V) (v2 v3 v4 : mx_V) (S h : mx_H) (n : Int), mx_ex d 263 363 [l0, l1, l2, l3] [(0, i), (2, a), v2, v3, v4] S h n = mx_gd ((S a (-2) = 20 ∨ S a (-2) = 24) ∧ 0 ≤ i ∧ i < S a (-1)) d 263 364 [l0, l1, l2, l3] [(0, h a i), v2, v3, v4] S h n) ∧
  (∀ (d : Nat) (x0 x1 a : Int) (l0 l1 l2 l3 : Option mx_V) (v3 : mx_V) (S h : mx_H) (n : Int), mx_ex (d + 1) 263 364 [l0, l1, l2, l3] [(0, x0), (0, x1), (2, a), v3] S h n = mx_cl (S a (-2) = 13) d 178 [(2, a), (0, x1), (0, x0)] 263 367 [l0, l1, l2, l3] [v3] S h n) ∧
  (∀ (d : Nat) (b a : Int) (l0 l1 l2 l3 : Option mx_V) (S h : mx_H) (n : Int), mx_ex d 263 367 [l0, l1, l2, l3] [(0, b), (0, a)] S h n = mx_br (a = b) d 263 1653 370 [l0, l1, l2, l3] [] S h n) ∧
  (∀ (d : Nat) (l0 l1 l2 l3 : Option mx_V) (S h : mx_H) (n : Int), mx_ex d 263 370 [l0, l1, l2, l3] [] S h n = mx_ex d 263 371 [l0, l1, l2, l3] [(0, 0)] S h n) ∧
  (∀ (d : Nat) (x : Int) (l0 l1 l2 l3 : Option mx_V) (S h : mx_H) (n : Int), mx_ex d 263 371 [l0, l1, l2, l3] [(0, x)] S h n = mx_re (0 ≤ x ∧ x ≤ 1) (some (0, x)) S h n) ∧
  (∀ (d : Nat) (x : Int) (l0 l2 l3 : Option mx_V) (S h : mx_H) (n : Int), mx_ex d 263 372 [l0, some (2, x), l2, l3] [] S h n = mx_ex d 263 373 [l0, some (2, x), l2, l3] [(2, x)] S h n) ∧
  (∀ (d : Nat) (x : Int) (l1 l2 l3 : Option mx_V) (v0 : mx_V) (S h : mx_H) (n : Int), mx_ex d 263 373 [some (2, x), l1, l2, l3] [v0] S h n = mx_ex d 263 374 [some (2, x), l1, l2, l3] [(2, x), v0] S h n) ∧
  (∀ (d : Nat) (x : Int) (l0 l1 l2 : Option mx_V) (v0 v1 : mx_V) (S h : mx_H) (n : Int), mx_ex d 263 374 [l0, l1, l2, some (0, x)] [v0, v1] S h n = mx_ex d 263 375 [l0, l1, l2, some (0, x)] [(0, x), v0, v1] S h n) ∧
  (∀ (d : Nat) (l0 l1 l2 l3 : Option mx_V) (v0 v1 v2 : mx_V) (S h : mx_H) (n : Int), mx_ex d 263 375 [l0, l1, l2, l3] [v0, v1, v2] S h n = mx_ex d 263 376 [l0, l1, l2, l3] [(0, 1), v0, v1, v2] S h n) ∧
  (∀ (d : Nat) (b a : Int) (l0 l1 l2 l3 : Option mx_V) (v2 v3 : mx_V) (S h : mx_H) (n : Int), mx_ex d 263 376 [l0, l1, l2, l3] [(0, b), (0, a), v2, v3] S h n = mx_ex d 263 377 [l0, l1, l2, l3] [(0, mx_w (a + b)), v2, v3] S h n) ∧
  (∀ (d : Nat) (i a : Int) (l0 l1 l2 l3 : Option mx_V) (v2 : mx_V) (S h : mx_H) (n : Int), mx_ex d 263 377 [l0, l1, l2, l3] [(0, i), (2, a), v2] S h n = mx_gd ((S a (-2) = 20 ∨ S a (-2) = 24) ∧ 0 ≤ i ∧ i < S a (-1)) d 263 378 [l0, l1, l2, l3] [(0, h a i), v2] S h n) ∧
  (∀ (d : Nat) (x : Int) (l1 l2 l3 : Option mx_V) (v0 v1 : mx_V) (S h : mx_H) (n : Int), mx_ex d 263 378 [some (2, x), l1, l2, l3] [v0, v1] S h n = mx_ex d 263 379 [some (2, x), l1, l2, l3] [(2, x), v0, v1] S h n) ∧
  (∀ (d : Nat) (x : Int) (l0 l1 l2 : Option mx_V) (v0 v1 v2 : mx_V) (S h : mx_H) (n : Int), mx_ex d 263 379 [l0, l1, l2, some (0, x)] [v0, v1, v2] S h n = mx_ex d 263 380 [l0, l1, l2, some (0, x)] [(0, x), v0, v1, v2] S h n) ∧
  (∀ (d : Nat) (l0 l1 l2 l3 : Option mx_V) (v0 v1 v2 v3 : mx_V) (S h : mx_H) (n : Int), mx_ex d 263 380 [l0, l1, l2, l3] [v0, v1, v2, v3] S h n = mx_ex d 263 381 [l0, l1, l2, l3] [(0, 2), v0, v1, v2, v3] S h n) ∧
  (∀ (d : Nat) (b a : Int) (l0 l1 l2 l3 : Option mx_V) (v2 v3 v4 : mx_V) (S h : mx_H) (n : Int), mx_ex d 263 381 [l0, l1, l2, l3] [(0, b), (0, a), v2, v3, v4] S h n = mx_ex d 263 382 [l0, l1, l2, l3] [(0, mx_w (a + b)), v2, v3, v4] S h n) ∧
  (∀ (d : Nat) (i a : Int) (l0 l1 l2 l3 : Option mx_V) (v2 v3 : mx_V) (S h : mx_H) (n : Int), mx_ex d 263 382 [l0, l1, l2, l3] [(0, i), (2, a), v2, v3] S h n = mx_gd ((S a (-2) = 20 ∨ S a (-2) = 24) ∧ 0 ≤ i ∧ i < S a (-1)) d 263 383 [l0, l1, l2, l3] [(0, h a i), v2, v3] S h n) ∧
  (∀ (d : Nat) (x : Int) (l1 l2 l3 : Option mx_V) (v0 v1 v2 : mx_V) (S h : mx_H) (n : Int), mx_ex d 263 383 [some (2, x), l1, l2, l3] [v0, v1, v2] S h n = mx_ex d 263 384 [some (2, x), l1, l2, l3] [(2, x), v0, v1, v2] S h n) ∧
  (∀ (d : Nat) (x : Int) (l0 l1 l2 : Option mx_V) (v0 v1 v2 v3 : mx_V) (S h : mx_H) (n : Int), mx_ex d 263 384 [l0, l1, l2, some (0, x)] [v0, v1, v2, v3] S h n = mx_ex d 263 385 [l0, l1, l2, some (0, x)] [(0, x), v0, v1, v2, v3] S h n) ∧
  (∀ (d : Nat) (l0 l1 l2 l3 : Option mx_V) (v0 v1 v2 v3 v4 : mx_V) (S h : mx_H) (n : Int), mx_ex d 263 385 [l0, l1, l2, l3] [v0, v1, v2, v3, v4] S h n = mx_ex d 263 386 [l0, l1, l2, l3] [(0, 3), v0, v1, v2, v3, v4] S h n) ∧
  (∀ (d : Nat) (b a : Int) (l0 l1 l2 l3 : Option mx_V) (v2 v3 v4 v5 : mx_V) (S h : mx_H) (n : Int), mx_ex d 263 386 [l0, l1, l2, l3] [(0, b), (0, a), v2, v3, v4, v5] S h n = mx_ex d 263 387 [l0, l1, l2, l3] [(0, mx_w (a + b)), v2, v3, v4, v5] S h n) ∧
  (∀ (d : Nat) (i a : Int) (l0 l1 l2 l3 : Option mx_V) (v2 v3 v4 : mx_V) (S h : mx_H) (n : Int), mx_ex d 263 387 [l0, l1, l2, l3] [(0, i), (2, a), v2, v3, v4] S h n = mx_gd ((S a (-2) = 20 ∨ S a (-2) = 24) ∧ 0 ≤ i ∧ i < S a (-1)) d 263 388 [l0, l1, l2, l3] [(0, h a i), v2, v3, v4] S h n) ∧
  (∀ (d : Nat) (x : Int) (l1 l2 l3 : Option mx_V) (v0 v1 v2 v3 : mx_V) (S h : mx_H) (n : Int), mx_ex d 263 388 [some (2, x), l1, l2, l3] [v0, v1, v2, v3] S h n = mx_ex d 263 389 [some (2, x), l1, l2, l3] [(2, x), v0, v1, v2, v3] S h n) ∧
  (∀ (d : Nat) (x : Int) (l0 l1 l2 : Option mx_V) (v0 v1 v2 v3 v4 : mx_V) (S h : mx_H) (n : Int), mx_ex d 263 389 [l0, l1, l2, some (0, x)] [v0, v1, v2, v3, v4] S h n = mx_ex d 263 390 [l0, l1, l2, some (0, x)] [(0, x), v0, v1, v2, v3, v4] S h n) ∧
  (∀ (d : Nat) (l0 l1 l2 l3 : Option mx_V) (v0 v1 v2 v3 v4 v5 : mx_V) (S h : mx_H) (n : Int), mx_ex d 263 390 [l0, l1, l2, l3] [v0, v1, v2, v3, v4, v5] S h n = mx_ex d 263 391 [l0, l1, l2, l3] [(0, 4), v0, v1, v2, v3, v4, v5] S h n) ∧
  (∀ (d : Nat) (b a : Int) (l0 l1 l2 l3 : Option mx_V) (v2 v3 v4 v5 v6 : mx_V) (S h : mx_H) (n : Int), mx_ex d 263 391 [l0, l1, l2, l3] [(0, b), (0, a), v2, v3, v4, v5, v6] S h n = mx_ex d 263 392 [l0, l1, l2, l3] [(0, mx_w (a + b)), v2, v3, v4, v5, v6] S h n) ∧
  (∀ (d : Nat) (i a : Int) (l0 l1 l2 l3 : Option mx_V) (v2 v3 v4 v5 : mx_V) (S h : mx_H) (n : Int), mx_ex d 263 392 [l0, l1, l2, l3] [(0, i), (2, a), v2, v3, v4, v5] S h n = mx_gd ((S a (-2) = 20 ∨ S a (-2) = 24) ∧ 0 ≤ i ∧ i < S a (-1)) d 263 393 [l0, l1, l2, l3] [(0, h a i), v2, v3, v4, v5] S h n) ∧
  (∀ (d : Nat) (x : Int) (l1 l2 l3 : Option mx_V) (v0 v1 v2 v3 v4 : mx_V) (S h : mx_H) (n : Int), mx_ex d 263 393 [some (2, x), l1, l2, l3] [v0, v1, v2, v3, v4] S h n = mx_ex d 263 394 [some (2, x), l1, l2, l3] [(2, x), v0, v1, v2, v3, v4] S h n) ∧
  (∀ (d : Nat) (x : Int) (l0 l1 l2 : Option mx_V) (v0 v1 v2 v3 v4 v5 : mx_V) (S h : mx_H) (n : Int), mx_ex d 263 394 [l0, l1, l2, some (0, x)] [v0, v1, v2, v3, v4, v5] S h n = mx_ex d 263 395 [l0, l1, l2, some (0, x)] [(0, x), v0, v1, v2, v3, v4, v5] S h n) ∧
  (∀ (d : Nat) (l0 l1 l2 l3 : Option mx_V) (v0 v1 v2 v3 v4 v5 v6 : mx_V) (S h : mx_H) (n : Int), mx_ex d 263 395 [l0, l1, l2, l3] [v0, v1, v2, v3, v4, v5, v6] S h n = mx_ex d 263 396 [l0, l1, l2, l3] [(0, 5), v0, v1, v2, v3, v4, v5, v6] S h n) ∧
  (∀ (d : Nat) (b a : Int) (l0 l1 l2 l3 : Option mx_V) (v2 v3 v4 v5 v6 v7 : mx_V) (S h : mx_H) (n : Int), mx_ex d 263 396 [l0, l1, l2, l3] [(0, b), (0, a), v2, v3, v4, v5, v6, v7] S h n = mx_ex d 263 397 [l0, l1, l2, l3] [(0, mx_w (a + b)), v2, v3, v4, v5, v6, v7] S h n) ∧
  (∀ (d : Nat) (i a : Int) (l0 l1 l2 l3 : Option mx_V) (v2 v3 v4 v5 v6 : mx_V) (S h : mx_H) (n : Int), mx_ex d 263 397 [l0, l1, l2, l3] [(0, i), (2, a), v2, v3, v4, v5, v6] S h n = mx_gd ((S a (-2) = 20 ∨ S a (-2) = 24) ∧ 0 ≤ i ∧ i < S a (-1)) d 263 398 [l0, l1, l2, l3] [(0, h a i), v2, v3, v4, v5, v6] S h n) ∧
  (∀ (d : Nat) (x0 x1 x2 x3 x4 a : Int) (l0 l1 l2 l3 : Option mx_V) (S h : mx_H) (n : Int), mx_ex (d + 1) 263 398 [l0, l1, l2, l3] [(0, x0), (0, x1), (0, x2), (0, x3), (0, x4), (2, a)] S h n = mx_cl (S a (-2) = 7) d 105 [(2, a), (0, x4), (0, x3), (0, x2), (0, x1), (0, x0)] 263 401 [l0, l1, l2, l3] [] S h n) ∧
  (∀ (d : Nat) (x : Int) (l0 l1 l3 : Option mx_V) (v0 : mx_V) (S h : mx_H) (n : Int), mx_ex d 263 401 [l0, l1, some (2, x), l3] [v0] S h n = mx_ex d 263 402 [l0, l1, some (2, x), l3] [(2, x), v0] S h n) ∧
  (∀ (d : Nat) (x : Int) (l1 l2 l3 : Option mx_V) (v0 v1 : mx_V) (S h : mx_H) (n : Int), mx_ex d 263 402 [some (2, x), l1, l2, l3] [v0, v1] S h n = mx_ex d 263 403 [some (2, x), l1, l2, l3] [(2, x), v0, v1] S h n) ∧
  (∀ (d : Nat) (x : Int) (l0 l1 l2 : Option mx_V) (v0 v1 v2 : mx_V) (S h : mx_H) (n : Int), mx_ex d 263 403 [l0, l1, l2, some (0, x)] [v0, v1, v2] S h n = mx_ex d 263 404 [l0, l1, l2, some (0, x)] [(0, x), v0, v1, v2] S h n) ∧
  (∀ (d : Nat) (l0 l1 l2 l3 : Option mx_V) (v0 v1 v2 v3 : mx_V) (S h : mx_H) (n : Int), mx_ex d 263 404 [l0, l1, l2, l3] [v0, v1, v2, v3] S h n = mx_ex d 263 405 [l0, l1, l2, l3] [(0, 1), v0, v1, v2, v3] S h n) ∧
  (∀ (d : Nat) (b a : Int) (l0 l1 l2 l3 : Option mx_V) (v2 v3 v4 : mx_V) (S h : mx_H) (n : Int), mx_ex d 263 405 [l0, l1, l2, l3] [(0, b), (0, a), v2, v3, v4] S h n = mx_ex d 263 406 [l0, l1, l2, l3] [(0, mx_w (a + b)), v2, v3, v4] S h n) ∧
  (∀ (d : Nat) (i a : Int) (l0 l1 l2 l3 : Option mx_V) (v2 v3 : mx_V) (S h : mx_H) (n : Int), mx_ex d 263 406 [l0, l1, l2, l3] [(0, i), (2, a), v2, v3] S h n = mx_gd ((S a (-2) = 20 ∨ S a (-2) = 24) ∧ 0 ≤ i ∧ i < S a (-1)) d 263 407 [l0, l1, l2, l3] [(0, h a i), v2, v3] S h n) ∧
  (∀ (d : Nat) (x : Int) (l1 l2 l3 : Option mx_V) (v0 v1 v2 : mx_V) (S h : mx_H) (n : Int), mx_ex d 263 407 [some (2, x), l1, l2, l3] [v0, v1, v2] S h n = mx_ex d 263 408 [some (2, x), l1, l2, l3] [(2, x), v0, v1, v2] S h n) ∧
  (∀ (d : Nat) (x : Int) (l0 l1 l2 : Option mx_V) (v0 v1 v2 v3 : mx_V) (S h : mx_H) (n : Int), mx_ex d 263 408 [l0, l1, l2, some (0, x)] [v0, v1, v2, v3] S h n = mx_ex d 263 409 [l0, l1, l2, some (0, x)] [(0, x), v0, v1, v2, v3] S h n) ∧
  (∀ (d : Nat) (l0 l1 l2 l3 : Option mx_V) (v0 v1 v2 v3 v4 : mx_V) (S h : mx_H) (n : Int), mx_ex d 263 409 [l0, l1, l2, l3] [v0, v1, v2, v3, v4] S h n = mx_ex d 263 410 [l0, l1, l2, l3] [(0, 2), v0, v1, v2, v3, v4] S h n) ∧
  (∀ (d : Nat) (b a : Int) (l0 l1 l2 l3 : Option mx_V) (v2 v3 v4 v5 : mx_V) (S h : mx_H) (n : Int), mx_ex d 263 410 [l0, l1, l2, l3] [(0, b), (0, a), v2, v3, v4, v5] S h n = mx_ex d 263 411 [l0, l1, l2, l3] [(0, mx_w (a + b)), v2, v3, v4, v5] S h n) ∧
  (∀ (d : Nat) (i a : Int) (l0 l1 l2 l3 : Option mx_V) (v2 v3 v4 : mx_V) (S h : mx_H) (n : Int), mx_ex d 263 411 [l0, l1, l2, l3] [(0, i), (2, a), v2, v3, v4] S h n = mx_gd ((S a (-2) = 20 ∨ S a (-2) = 24) ∧ 0 ≤ i ∧ i < S a (-1)) d 263 412 [l0, l1, l2, l3] [(0, h a i), v2, v3, v4] S h n) ∧
  (∀ (d : Nat) (x : Int) (l1 l2 l3 : Option mx_V) (v0 v1 v2 v3 : mx_V) (S h : mx_H) (n : Int), mx_ex d 263 412 [some (2, x), l1, l2, l3] [v0, v1, v2, v3] S h n = mx_ex d 263 413 [some (2, x), l1, l2, l3] [(2, x), v0, v1, v2, v3] S h n) ∧
  (∀ (d : Nat) (x : Int) (l0 l1 l2 : Option mx_V) (v0 v1 v2 v3 v4 : mx_V) (S h : mx_H) (n : Int), mx_ex d 263 413 [l0, l1, l2, some (0, x)] [v0, v1, v2, v3, v4] S h n = mx_ex d 263 414 [l0, l1, l2, some (0, x)] [(0, x), v0, v1, v2, v3, v4] S h n) ∧
  (∀ (d : Nat) (l0 l1 l2 l3 : Option mx_V) (v0 v1 v2 v3 v4 v5 : mx_V) (S h : mx_H) (n : Int), mx_ex d 263 414 [l0, l1, l2, l3] [v0, v1, v2, v3, v4, v5] S h n = mx_ex d 263 415 [l0, l1, l2, l3] [(0, 3), v0, v1, v2, v3, v4, v5] S h n) ∧
  (∀ (d : Nat) (b a : Int) (l0 l1 l2 l3 : Option mx_V) (v2 v3 v4 v5 v6 : mx_V) (S h : mx_H) (n : Int), mx_ex d 263 415 [l0, l1, l2, l3] [(0, b), (0, a), v2, v3, v4, v5, v6] S h n = mx_ex d 263 416 [l0, l1, l2, l3] [(0, mx_w (a + b)), v2, v3, v4, v5, v6] S h n) ∧
  (∀ (d : Nat) (i a : Int) (l0 l1 l2 l3 : Option mx_V) (v2 v3 v4 v5 : mx_V) (S h : mx_H) (n : Int), mx_ex d 263 416 [l0, l1, l2, l3] [(0, i), (2, a), v2, v3, v4, v5] S h n = mx_gd ((S a (-2) = 20 ∨ S a (-2) = 24) ∧ 0 ≤ i ∧ i < S a (-1)) d 263 417 [l0, l1, l2, l3] [(0, h a i), v2, v3, v4, v5] S h n) ∧
  (∀ (d : Nat) (x : Int) (l1 l2 l3 : Option mx_V) (v0 v1 v2 v3 v4 : mx_V) (S h : mx_H) (n : Int), mx_ex d 263 417 [some (2, x), l1, l2, l3] [v0, v1, v2, v3, v4] S h n = mx_ex d 263 418 [some (2, x), l1, l2, l3] [(2, x), v0, v1, v2, v3, v4] S h n) ∧
  (∀ (d : Nat) (x : Int) (l0 l1 l2 : Option mx_V) (v0 v1 v2 v3 v4 v5 : mx_V) (S h : mx_H) (n : Int), mx_ex d 263 418 [l0, l1, l2, some (0, x)] [v0, v1, v2, v3, v4, v5] S h n = mx_ex d 263 419 [l0, l1, l2, some (0, x)] [(0, x), v0, v1, v2, v3, v4, v5] S h n) ∧
  (∀ (d : Nat) (l0 l1 l2 l3 : Option mx_V) (v0 v1 v2 v3 v4 v5 v6 : mx_V) (S h : mx_H) (n : Int), mx_ex d 263 419 [l0, l1, l2, l3] [v0, v1, v2, v3, v4, v5, v6] S h n = mx_ex d 263 420 [l0, l1, l2, l3] [(0, 4), v0, v1, v2, v3, v4, v5, v6] S h n) ∧
  (∀ (d : Nat) (b a : Int) (l0 l1 l2 l3 : Option mx_V) (v2 v3 v4 v5 v6 v7 : mx_V) (S h : mx_H) (n : Int), mx_ex d 263 420 [l0, l1, l2, l3] [(0, b), (0, a), v2, v3, v4, v5, v6, v7] S h n = mx_ex d 263 421 [l0, l1, l2, l3] [(0, mx_w (a + b)), v2, v3, v4, v5, v6, v7] S h n) ∧
  (∀ (d : Nat) (i a : Int) (l0 l1 l2 l3 : Option mx_V) (v2 v3 v4 v5 v6 : mx_V) (S h : mx_H) (n : Int), mx_ex d 263 421 [l0, l1, l2, l3] [(0, i), (2, a), v2, v3, v4, v5, v6] S h n = mx_gd ((S a (-2) = 20 ∨ S a (-2) = 24) ∧ 0 ≤ i ∧ i < S a (-1)) d 263 422 [l0, l1, l2, l3] [(0, h a i), v2, v3, v4, v5, v6] S h n) ∧
  (∀ (d : Nat) (x : Int) (l1 l2 l3 : Option mx_V) (v0 v1 v2 v3 v4 v5 : mx_V) (S h : mx_H) (n : Int), mx_ex d 263 422 [some (2, x), l1, l2, l3] [v0, v1, v2, v3, v4, v5] S h n = mx_ex d 263 423 [some (2, x), l1, l2, l3] [(2, x), v0, v1, v2, v3, v4, v5] S h n) ∧
  (∀ (d : Nat) (x : Int) (l0 l1 l2 : Option mx_V) (v0 v1 v2 v3 v4 v5 v6 : mx_V) (S h : mx_H) (n : Int), mx_ex d 263 423 [l0, l1, l2, some (0, x)] [v0, v1, v2, v3, v4, v5, v6] S h n = mx_ex d 263 424 [l0, l1, l2, some (0, x)] [(0, x), v0, v1, v2, v3, v4, v5, v6] S h n) ∧
  (∀ (d : Nat) (l0 l1 l2 l3 : Option mx_V) (v0 v1 v2 v3 v4 v5 v6 v7 : mx_V) (S h : mx_H) (n : Int), mx_ex d 263 424 [l0, l1, l2, l3] [v0, v1, v2, v3, v4, v5, v6, v7] S h n = mx_ex d 263 425 [l0, l1, l2, l3] [(0, 5), v0, v1, v2, v3, v4, v5, v6, v7] S h n) ∧
  (∀ (d : Nat) (b a : Int) (l0 l1 l2 l3 : Option mx_V) (v2 v3 v4 v5 v6 v7 v8 : mx_V) (S h : mx_H) (n : Int), mx_ex d 263 425 [l0, l1, l2, l3] [(0, b), (0, a), v2, v3, v4, v5, v6, v7, v8] S h n = mx_ex d 263 426 [l0, l1, l2, l3] [(0, mx_w (a + b)), v2, v3, v4, v5, v6, v7, v8] S h n) ∧
  (∀ (d : Nat) (i a : Int) (l0 l1 l2 l3 : Option mx_V) (v2 v3 v4 v5 v6 v7 : mx_V) (S h : mx_H) (n : Int), mx_ex d 263 426 [l0, l1, l2, l3] [(0, i), (2, a), v2, v3, v4, v5, v6, v7] S h n = mx_gd ((S a (-2) = 20 ∨ S a (-2) = 24) ∧ 0 ≤ i ∧ i < S a (-1)) d 263 427 [l0, l1, l2, l3] [(0, h a i), v2, v3, v4, v5, v6, v7] S h n) ∧
  (∀ (d : Nat) (x0 x1 x2 x3 x4 a : Int) (l0 l1 l2 l3 : Option mx_V) (v6 : mx_V) (S h : mx_H) (n : Int), mx_ex (d + 1) 263 427 [l0, l1, l2, l3] [(0, x0), (0, x1), (0, x2), (0, x3), (0, x4), (2, a), v6] S h n = mx_cl (S a (-2) = 13) d 179 [(2, a), (0, x4), (0, x3), (0, x2), (0, x1), (0, x0)] 263 430 [l0, l1, l2, l3] [v6] S h n) ∧
  (∀ (d : Nat) (b a : Int) (l0 l1 l2 l3 : Option mx_V) (S h : mx_H) (n : Int), mx_ex d 263 430 [l0, l1, l2, l3] [(0, b), (0, a)] S h n = mx_br (a = b) d 263 1653 433 [l0, l1, l2, l3] [] S h n) ∧
  (∀ (d : Nat) (l0 l1 l2 l3 : Option mx_V) (S h : mx_H) (n : Int), mx_ex d 263 433 [l0, l1, l2, l3] [] S h n = mx_ex d 263 434 [l0, l1, l2, l3] [(0, 0)] S h n) ∧
  (∀ (d : Nat) (x : Int) (l0 l1 l2 l3 : Option mx_V) (S h : mx_H) (n : Int), mx_ex d 263 434 [l0, l1, l2, l3] [(0, x)] S h n = mx_re (0 ≤ x ∧ x ≤ 1) (some (0, x)) S h n) ∧
  (∀ (d : Nat) (x : Int) (l0 l2 l3 : Option mx_V) (S h : mx_H) (n : Int), mx_ex d 263 435 [l0, some (2, x), l2, l3] [] S h n = mx_ex d 263 436 [l0, some (2, x), l2, l3] [(2, x)] S h n) ∧
  (∀ (d : Nat) (x : Int) (l1 l2 l3 : Option mx_V) (v0 : mx_V) (S h : mx_H) (n : Int), mx_ex d 263 436 [some (2, x), l1, l2, l3] [v0] S h n = mx_ex d 263 437 [some (2, x), l1, l2, l3] [(2, x), v0] S h n) ∧
  (∀ (d : Nat) (x : Int) (l0 l1 l2 : Option mx_V) (v0 v1 : mx_V) (S h : mx_H) (n : Int), mx_ex d 263 437 [l0, l1, l2, some (0, x)] [v0, v1] S h n = mx_ex d 263 438 [l0, l1, l2, some (0, x)] [(0, x), v0, v1] S h n) ∧
  (∀ (d : Nat) (l0 l1 l2 l3 : Option mx_V) (v0 v1 v2 : mx_V) (S h : mx_H) (n : Int), mx_ex d 263 438 [l0, l1, l2, l3] [v0, v1, v2] S h n = mx_ex d 263 439 [l0, l1, l2, l3] [(0, 1), v0, v1, v2] S h n) ∧
  (∀ (d : Nat) (b a : Int) (l0 l1 l2 l3 : Option mx_V) (v2 v3 : mx_V) (S h : mx_H) (n : Int), mx_ex d 263 439 [l0, l1, l2, l3] [(0, b), (0, a), v2, v3] S h n = mx_ex d 263 440 [l0, l1, l2, l3] [(0, mx_w (a + b)), v2, v3] S h n) ∧
  (∀ (d : Nat) (i a : Int) (l0 l1 l2 l3 : Option mx_V) (v2 : mx_V) (S h : mx_H) (n : Int), mx_ex d 263 440 [l0, l1, l2, l3] [(0, i), (2, a), v2] S h n = mx_gd ((S a (-2) = 20 ∨ S a (-2) = 24) ∧ 0 ≤ i ∧ i < S a (-1)) d 263 441 [l0, l1, l2, l3] [(0, h a i), v2] S h n) ∧
  (∀ (d : Nat) (x : Int) (l1 l2 l3 : Option mx_V) (v0 v1 : mx_V) (S h : mx_H) (n : Int), mx_ex d 263 441 [some (2, x), l1, l2, l3] [v0, v1] S h n = mx_ex d 263 442 [some (2, x), l1, l2, l3] [(2, x), v0, v1] S h n) ∧
  (∀ (d : Nat) (x : Int) (l0 l1 l2 : Option mx_V) (v0 v1 v2 : mx_V) (S h : mx_H) (n : Int), mx_ex d 263 442 [l0, l1, l2, some (0, x)] [v0, v1, v2] S h n = mx_ex d 263 443 [l0, l1, l2, some (0, x)] [(0, x), v0, v1, v2] S h n) :=
  ⟨by intros; exact eq_iald rfl,
   by intros; exact eq_cv rfl (Nat.le_of_ble_eq_true rfl) rfl rfl rfl (Nat.le_of_ble_eq_true rfl),
   by intros; exact eq_ic0 rfl,
   by intros; exact eq_push rfl,
   by intros; exact eq_rr rfl,
   by intros; exact eq_ld rfl rfl,
   by intros; exact eq_ld rfl rfl,
   by intros; exact eq_ld rfl rfl,
   by intros; exact eq_push rfl,
   by intros; exact eq_i2 (o := mx_add) rfl,
   by intros; exact eq_iald rfl,
   by intros; exact eq_ld rfl rfl,
   by intros; exact eq_ld rfl rfl,
   by intros; exact eq_push rfl,
   by intros; exact eq_i2 (o := mx_add) rfl,
   by intros; exact eq_iald rfl,
   by intros; exact eq_ld rfl rfl,
   by intros; exact eq_ld rfl rfl,
   by intros; exact eq_push rfl,
   by intros; exact eq_i2 (o := mx_add) rfl,
   by intros; exact eq_iald rfl,
   by intros; exact eq_ld rfl rfl,
   by intros; exact eq_ld rfl rfl,
   by intros; exact eq_push rfl,
   by intros; exact eq_i2 (o := mx_add) rfl,
   by intros; exact eq_iald rfl,
   by intros; exact eq_ld rfl rfl,
   by intros; exact eq_ld rfl rfl,
   by intros; exact eq_push rfl,
   by intros; exact eq_i2 (o := mx_add) rfl,
   by intros; exact eq_iald rfl,
   by intros; exact eq_cv rfl (Nat.le_of_ble_eq_true rfl) rfl rfl rfl (Nat.le_of_ble_eq_true rfl),
   by intros; exact eq_ld rfl rfl,
   by intros; exact eq_ld rfl rfl,
   by intros; exact eq_ld rfl rfl,
   by intros; exact eq_push rfl,
   by intros; exact eq_i2 (o := mx_add) rfl,
   by intros; exact eq_iald rfl,
   by intros; exact eq_ld rfl rfl,
   by intros; exact eq_ld rfl rfl,
   by intros; exact eq_push rfl,
   by intros; exact eq_i2 (o := mx_add) rfl,
   by intros; exact eq_iald rfl,
   by intros; exact eq_ld rfl rfl,
   by intros; exact eq_ld rfl rfl,
   by intros; exact eq_push rfl,
   by intros; exact eq_i2 (o := mx_add) rfl,
   by intros; exact eq_iald rfl,
   by intros; exact eq_ld rfl rfl,
   by intros; exact eq_ld rfl rfl,
   by intros; exact eq_push rfl,
   by intros; exact eq_i2 (o := mx_add) rfl,
   by intros; exact eq_iald rfl,
   by intros; exact eq_ld rfl rfl,
   by intros; exact eq_ld rfl rfl,
   by intros; exact eq_push rfl,
   by intros; exact eq_i2 (o := mx_add) rfl,
   by intros; exact eq_iald rfl,
   by intros; exact eq_cv rfl (Nat.le_of_ble_eq_true rfl) rfl rfl rfl (Nat.le_of_ble_eq_true rfl),
   by intros; exact eq_ic0 rfl,
   by intros; exact eq_push rfl,
   by intros; exact eq_rr rfl,
   by intros; exact eq_ld rfl rfl,
   by intros; exact eq_ld rfl rfl,
   by intros; exact eq_ld rfl rfl,
   by intros; exact eq_push rfl,
   by intros; exact eq_i2 (o := mx_add) rfl,
   by intros; exact eq_iald rfl,
   by intros; exact eq_ld rfl rfl,
   by intros; exact eq_ld rfl rfl⟩
theorem rw_L_law_3 :
  (∀ (d : Nat) (l0 l1 l2 l3 : Option mx_V) (v0 v1 v2 v3 : mx_V) (S h : mx_H) (n : Int), mx_ex d 263 443 [l0, l1, l2, l3] [v0, v1, v2, v3] S h n = mx_ex d 263 444 [l0, l1, l2, l3] [(0, 2), v0, v1, v2, v3] S h n) ∧
  (∀ (d : Nat) (b a : Int) (l0 l1 l2 l3 : Option mx_V) (v2 v3 v4 : mx_V) (S h : mx_H) (n : Int), mx_ex d 263 444 [l0, l1, l2, l3] [(0, b), (0, a), v2, v3, v4] S h n = mx_ex d 263 445 [l0, l1, l2, l3] [(0, mx_w (a + b)), v2, v3, v4] S h n) ∧
  (∀ (d : Nat) (i a : Int) (l0 l1 l2 l3 : Option mx_V) (v2 v3 : mx_V) (S h : mx_H) (n : Int), mx_ex d 263 445 [l0, l1, l2, l3] [(0, i), (2, a), v2, v3] S h n = mx_gd ((S a (-2) = 20 ∨ S a (-2) = 24) ∧ 0 ≤ i ∧ i < S a (-1)) d 263 446 [l0, l1, l2, l3] [(0, h a i), v2, v3] S h n) ∧
  (∀ (d : Nat) (x0 x1 a : Int) (l0 l1 l2 l3 : Option mx_V) (S h : mx_H) (n : Int), mx_ex (d + 1) 263 446 [l0, l1, l2, l3] [(0, x0), (0, x1), (2, a)] S h n = mx_cl (S a (-2) = 7) d 106 [(2, a), (0, x1), (0, x0)] 263 449 [l0, l1, l2, l3] [] S h n) ∧
  (∀ (d : Nat) (x : Int) (l0 l1 l3 : Option mx_V) (v0 : mx_V) (S h : mx_H) (n : Int), mx_ex d 263 449 [l0, l1, some (2, x), l3] [v0] S h n = mx_ex d 263 450 [l0, l1, some (2, x), l3] [(2, x), v0] S h n) ∧
  (∀ (d : Nat) (x : Int) (l1 l2 l3 : Option mx_V) (v0 v1 : mx_V) (S h : mx_H) (n : Int), mx_ex d 263 450 [some (2, x), l1, l2, l3] [v0, v1] S h n = mx_ex d 263 451 [some (2, x), l1, l2, l3] [(2, x), v0, v1] S h n) ∧
  (∀ (d : Nat) (x : Int) (l0 l1 l2 : Option mx_V) (v0 v1 v2 : mx_V) (S h : mx_H) (n : Int), mx_ex d 263 451 [l0, l1, l2, some (0, x)] [v0, v1, v2] S h n = mx_ex d 263 452 [l0, l1, l2, some (0, x)] [(0, x), v0, v1, v2] S h n) ∧
  (∀ (d : Nat) (l0 l1 l2 l3 : Option mx_V) (v0 v1 v2 v3 : mx_V) (S h : mx_H) (n : Int), mx_ex d 263 452 [l0, l1, l2, l3] [v0, v1, v2, v3] S h n = mx_ex d 263 453 [l0, l1, l2, l3] [(0, 1), v0, v1, v2, v3] S h n) ∧
  (∀ (d : Nat) (b a : Int) (l0 l1 l2 l3 : Option mx_V) (v2 v3 v4 : mx_V) (S h : mx_H) (n : Int), mx_ex d 263 453 [l0, l1, l2, l3] [(0, b), (0, a), v2, v3, v4] S h n = mx_ex d 263 454 [l0, l1, l2, l3] [(0, mx_w (a + b)), v2, v3, v4] S h n) ∧
  (∀ (d : Nat) (i a : Int) (l0 l1 l2 l3 : Option mx_V) (v2 v3 : mx_V) (S h : mx_H) (n : Int), mx_ex d 263 454 [l0, l1, l2, l3] [(0, i), (2, a), v2, v3] S h n = mx_gd ((S a (-2) = 20 ∨ S a (-2) = 24) ∧ 0 ≤ i ∧ i < S a (-1)) d 263 455 [l0, l1, l2, l3] [(0, h a i), v2, v3] S h n) ∧
  (∀ (d : Nat) (x : Int) (l1 l2 l3 : Option mx_V) (v0 v1 v2 : mx_V) (S h : mx_H) (n : Int), mx_ex d 263 455 [some (2, x), l1, l2, l3] [v0, v1, v2] S h n = mx_ex d 263 456 [some (2, x), l1, l2, l3] [(2, x), v0, v1, v2] S h n) ∧
  (∀ (d : Nat) (x : Int) (l0 l1 l2 : Option mx_V) (v0 v1 v2 v3 : mx_V) (S h : mx_H) (n : Int), mx_ex d 263 456 [l0, l1, l2, some (0, x)] [v0, v1, v2, v3] S h n = mx_ex d 263 457 [l0, l1, l2, some (0, x)] [(0, x), v0, v1, v2, v3] S h n) ∧
  (∀ (d : Nat) (l0 l1 l2 l3 : Option mx_V) (v0 v1 v2 v3 v4 : mx_V) (S h : mx_H) (n : Int), mx_ex d 263 457 [l0, l1, l2, l3] [v0, v1, v2, v3, v4] S h n = mx_ex d 263 458 [l0, l1, l2, l3] [(0, 2), v0, v1, v2, v3, v4] S h n) ∧
  (∀ (d : Nat) (b a : Int) (l0 l1 l2 l3 : Option mx_V) (v2 v3 v4 v5 : mx_V) (S h : mx_H) (n : Int), mx_ex d 263 458 [l0, l1, l2, l3] [(0, b), (0, a), v2, v3, v4, v5] S h n = mx_ex d 263 459 [l0, l1, l2, l3] [(0, mx_w (a + b)), v2, v3, v4, v5] S h n) ∧
  (∀ (d : Nat) (i a : Int) (l0 l1 l2 l3 : Option mx_V) (v2 v3 v4 : mx_V) (S h : mx_H) (n : Int), mx_ex d 263 459 [l0, l1, l2, l3] [(0, i), (2, a), v2, v3, v4] S h n = mx_gd ((S a (-2) = 20 ∨ S a (-2) = 24) ∧ 0 ≤ i ∧ i < S a (-1)) d 263 460 [l0, l1, l2, l3] [(0, h a i), v2, v3, v4] S h n) ∧
  (∀ (d : Nat) (x0 x1 a : Int) (l0 l1 l2 l3 : Option mx_V) (v3 : mx_V) (S h : mx_H) (n : Int), mx_ex (d + 1) 263 460 [l0, l1, l2, l3] [(0, x0), (0, x1), (2, a), v3] S h n = mx_cl (S a (-2) = 13) d 180 [(2, a), (0, x1), (0, x0)] 263 463 [l0, l1, l2, l3] [v3] S h n) ∧
  (∀ (d : Nat) (b a : Int) (l0 l1 l2 l3 : Option mx_V) (S h : mx_H) (n : Int), mx_ex d 263 463 [l0, l1, l2, l3] [(0, b), (0, a)] S h n = mx_br (a = b) d 263 1653 466 [l0, l1, l2, l3] [] S h n) ∧
  (∀ (d : Nat) (l0 l1 l2 l3 : Option mx_V) (S h : mx_H) (n : Int), mx_ex d 263 466 [l0, l1, l2, l3] [] S h n = mx_ex d 263 467 [l0, l1, l2, l3] [(0, 0)] S h n) ∧
  (∀ (d : Nat) (x : Int) (l0 l1 l2 l3 : Option mx_V) (S h : mx_H) (n : Int), mx_ex d 263 467 [l0, l1, l2, l3] [(0, x)] S h n = mx_re (0 ≤ x ∧ x ≤ 1) (some (0, x)) S h n) ∧
  (∀ (d : Nat) (x : Int) (l0 l2 l3 : Option mx_V) (S h : mx_H) (n : Int), mx_ex d 263 468 [l0, some (2, x), l2, l3] [] S h n = mx_ex d 263 469 [l0, some (2, x), l2, l3] [(2, x)] S h n) ∧
  (∀ (d : Nat) (x : Int) (l1 l2 l3 : Option mx_V) (v0 : mx_V) (S h : mx_H) (n : Int), mx_ex d 263 469 [some (2, x), l1, l2, l3] [v0] S h n = mx_ex d 263 470 [some (2, x), l1, l2, l3] [(2, x), v0] S h n) ∧
  (∀ (d : Nat) (x : Int) (l0 l1 l2 : Option mx_V) (v0 v1 : mx_V) (S h : mx_H) (n : Int), mx_ex d 263 470 [l0, l1, l2, some (0, x)] [v0, v1] S h n = mx_ex d 263 471 [l0, l1, l2, some (0, x)] [(0, x), v0, v1] S h n) ∧
  (∀ (d : Nat) (l0 l1 l2 l3 : Option mx_V) (v0 v1 v2 : mx_V) (S h : mx_H) (n : Int), mx_ex d 263 471 [l0, l1, l2, l3] [v0, v1, v2] S h n = mx_ex d 263 472 [l0, l1, l2, l3] [(0, 1), v0, v1, v2] S h n) ∧
  (∀ (d : Nat) (b a : Int) (l0 l1 l2 l3 : Option mx_V) (v2 v3 : mx_V) (S h : mx_H) (n : Int), mx_ex d 263 472 [l0, l1, l2, l3] [(0, b), (0, a), v2, v3] S h n = mx_ex d 263 473 [l0, l1, l2, l3] [(0, mx_w (a + b)), v2, v3] S h n) ∧
  (∀ (d : Nat) (i a : Int) (l0 l1 l2 l3 : Option mx_V) (v2 : mx_V) (S h : mx_H) (n : Int), mx_ex d 263 473 [l0, l1, l2, l3] [(0, i), (2, a), v2] S h n = mx_gd ((S a (-2) = 20 ∨ S a (-2) = 24) ∧ 0 ≤ i ∧ i < S a (-1)) d 263 474 [l0, l1, l2, l3] [(0, h a i), v2] S h n) ∧
  (∀ (d : Nat) (x : Int) (l1 l2 l3 : Option mx_V) (v0 v1 : mx_V) (S h : mx_H) (n : Int), mx_ex d 263 474 [some (2, x), l1, l2, l3] [v0, v1] S h n = mx_ex d 263 475 [some (2, x), l1, l2, l3] [(2, x), v0, v1] S h n) ∧
  (∀ (d : Nat) (x : Int) (l0 l1 l2 : Option mx_V) (v0 v1 v2 : mx_V) (S h : mx_H) (n : Int), mx_ex d 263 475 [l0, l1, l2, some (0, x)] [v0, v1, v2] S h n = mx_ex d 263 476 [l0, l1, l2, some (0, x)] [(0, x), v0, v1, v2] S h n) ∧
  (∀ (d : Nat) (l0 l1 l2 l3 : Option mx_V) (v0 v1 v2 v3 : mx_V) (S h : mx_H) (n : Int), mx_ex d 263 476 [l0, l1, l2, l3] [v0, v1, v2, v3] S h n = mx_ex d 263 477 [l0, l1, l2, l3] [(0, 2), v0, v1, v2, v3] S h n) ∧
  (∀ (d : Nat) (b a : Int) (l0 l1 l2 l3 : Option mx_V) (v2 v3 v4 : mx_V) (S h : mx_H) (n : Int), mx_ex d 263 477 [l0, l1, l2, l3] [(0, b), (0, a), v2, v3, v4] S h n = mx_ex d 263 478 [l0, l1, l2, l3] [(0, mx_w (a + b)), v2, v3, v4] S h n) ∧
  (∀ (d : Nat) (i a : Int) (l0 l1 l2 l3 : Option mx_V) (v2 v3 : mx_V) (S h : mx_H) (n : Int), mx_ex d 263 478 [l0, l1, l2, l3] [(0, i), (2, a), v2, v3] S h n = mx_gd ((S a (-2) = 20 ∨ S a (-2) = 24) ∧ 0 ≤ i ∧ i < S a (-1)) d 263 479 [l0, l1, l2, l3] [(0, h a i), v2, v3] S h n) ∧
  (∀ (d : Nat) (x : Int) (l1 l2 l3 : Option mx_V) (v0 v1 v2 : mx_V) (S h : mx_H) (n : Int), mx_ex d 263 479 [some (2, x), l1, l2, l3] [v0, v1, v2] S h n = mx_ex d 263 480 [some (2, x), l1, l2, l3] [(2, x), v0, v1, v2] S h n) ∧
  (∀ (d : Nat) (x : Int) (l0 l1 l2 : Option mx_V) (v0 v1 v2 v3 : mx_V) (S h : mx_H) (n : Int), mx_ex d 263 480 [l0, l1, l2, some (0, x)] [v0, v1, v2, v3] S h n = mx_ex d 263 481 [l0, l1, l2, some (0, x)] [(0, x), v0, v1, v2, v3] S h n) ∧
  (∀ (d : Nat) (l0 l1 l2 l3 : Option mx_V) (v0 v1 v2 v3 v4 : mx_V) (S h : mx_H) (n : Int), mx_ex d 263 481 [l0, l1, l2, l3] [v0, v1, v2, v3, v4] S h n = mx_ex d 263 482 [l0, l1, l2, l3] [(0, 3), v0, v1, v2, v3, v4] S h n) ∧
  (∀ (d : Nat) (b a : Int) (l0 l1 l2 l3 : Option mx_V) (v2 v3 v4 v5 : mx_V) (S h : mx_H) (n : Int), mx_ex d 263 482 [l0, l1, l2, l3] [(0, b), (0, a), v2, v3, v4, v5] S h n = mx_ex d 263 483 [l0, l1, l2, l3] [(0, mx_w (a + b)), v2, v3, v4, v5] S h n) ∧
  (∀ (d : Nat) (i a : Int) (l0 l1 l2 l3 : Option mx_V) (v2 v3 v4 : mx_V) (S h : mx_H) (n : Int), mx_ex d 263 483 [l0, l1, l2, l3] [(0, i), (2, a), v2, v3, v4] S h n = mx_gd ((S a (-2) = 20 ∨ S a (-2) = 24) ∧ 0 ≤ i ∧ i < S a (-1)) d 263 484 [l0, l1, l2, l3] [(0, h a i), v2, v3, v4] S h n) ∧
  (∀ (d : Nat) (x0 x1 x2 a : Int) (l0 l1 l2 l3 : Option mx_V) (S h : mx_H) (n : Int), mx_ex (d + 1) 263 484 [l0, l1, l2, l3] [(0, x0), (0, x1), (0, x2), (2, a)] S h n = mx_cl (S a (-2) = 7) d 107 [(2, a), (0, x2), (0, x1), (0, x0)] 263 487 [l0, l1, l2, l3] [] S h n) ∧
  (∀ (d : Nat) (x : Int) (l0 l1 l3 : Option mx_V) (v0 : mx_V) (S h : mx_H) (n : Int), mx_ex d 263 487 [l0, l1, some (2, x), l3] [v0] S h n = mx_ex d 263 488 [l0, l1, some (2, x), l3] [(2, x), v0] S h n) ∧
  (∀ (d : Nat) (x : Int) (l1 l2 l3 : Option mx_V) (v0 v1 : mx_V) (S h : mx_H) (n : Int), mx_ex d 263 488 [some (2, x), l1, l2, l3] [v0, v1] S h n = mx_ex d 263 489 [some (2, x), l1, l2, l3] [(2, x), v0, v1] S h n) ∧
  (∀ (d : Nat) (x : Int) (l0 l1 l2 : Option mx_V) (v0 v1 v2 : mx_V) (S h : mx_H) (n : Int), mx_ex d 263 489 [l0, l1, l2, some (0, x)] [v0, v1, v2] S h n = mx_ex d 263 490 [l0, l1, l2, some (0, x)] [(0, x), v0, v1, v2] S h n) ∧
  (∀ (d : Nat) (l0 l1 l2 l3 : Option mx_V) (v0 v1 v2 v3 : mx_V) (S h : mx_H) (n : Int), mx_ex d 263 490 [l0, l1, l2, l3] [v0, v1, v2, v3] S h n = mx_ex d 263 491 [l0, l1, l2, l3] [(0, 1), v0, v1, v2, v3] S h n) ∧
  (∀ (d : Nat) (b a : Int) (l0 l1 l2 l3 : Option mx_V) (v2 v3 v4 : mx_V) (S h : mx_H) (n : Int), mx_ex d 263 491 [l0, l1, l2, l3] [(0, b), (0, a), v2, v3, v4] S h n = mx_ex d 263 492 [l0, l1, l2, l3] [(0, mx_w (a + b)), v2, v3, v4] S h n) ∧
  (∀ (d : Nat) (i a : Int) (l0 l1 l2 l3 : Option mx_V) (v2 v3 : mx_V) (S h : mx_H) (n : Int), mx_ex d 263 492 [l0, l1, l2, l3] [(0, i), (2, a), v2, v3] S h n = mx_gd ((S a (-2) = 20 ∨ S a (-2) = 24) ∧ 0 ≤ i ∧ i < S a (-1)) d 263 493 [l0, l1, l2, l3] [(0, h a i), v2, v3] S h n) ∧
  (∀ (d : Nat) (x : Int) (l1 l2 l3 : Option mx_V) (v0 v1 v2 : mx_V) (S h : mx_H) (n : Int), mx_ex d 263 493 [some (2, x), l1, l2, l3] [v0, v1, v2] S h n = mx_ex d 263 494 [some (2, x), l1, l2, l3] [(2, x), v0, v1, v2] S h n) ∧
  (∀ (d : Nat) (x : Int) (l0 l1 l2 : Option mx_V) (v0 v1 v2 v3 : mx_V) (S h : mx_H) (n : Int), mx_ex d 263 494 [l0, l1, l2, some (0, x)] [v0, v1, v2, v3] S h n = mx_ex d 263 495 [l0, l1, l2, some (0, x)] [(0, x), v0, v1, v2, v3] S h n) ∧
  (∀ (d : Nat) (l0 l1 l2 l3 : Option mx_V) (v0 v1 v2 v3 v4 : mx_V) (S h : mx_H) (n : Int), mx_ex d 263 495 [l0, l1, l2, l3] [v0, v1, v2, v3, v4] S h n = mx_ex d 263 496 [l0, l1, l2, l3] [(0, 2), v0, v1, v2, v3, v4] S h n) ∧
  (∀ (d : Nat) (b a : Int) (l0 l1 l2 l3 : Option mx_V) (v2 v3 v4 v5 : mx_V) (S h : mx_H) (n : Int), mx_ex d 263 496 [l0, l1, l2, l3] [(0, b), (0, a), v2, v3, v4, v5] S h n = mx_ex d 263 497 [l0, l1, l2, l3] [(0, mx_w (a + b)), v2, v3, v4, v5] S h n) ∧
  (∀ (d : Nat) (i a : Int) (l0 l1 l2 l3 : Option mx_V) (v2 v3 v4 : mx_V) (S h : mx_H) (n : Int), mx_ex d 263 497 [l0, l1, l2, l3] [(0, i), (2, a), v2, v3, v4] S h n = mx_gd ((S a (-2) = 20 ∨ S a (-2) = 24) ∧ 0 ≤ i ∧ i < S a (-1)) d 263 498 [l0, l1, l2, l3] [(0, h a i), v2, v3, v4] S h n) ∧
  (∀ (d : Nat) (x : Int) (l1 l2 l3 : Option mx_V) (v0 v1 v2 v3 : mx_V) (S h : mx_H) (n : Int), mx_ex d 263 498 [some (2, x), l1, l2, l3] [v0, v1, v2, v3] S h n = mx_ex d 263 499 [some (2, x), l1, l2, l3] [(2, x), v0, v1, v2, v3] S h n) ∧
  (∀ (d : Nat) (x : Int) (l0 l1 l2 : Option mx_V) (v0 v1 v2 v3 v4 : mx_V) (S h : mx_H) (n : Int), mx_ex d 263 499 [l0, l1, l2, some (0, x)] [v0, v1, v2, v3, v4] S h n = mx_ex d 263 500 [l0, l1, l2, some (0, x)] [(0, x), v0, v1, v2, v3, v4] S h n) ∧
  (∀ (d : Nat) (l0 l1 l2 l3 : Option mx_V) (v0 v1 v2 v3 v4 v5 : mx_V) (S h : mx_H) (n : Int), mx_ex d 263 500 [l0, l1, l2, l3] [v0, v1, v2, v3, v4, v5] S h n = mx_ex d 263 501 [l0, l1, l2, l3] [(0, 3), v0, v1, v2, v3, v4, v5] S h n) ∧
  (∀ (d : Nat) (b a : Int) (l0 l1 l2 l3 : Option mx_V) (v2 v3 v4 v5 v6 : mx_V) (S h : mx_H) (n : Int), mx_ex d 263 501 [l0, l1, l2, l3] [(0, b), (0, a), v2, v3, v4, v5, v6] S h n = mx_ex d 263 502 [l0, l1, l2, l3] [(0, mx_w (a + b)), v2, v3, v4, v5, v6] S h n) ∧
  (∀ (d : Nat) (i a : Int) (l0 l1 l2 l3 : Option mx_V) (v2 v3 v4 v5 : mx_V) (S h : mx_H) (n : Int), mx_ex d 263 502 [l0, l1, l2, l3] [(0, i), (2, a), v2, v3, v4, v5] S h n = mx_gd ((S a (-2) = 20 ∨ S a (-2) = 24) ∧ 0 ≤ i ∧ i < S a (-1)) d 263 503 [l0, l1, l2, l3] [(0, h a i), v2, v3, v4, v5] S h n) ∧
  (∀ (d : Nat) (x0 x1 x2 a : Int) (l0 l1 l2 l3 : Option mx_V) (v4 : mx_V) (S h : mx_H) (n : Int), mx_ex (d + 1) 263 503 [l0, l1, l2, l3] [(0, x0), (0, x1), (0, x2), (2, a), v4] S h n = mx_cl (S a (-2) = 13) d 182 [(2, a), (0, x2), (0, x1), (0, x0)] 263 506 [l0, l1, l2, l3] [v4] S h n) ∧
  (∀ (d : Nat) (b a : Int) (l0 l1 l2 l3 : Option mx_V) (S h : mx_H) (n : Int), mx_ex d 263 506 [l0, l1, l2, l3] [(0, b), (0, a)] S h n = mx_br (a = b) d 263 1653 509 [l0, l1, l2, l3] [] S h n) ∧
  (∀ (d : Nat) (l0 l1 l2 l3 : Option mx_V) (S h : mx_H) (n : Int), mx_ex d 263 509 [l0, l1, l2, l3] [] S h n = mx_ex d 263 510 [l0, l1, l2, l3] [(0, 0)] S h n) ∧
  (∀ (d : Nat) (x : Int) (l0 l1 l2 l3 : Option mx_V) (S h : mx_H) (n : Int), mx_ex d 263 510 [l0, l1, l2, l3] [(0, x)] S h n = mx_re (0 ≤ x ∧ x ≤ 1) (some (0, x)) S h n) ∧
  (∀ (d : Nat) (x : Int) (l0 l2 l3 : Option mx_V) (S h : mx_H) (n : Int), mx_ex d 263 511 [l0, some (2, x), l2, l3] [] S h n = mx_ex d 263 512 [l0, some (2, x), l2, l3] [(2, x)] S h n) ∧
  (∀ (d : Nat) (x : Int) (l1 l2 l3 : Option mx_V) (v0 : mx_V) (S h : mx_H) (n : Int), mx_ex d 263 512 [some (2, x), l1, l2, l3] [v0] S h n = mx_ex d 263 513 [some (2, x), l1, l2, l3] [(2, x), v0] S h n) ∧
  (∀ (d : Nat) (x : Int) (l0 l1 l2 : Option mx_V) (v0 v1 : mx_V) (S h : mx_H) (n : Int), mx_ex d 263 513 [l0, l1, l2, some (0, x)] [v0, v1] S h n = mx_ex d 263 514 [l0, l1, l2, some (0, x)] [(0, x), v0, v1] S h n) ∧
  (∀ (d : Nat) (l0 l1 l2 l3 : Option mx_V) (v0 v1 v2 : mx_V) (S h : mx_H) (n : Int), mx_ex d 263 514 [l0, l1, l2, l3] [v0, v1, v2] S h n = mx_ex d 263 515 [l0, l1, l2, l3] [(0, 1), v0, v1, v2] S h n) ∧
  (∀ (d : Nat) (b a : Int) (l0 l1 l2 l3 : Option mx_V) (v2 v3 : mx_V) (S h : mx_H) (n : Int), mx_ex d 263 515 [l0, l1, l2, l3] [(0, b), (0, a), v2, v3] S h n = mx_ex d 263 516 [l0, l1, l2, l3] [(0, mx_w (a + b)), v2, v3] S h n) ∧
  (∀ (d : Nat) (i a : Int) (l0 l1 l2 l3 : Option mx_V) (v2 : mx_V) (S h : mx_H) (n : Int), mx_ex d 263 516 [l0, l1, l2, l3] [(0, i), (2, a), v2] S h n = mx_gd ((S a (-2) = 20 ∨ S a (-2) = 24) ∧ 0 ≤ i ∧ i < S a (-1)) d 263 517 [l0, l1, l2, l3] [(0, h a i), v2] S h n) ∧
  (∀ (d : Nat) (x : Int) (l1 l2 l3 : Option mx_V) (v0 v1 : mx_V) (S h : mx_H) (n : Int), mx_ex d 263 517 [some (2, x), l1, l2, l3] [v0, v1] S h n = mx_ex d 263 518 [some (2, x), l1, l2, l3] [(2, x), v0, v1] S h n) ∧
  (∀ (d : Nat) (x : Int) (l0 l1 l2 : Option mx_V) (v0 v1 v2 : mx_V) (S h : mx_H) (n : Int), mx_ex d 263 518 [l0, l1, l2, some (0, x)] [v0, v1, v2] S h n = mx_ex d 263 519 [l0, l1, l2, some (0, x)] [(0, x), v0, v1, v2] S h n) ∧
  (∀ (d : Nat) (l0 l1 l2 l3 : Option mx_V) (v0 v1 v2 v3 : mx_V) (S h : mx_H) (n : Int), mx_ex d 263 519 [l0, l1, l2, l3] [v0, v1, v2, v3] S h n = mx_ex d 263 520 [l0, l1, l2, l3] [(0, 2), v0, v1, v2, v3] S h n) ∧
  (∀ (d : Nat) (b a : Int) (l0 l1 l2 l3 : Option mx_V) (v2 v3 v4 : mx_V) (S h : mx_H) (n : Int), mx_ex d 263 520 [l0, l1, l2, l3] [(0, b), (0, a), v2, v3, v4] S h n = mx_ex d 263 521 [l0, l1, l2, l3] [(0, mx_w (a + b)), v2, v3, v4] S h n) ∧
  (∀ (d : Nat) (i a : Int) (l0 l1 l2 l3 : Option mx_V) (v2 v3 : mx_V) (S h : mx_H) (n : Int), mx_ex d 263 521 [l0, l1, l2, l3] [(0, i), (2, a), v2, v3] S h n = mx_gd ((S a (-2) = 20 ∨ S a (-2) = 24) ∧ 0 ≤ i ∧ i < S a (-1)) d 263 522 [l0, l1, l2, l3] [(0, h a i), v2, v3] S h n) ∧
  (∀ (d : Nat) (x0 x1 a : Int) (l0 l1 l2 l3 : Option mx_V) (S h : mx_H) (n : Int), mx_ex (d + 1) 263 522 [l0, l1, l2, l3] [(0, x0), (0, x1), (2, a)] S h n = mx_cl (S a (-2) = 7) d 108 [(2, a), (0, x1), (0, x0)] 263 525 [l0, l1, l2, l3] [] S h n) ∧
  (∀ (d : Nat) (x : Int) (l0 l1 l3 : Option mx_V) (v0 : mx_V) (S h : mx_H) (n : Int), mx_ex d 263 525 [l0, l1, some (2, x), l3] [v0] S h n = mx_ex d 263 526 [l0, l1, some (2, x), l3] [(2, x), v0] S h n) ∧
  (∀ (d : Nat) (x : Int) (l1 l2 l3 : Option mx_V) (v0 v1 : mx_V) (S h : mx_H) (n : Int), mx_ex d 263 526 [some (2, x), l1, l2, l3] [v0, v1] S h n = mx_ex d 263 527 [some (2, x), l1, l2, l3] [(2, x), v0, v1] S h n) :=
  ⟨by intros; exact eq_push rfl,
   by intros; exact eq_i2 (o := mx_add) rfl,
   by intros; exact eq_iald rfl,
   by intros; exact eq_cv rfl (Nat.le_of_ble_eq_true rfl) rfl rfl rfl (Nat.le_of_ble_eq_true rfl),
   by intros; exact eq_ld rfl rfl,
   by intros; exact eq_ld rfl rfl,
   by intros; exact eq_ld rfl rfl,
   by intros; exact eq_push rfl,
   by intros; exact eq_i2 (o := mx_add) rfl,
   by intros; exact eq_iald rfl,
   by intros; exact eq_ld rfl rfl,
   by intros; exact eq_ld rfl rfl,
   by intros; exact eq_push rfl,
   by intros; exact eq_i2 (o := mx_add) rfl,
   by intros; exact eq_iald rfl,
   by intros; exact eq_cv rfl (Nat.le_of_ble_eq_true rfl) rfl rfl rfl (Nat.le_of_ble_eq_true rfl),
   by intros; exact eq_ic0 rfl,
   by intros; exact eq_push rfl,
   by intros; exact eq_rr rfl,
   by intros; exact eq_ld rfl rfl,
   by intros; exact eq_ld rfl rfl,
   by intros; exact eq_ld rfl rfl,
   by intros; exact eq_push rfl,
   by intros; exact eq_i2 (o := mx_add) rfl,
   by intros; exact eq_iald rfl,
   by intros; exact eq_ld rfl rfl,
   by intros; exact eq_ld rfl rfl,
   by intros; exact eq_push rfl,
   by intros; exact eq_i2 (o := mx_add) rfl,
   by intros; exact eq_iald rfl,
   by intros; exact eq_ld rfl rfl,
   by intros; exact eq_ld rfl rfl,
   by intros; exact eq_push rfl,
   by intros; exact eq_i2 (o := mx_add) rfl,
   by intros; exact eq_iald rfl,
   by intros; exact eq_cv rfl (Nat.le_of_ble_eq_true rfl) rfl rfl rfl (Nat.le_of_ble_eq_true rfl),
   by intros; exact eq_ld rfl rfl,
   by intros; exact eq_ld rfl rfl,
   by intros; exact eq_ld rfl rfl,
   by intros; exact eq_push rfl,
   by intros; exact eq_i2 (o := mx_add) rfl,
   by intros; exact eq_iald rfl,
   by intros; exact eq_ld rfl rfl,
   by intros; exact eq_ld rfl rfl,
   by intros; exact eq_push rfl,
   by intros; exact eq_i2 (o := mx_add) rfl,
   by intros; exact eq_iald rfl,
   by intros; exact eq_ld rfl rfl,
   by intros; exact eq_ld rfl rfl,
   by intros; exact eq_push rfl,
   by intros; exact eq_i2 (o := mx_add) rfl,
   by intros; exact eq_iald rfl,
   by intros; exact eq_cv rfl (Nat.le_of_ble_eq_true rfl) rfl rfl rfl (Nat.le_of_ble_eq_true rfl),
   by intros; exact eq_ic0 rfl,
   by intros; exact eq_push rfl,
   by intros; exact eq_rr rfl,
   by intros; exact eq_ld rfl rfl,
   by intros; exact eq_ld rfl rfl,
   by intros; exact eq_ld rfl rfl,
   by intros; exact eq_push rfl,
   by intros; exact eq_i2 (o := mx_add) rfl,
   by intros; exact eq_iald rfl,
   by intros; exact eq_ld rfl rfl,
   by intros; exact eq_ld rfl rfl,
   by intros; exact eq_push rfl,
   by intros; exact eq_i2 (o := mx_add) rfl,
   by intros; exact eq_iald rfl,
   by intros; exact eq_cv rfl (Nat.le_of_ble_eq_true rfl) rfl rfl rfl (Nat.le_of_ble_eq_true rfl),
   by intros; exact eq_ld rfl rfl,
   by intros; exact eq_ld rfl rfl⟩
theorem rw_L_law_4 :
  (∀ (d : Nat) (x : Int) (l0 l1 l2 : Option mx_V) (v0 v1 v2 : mx_V) (S h : mx_H) (n : Int), mx_ex d 263 527 [l0, l1, l2, some (0, x)] [v0, v1, v2] S h n = mx_ex d 263 528 [l0, l1, l2, some (0, x)] [(0, x), v0, v1, v2] S h n) ∧
  (∀ (d : Nat) (l0 l1 l2 l3 : Option mx_V) (v0 v1 v2 v3 : mx_V) (S h : mx_H) (n : Int), mx_ex d 263 528 [l0, l1, l2, l3] [v0, v1, v2, v3] S h n = mx_ex d 263 529 [l0, l1, l2, l3] [(0, 1), v0, v1, v2, v3] S h n) ∧
  (∀ (d : Nat) (b a : Int) (l0 l1 l2 l3 : Option mx_V) (v2 v3 v4 : mx_V) (S h : mx_H) (n : Int), mx_ex d 263 529 [l0, l1, l2, l3] [(0, b), (0, a), v2, v3, v4] S h n = mx_ex d 263 530 [l0, l1, l2, l3] [(0, mx_w (a + b)), v2, v3, v4] S h n) ∧
  (∀ (d : Nat) (i a : Int) (l0 l1 l2 l3 : Option mx_V) (v2 v3 : mx_V) (S h : mx_H) (n : Int), mx_ex d 263 530 [l0, l1, l2, l3] [(0, i), (2, a), v2, v3] S h n = mx_gd ((S a (-2) = 20 ∨ S a (-2) = 24) ∧ 0 ≤ i ∧ i < S a (-1)) d 263 531 [l0, l1, l2, l3] [(0, h a i), v2, v3] S h n) ∧
  (∀ (d : Nat) (x : Int) (l1 l2 l3 : Option mx_V) (v0 v1 v2 : mx_V) (S h : mx_H) (n : Int), mx_ex d 263 531 [some (2, x), l1, l2, l3] [v0, v1, v2] S h n = mx_ex d 263 532 [some (2, x), l1, l2, l3] [(2, x), v0, v1, v2] S h n) ∧
  (∀ (d : Nat) (x : Int) (l0 l1 l2 : Option mx_V) (v0 v1 v2 v3 : mx_V) (S h : mx_H) (n : Int), mx_ex d 263 532 [l0, l1, l2, some (0, x)] [v0, v1, v2, v3] S h n = mx_ex d 263 533 [l0, l1, l2, some (0, x)] [(0, x), v0, v1, v2, v3] S h n) ∧
  (∀ (d : Nat) (l0 l1 l2 l3 : Option mx_V) (v0 v1 v2 v3 v4 : mx_V) (S h : mx_H) (n : Int), mx_ex d 263 533 [l0, l1, l2, l3] [v0, v1, v2, v3, v4] S h n = mx_ex d 263 534 [l0, l1, l2, l3] [(0, 2), v0, v1, v2, v3, v4] S h n) ∧
  (∀ (d : Nat) (b a : Int) (l0 l1 l2 l3 : Option mx_V) (v2 v3 v4 v5 : mx_V) (S h : mx_H) (n : Int), mx_ex d 263 534 [l0, l1, l2, l3] [(0, b), (0, a), v2, v3, v4, v5] S h n = mx_ex d 263 535 [l0, l1, l2, l3] [(0, mx_w (a + b)), v2, v3, v4, v5] S h n) ∧
  (∀ (d : Nat) (i a : Int) (l0 l1 l2 l3 : Option mx_V) (v2 v3 v4 : mx_V) (S h : mx_H) (n : Int), mx_ex d 263 535 [l0, l1, l2, l3] [(0, i), (2, a), v2, v3, v4] S h n = mx_gd ((S a (-2) = 20 ∨ S a (-2) = 24) ∧ 0 ≤ i ∧ i < S a (-1)) d 263 536 [l0, l1, l2, l3] [(0, h a i), v2, v3, v4] S h n) ∧
  (∀ (d : Nat) (x0 x1 a : Int) (l0 l1 l2 l3 : Option mx_V) (v3 : mx_V) (S h : mx_H) (n : Int), mx_ex (d + 1) 263 536 [l0, l1, l2, l3] [(0, x0), (0, x1), (2, a), v3] S h n = mx_cl (S a (-2) = 13) d 183 [(2, a), (0, x1), (0, x0)] 263 539 [l0, l1, l2, l3] [v3] S h n) ∧
  (∀ (d : Nat) (b a : Int) (l0 l1 l2 l3 : Option mx_V) (S h : mx_H) (n : Int), mx_ex d 263 539 [l0, l1, l2, l3] [(0, b), (0, a)] S h n = mx_br (a = b) d 263 1653 542 [l0, l1, l2, l3] [] S h n) ∧
  (∀ (d : Nat) (l0 l1 l2 l3 : Option mx_V) (S h : mx_H) (n : Int), mx_ex d 263 542 [l0, l1, l2, l3] [] S h n = mx_ex d 263 543 [l0, l1, l2, l3] [(0, 0)] S h n) ∧
  (∀ (d : Nat) (x : Int) (l0 l1 l2 l3 : Option mx_V) (S h : mx_H) (n : Int), mx_ex d 263 543 [l0, l1, l2, l3] [(0, x)] S h n = mx_re (0 ≤ x ∧ x ≤ 1) (some (0, x)) S h n) ∧
  (∀ (d : Nat) (x : Int) (l0 l2 l3 : Option mx_V) (S h : mx_H) (n : Int), mx_ex d 263 544 [l0, some (2, x), l2, l3] [] S h n = mx_ex d 263 545 [l0, some (2, x), l2, l3] [(2, x)] S h n) ∧
  (∀ (d : Nat) (x : Int) (l1 l2 l3 : Option mx_V) (v0 : mx_V) (S h : mx_H) (n : Int), mx_ex d 263 545 [some (2, x), l1, l2, l3] [v0] S h n = mx_ex d 263 546 [some (2, x), l1, l2, l3] [(2, x), v0] S h n) ∧
  (∀ (d : Nat) (x : Int) (l0 l1 l2 : Option mx_V) (v0 v1 : mx_V) (S h : mx_H) (n : Int), mx_ex d 263 546 [l0, l1, l2, some (0, x)] [v0, v1] S h n = mx_ex d 263 547 [l0, l1, l2, some (0, x)] [(0, x), v0, v1] S h n) ∧
  (∀ (d : Nat) (l0 l1 l2 l3 : Option mx_V) (v0 v1 v2 : mx_V) (S h : mx_H) (n : Int), mx_ex d 263 547 [l0, l1, l2, l3] [v0, v1, v2] S h n = mx_ex d 263 548 [l0, l1, l2, l3] [(0, 1), v0, v1, v2] S h n) ∧
  (∀ (d : Nat) (b a : Int) (l0 l1 l2 l3 : Option mx_V) (v2 v3 : mx_V) (S h : mx_H) (n : Int), mx_ex d 263 548 [l0, l1, l2, l3] [(0, b), (0, a), v2, v3] S h n = mx_ex d 263 549 [l0, l1, l2, l3] [(0, mx_w (a + b)), v2, v3] S h n) ∧
  (∀ (d : Nat) (i a : Int) (l0 l1 l2 l3 : Option mx_V) (v2 : mx_V) (S h : mx_H) (n : Int), mx_ex d 263 549 [l0, l1, l2, l3] [(0, i), (2, a), v2] S h n = mx_gd ((S a (-2) = 20 ∨ S a (-2) = 24) ∧ 0 ≤ i ∧ i < S a (-1)) d 263 550 [l0, l1, l2, l3] [(0, h a i), v2] S h n) ∧
  (∀ (d : Nat) (x : Int) (l1 l2 l3 : Option mx_V) (v0 v1 : mx_V) (S h : mx_H) (n : Int), mx_ex d 263 550 [some (2, x), l1, l2, l3] [v0, v1] S h n = mx_ex d 263 551 [some (2, x), l1, l2, l3] [(2, x), v0, v1] S h n) ∧
  (∀ (d : Nat) (x : Int) (l0 l1 l2 : Option mx_V) (v0 v1 v2 : mx_V) (S h : mx_H) (n : Int), mx_ex d 263 551 [l0, l1, l2, some (0, x)] [v0, v1, v2] S h n = mx_ex d 263 552 [l0, l1, l2, some (0, x)] [(0, x), v0, v1, v2] S h n) ∧
  (∀ (d : Nat) (l0 l1 l2 l3 : Option mx_V) (v0 v1 v2 v3 : mx_V) (S h : mx_H) (n : Int), mx_ex d 263 552 [l0, l1, l2, l3] [v0, v1, v2, v3] S h n = mx_ex d 263 553 [l0, l1, l2, l3] [(0, 2), v0, v1, v2, v3] S h n) ∧
  (∀ (d : Nat) (b a : Int) (l0 l1 l2 l3 : Option mx_V) (v2 v3 v4 : mx_V) (S h : mx_H) (n : Int), mx_ex d 263 553 [l0, l1, l2, l3] [(0, b), (0, a), v2, v3, v4] S h n = mx_ex d 263 554 [l0, l1, l2, l3] [(0, mx_w (a + b)), v2, v3, v4] S h n) ∧
  (∀ (d : Nat) (i a : Int) (l0 l1 l2 l3 : Option mx_V) (v2 v3 : mx_V) (S h : mx_H) (n : Int), mx_ex d 263 554 [l0, l1, l2, l3] [(0, i), (2, a), v2, v3] S h n = mx_gd ((S a (-2) = 20 ∨ S a (-2) = 24) ∧ 0 ≤ i ∧ i < S a (-1)) d 263 555 [l0, l1, l2, l3] [(0, h a i), v2, v3] S h n) ∧
  (∀ (d : Nat) (x0 x1 a : Int) (l0 l1 l2 l3 : Option mx_V) (S h : mx_H) (n : Int), mx_ex (d + 1) 263 555 [l0, l1, l2, l3] [(0, x0), (0, x1), (2, a)] S h n = mx_cl (S a (-2) = 7) d 109 [(2, a), (0, x1), (0, x0)] 263 558 [l0, l1, l2, l3] [] S h n) ∧
  (∀ (d : Nat) (x : Int) (l0 l1 l3 : Option mx_V) (v0 : mx_V) (S h : mx_H) (n : Int), mx_ex d 263 558 [l0, l1, some (2, x), l3] [v0] S h n = mx_ex d 263 559 [l0, l1, some (2, x), l3] [(2, x), v0] S h n) ∧
  (∀ (d : Nat) (x : Int) (l1 l2 l3 : Option mx_V) (v0 v1 : mx_V) (S h : mx_H) (n : Int), mx_ex d 263 559 [some (2, x), l1, l2, l3] [v0, v1] S h n = mx_ex d 263 560 [some (2, x), l1, l2, l3] [(2, x), v0, v1] S h n) ∧
  (∀ (d : Nat) (x : Int) (l0 l1 l2 : Option mx_V) (v0 v1 v2 : mx_V) (S h : mx_H) (n : Int), mx_ex d 263 560 [l0, l1, l2, some (0, x)] [v0, v1, v2] S h n = mx_ex d 263 561 [l0, l1, l2, some (0, x)] [(0, x), v0, v1, v2] S h n) ∧
  (∀ (d : Nat) (l0 l1 l2 l3 : Option mx_V) (v0 v1 v2 v3 : mx_V) (S h : mx_H) (n : Int), mx_ex d 263 561 [l0, l1, l2, l3] [v0, v1, v2, v3] S h n = mx_ex d 263 562 [l0, l1, l2, l3] [(0, 1), v0, v1, v2, v3] S h n) ∧
  (∀ (d : Nat) (b a : Int) (l0 l1 l2 l3 : Option mx_V) (v2 v3 v4 : mx_V) (S h : mx_H) (n : Int), mx_ex d 263 562 [l0, l1, l2, l3] [(0, b), (0, a), v2, v3, v4] S h n = mx_ex d 263 563 [l0, l1, l2, l3] [(0, mx_w (a + b)), v2, v3, v4] S h n) ∧
  (∀ (d : Nat) (i a : Int) (l0 l1 l2 l3 : Option mx_V) (v2 v3 : mx_V) (S h : mx_H) (n : Int), mx_ex d 263 563 [l0, l1, l2, l3] [(0, i), (2, a), v2, v3] S h n = mx_gd ((S a (-2) = 20 ∨ S a (-2) = 24) ∧ 0 ≤ i ∧ i < S a (-1)) d 263 564 [l0, l1, l2, l3] [(0, h a i), v2, v3] S h n) ∧
  (∀ (d : Nat) (x : Int) (l1 l2 l3 : Option mx_V) (v0 v1 v2 : mx_V) (S h : mx_H) (n : Int), mx_ex d 263 564 [some (2, x), l1, l2, l3] [v0, v1, v2] S h n = mx_ex d 263 565 [some (2, x), l1, l2, l3] [(2, x), v0, v1, v2] S h n) ∧
  (∀ (d : Nat) (x : Int) (l0 l1 l2 : Option mx_V) (v0 v1 v2 v3 : mx_V) (S h : mx_H) (n : Int), mx_ex d 263 565 [l0, l1, l2, some (0, x)] [v0, v1, v2, v3] S h n = mx_ex d 263 566 [l0, l1, l2, some (0, x)] [(0, x), v0, v1, v2, v3] S h n) ∧
  (∀ (d : Nat) (l0 l1 l2 l3 : Option mx_V) (v0 v1 v2 v3 v4 : mx_V) (S h : mx_H) (n : Int), mx_ex d 263 566 [l0, l1, l2, l3] [v0, v1, v2, v3, v4] S h n = mx_ex d 263 567 [l0, l1, l2, l3] [(0, 2), v0, v1, v2, v3, v4] S h n) ∧
  (∀ (d : Nat) (b a : Int) (l0 l1 l2 l3 : Option mx_V) (v2 v3 v4 v5 : mx_V) (S h : mx_H) (n : Int), mx_ex d 263 567 [l0, l1, l2, l3] [(0, b), (0, a), v2, v3, v4, v5] S h n = mx_ex d 263 568 [l0, l1, l2, l3] [(0, mx_w (a + b)), v2, v3, v4, v5] S h n) ∧
  (∀ (d : Nat) (i a : Int) (l0 l1 l2 l3 : Option mx_V) (v2 v3 v4 : mx_V) (S h : mx_H) (n : Int), mx_ex d 263 568 [l0, l1, l2, l3] [(0, i), (2, a), v2, v3, v4] S h n = mx_gd ((S a (-2) = 20 ∨ S a (-2) = 24) ∧ 0 ≤ i ∧ i < S a (-1)) d 263 569 [l0, l1, l2, l3] [(0, h a i), v2, v3, v4] S h n) ∧
  (∀ (d : Nat) (x0 x1 a : Int) (l0 l1 l2 l3 : Option mx_V) (v3 : mx_V) (S h : mx_H) (n : Int), mx_ex (d + 1) 263 569 [l0, l1, l2, l3] [(0, x0), (0, x1), (2, a), v3] S h n = mx_cl (S a (-2) = 13) d 187 [(2, a), (0, x1), (0, x0)] 263 572 [l0, l1, l2, l3] [v3] S h n) ∧
  (∀ (d : Nat) (b a : Int) (l0 l1 l2 l3 : Option mx_V) (S h : mx_H) (n : Int), mx_ex d 263 572 [l0, l1, l2, l3] [(1, b), (1, a)] S h n = mx_ex d 263 573 [l0, l1, l2, l3] [(0, mx_cmp a b)] S h n) ∧
  (∀ (d : Nat) (a : Int) (l0 l1 l2 l3 : Option mx_V) (S h : mx_H) (n : Int), mx_ex d 263 573 [l0, l1, l2, l3] [(0, a)] S h n = mx_br (a = 0) d 263 1653 576 [l0, l1, l2, l3] [] S h n) ∧
  (∀ (d : Nat) (l0 l1 l2 l3 : Option mx_V) (S h : mx_H) (n : Int), mx_ex d 263 576 [l0, l1, l2, l3] [] S h n = mx_ex d 263 577 [l0, l1, l2, l3] [(0, 0)] S h n) ∧
  (∀ (d : Nat) (x : Int) (l0 l1 l2 l3 : Option mx_V) (S h : mx_H) (n : Int), mx_ex d 263 577 [l0, l1, l2, l3] [(0, x)] S h n = mx_re (0 ≤ x ∧ x ≤ 1) (some (0, x)) S h n) ∧
  (∀ (d : Nat) (x : Int) (l0 l2 l3 : Option mx_V) (S h : mx_H) (n : Int), mx_ex d 263 578 [l0, some (2, x), l2, l3] [] S h n = mx_ex d 263 579 [l0, some (2, x), l2, l3] [(2, x)] S h n) ∧
  (∀ (d : Nat) (x : Int) (l1 l2 l3 : Option mx_V) (v0 : mx_V) (S h : mx_H) (n : Int), mx_ex d 263 579 [some (2, x), l1, l2, l3] [v0] S h n = mx_ex d 263 580 [some (2, x), l1, l2, l3] [(2, x), v0] S h n) ∧
  (∀ (d : Nat) (x : Int) (l0 l1 l2 : Option mx_V) (v0 v1 : mx_V) (S h : mx_H) (n : Int), mx_ex d 263 580 [l0, l1, l2, some (0, x)] [v0, v1] S h n = mx_ex d 263 581 [l0, l1, l2, some (0, x)] [(0, x), v0, v1] S h n) ∧
  (∀ (d : Nat) (l0 l1 l2 l3 : Option mx_V) (v0 v1 v2 : mx_V) (S h : mx_H) (n : Int), mx_ex d 263 581 [l0, l1, l2, l3] [v0, v1, v2] S h n = mx_ex d 263 582 [l0, l1, l2, l3] [(0, 1), v0, v1, v2] S h n) ∧
  (∀ (d : Nat) (b a : Int) (l0 l1 l2 l3 : Option mx_V) (v2 v3 : mx_V) (S h : mx_H) (n : Int), mx_ex d 263 582 [l0, l1, l2, l3] [(0, b), (0, a), v2, v3] S h n = mx_ex d 263 583 [l0, l1, l2, l3] [(0, mx_w (a + b)), v2, v3] S h n) ∧
  (∀ (d : Nat) (i a : Int) (l0 l1 l2 l3 : Option mx_V) (v2 : mx_V) (S h : mx_H) (n : Int), mx_ex d 263 583 [l0, l1, l2, l3] [(0, i), (2, a), v2] S h n = mx_gd ((S a (-2) = 20 ∨ S a (-2) = 24) ∧ 0 ≤ i ∧ i < S a (-1)) d 263 584 [l0, l1, l2, l3] [(0, h a i), v2] S h n) ∧
  (∀ (d : Nat) (x0 a : Int) (l0 l1 l2 l3 : Option mx_V) (S h : mx_H) (n : Int), mx_ex (d + 1) 263 584 [l0, l1, l2, l3] [(0, x0), (2, a)] S h n = mx_cl (S a (-2) = 7) d 110 [(2, a), (0, x0)] 263 587 [l0, l1, l2, l3] [] S h n) ∧
  (∀ (d : Nat) (x : Int) (l0 l1 l3 : Option mx_V) (v0 : mx_V) (S h : mx_H) (n : Int), mx_ex d 263 587 [l0, l1, some (2, x), l3] [v0] S h n = mx_ex d 263 588 [l0, l1, some (2, x), l3] [(2, x), v0] S h n) ∧
  (∀ (d : Nat) (x : Int) (l1 l2 l3 : Option mx_V) (v0 v1 : mx_V) (S h : mx_H) (n : Int), mx_ex d 263 588 [some (2, x), l1, l2, l3] [v0, v1] S h n = mx_ex d 263 589 [some (2, x), l1, l2, l3] [(2, x), v0, v1] S h n) ∧
  (∀ (d : Nat) (x : Int) (l0 l1 l2 : Option mx_V) (v0 v1 v2 : mx_V) (S h : mx_H) (n : Int), mx_ex d 263 589 [l0, l1, l2, some (0, x)] [v0, v1, v2] S h n = mx_ex d 263 590 [l0, l1, l2, some (0, x)] [(0, x), v0, v1, v2] S h n) ∧
  (∀ (d : Nat) (l0 l1 l2 l3 : Option mx_V) (v0 v1 v2 v3 : mx_V) (S h : mx_H) (n : Int), mx_ex d 263 590 [l0, l1, l2, l3] [v0, v1, v2, v3] S h n = mx_ex d 263 591 [l0, l1, l2, l3] [(0, 1), v0, v1, v2, v3] S h n) ∧
  (∀ (d : Nat) (b a : Int) (l0 l1 l2 l3 : Option mx_V) (v2 v3 v4 : mx_V) (S h : mx_H) (n : Int), mx_ex d 263 591 [l0, l1, l2, l3] [(0, b), (0, a), v2, v3, v4] S h n = mx_ex d 263 592 [l0, l1, l2, l3] [(0, mx_w (a + b)), v2, v3, v4] S h n) ∧
  (∀ (d : Nat) (i a : Int) (l0 l1 l2 l3 : Option mx_V) (v2 v3 : mx_V) (S h : mx_H) (n : Int), mx_ex d 263 592 [l0, l1, l2, l3] [(0, i), (2, a), v2, v3] S h n = mx_gd ((S a (-2) = 20 ∨ S a (-2) = 24) ∧ 0 ≤ i ∧ i < S a (-1)) d 263 593 [l0, l1, l2, l3] [(0, h a i), v2, v3] S h n) ∧
  (∀ (d : Nat) (x0 a : Int) (l0 l1 l2 l3 : Option mx_V) (v2 : mx_V) (S h : mx_H) (n : Int), mx_ex (d + 1) 263 593 [l0, l1, l2, l3] [(0, x0), (2, a), v2] S h n = mx_cl (S a (-2) = 13) d 188 [(2, a), (0, x0)] 263 596 [l0, l1, l2, l3] [v2] S h n) ∧
  (∀ (d : Nat) (b a : Int) (l0 l1 l2 l3 : Option mx_V) (S h : mx_H) (n : Int), mx_ex d 263 596 [l0, l1, l2, l3] [(0, b), (0, a)] S h n = mx_br (a = b) d 263 1653 599 [l0, l1, l2, l3] [] S h n) ∧
  (∀ (d : Nat) (l0 l1 l2 l3 : Option mx_V) (S h : mx_H) (n : Int), mx_ex d 263 599 [l0, l1, l2, l3] [] S h n = mx_ex d 263 600 [l0, l1, l2, l3] [(0, 0)] S h n) ∧
  (∀ (d : Nat) (x : Int) (l0 l1 l2 l3 : Option mx_V) (S h : mx_H) (n : Int), mx_ex d 263 600 [l0, l1, l2, l3] [(0, x)] S h n = mx_re (0 ≤ x ∧ x ≤ 1) (some (0, x)) S h n) ∧
  (∀ (d : Nat) (x : Int) (l0 l2 l3 : Option mx_V) (S h : mx_H) (n : Int), mx_ex d 263 601 [l0, some (2, x), l2, l3] [] S h n = mx_ex d 263 602 [l0, some (2, x), l2, l3] [(2, x)] S h n) ∧
  (∀ (d : Nat) (x : Int) (l1 l2 l3 : Option mx_V) (v0 : mx_V) (S h : mx_H) (n : Int), mx_ex d 263 602 [some (2, x), l1, l2, l3] [v0] S h n = mx_ex d 263 603 [some (2, x), l1, l2, l3] [(2, x), v0] S h n) ∧
  (∀ (d : Nat) (x : Int) (l0 l1 l2 : Option mx_V) (v0 v1 : mx_V) (S h : mx_H) (n : Int), mx_ex d 263 603 [l0, l1, l2, some (0, x)] [v0, v1] S h n = mx_ex d 263 604 [l0, l1, l2, some (0, x)] [(0, x), v0, v1] S h n) ∧
  (∀ (d : Nat) (l0 l1 l2 l3 : Option mx_V) (v0 v1 v2 : mx_V) (S h : mx_H) (n : Int), mx_ex d 263 604 [l0, l1, l2, l3] [v0, v1, v2] S h n = mx_ex d 263 605 [l0, l1, l2, l3] [(0, 1), v0, v1, v2] S h n) ∧
  (∀ (d : Nat) (b a : Int) (l0 l1 l2 l3 : Option mx_V) (v2 v3 : mx_V) (S h : mx_H) (n : Int), mx_ex d 263 605 [l0, l1, l2, l3] [(0, b), (0, a), v2, v3] S h n = mx_ex d 263 606 [l0, l1, l2, l3] [(0, mx_w (a + b)), v2, v3] S h n) ∧
  (∀ (d : Nat) (i a : Int) (l0 l1 l2 l3 : Option mx_V) (v2 : mx_V) (S h : mx_H) (n : Int), mx_ex d 263 606 [l0, l1, l2, l3] [(0, i), (2, a), v2] S h n = mx_gd ((S a (-2) = 20 ∨ S a (-2) = 24) ∧ 0 ≤ i ∧ i < S a (-1)) d 263 607 [l0, l1, l2, l3] [(0, h a i), v2] S h n) ∧
  (∀ (d : Nat) (x : Int) (l1 l2 l3 : Option mx_V) (v0 v1 : mx_V) (S h : mx_H) (n : Int), mx_ex d 263 607 [some (2, x), l1, l2, l3] [v0, v1] S h n = mx_ex d 263 608 [some (2, x), l1, l2, l3] [(2, x), v0, v1] S h n) ∧
  (∀ (d : Nat) (x : Int) (l0 l1 l2 : Option mx_V) (v0 v1 v2 : mx_V) (S h : mx_H) (n : Int), mx_ex d 263 608 [l0, l1, l2, some (0, x)] [v0, v1, v2] S h n = mx_ex d 263 609 [l0, l1, l2, some (0, x)] [(0, x), v0, v1, v2] S h n) ∧
  (∀ (d : Nat) (l0 l1 l2 l3 : Option mx_V) (v0 v1 v2 v3 : mx_V) (S h : mx_H) (n : Int), mx_ex d 263 609 [l0, l1, l2, l3] [v0, v1, v2, v3] S h n = mx_ex d 263 610 [l0, l1, l2, l3] [(0, 2), v0, v1, v2, v3] S h n) ∧
  (∀ (d : Nat) (b a : Int) (l0 l1 l2 l3 : Option mx_V) (v2 v3 v4 : mx_V) (S h : mx_H) (n : Int), mx_ex d 263 610 [l0, l1, l2, l3] [(0, b), (0, a), v2, v3, v4] S h n = mx_ex d 263 611 [l0, l1, l2, l3] [(0, mx_w (a + b)), v2, v3, v4] S h n) ∧
  (∀ (d : Nat) (i a : Int) (l0 l1 l2 l3 : Option mx_V) (v2 v3 : mx_V) (S h : mx_H) (n : Int), mx_ex d 263 611 [l0, l1, l2, l3] [(0, i), (2, a), v2, v3] S h n = mx_gd ((S a (-2) = 20 ∨ S a (-2) = 24) ∧ 0 ≤ i ∧ i < S a (-1)) d 263 612 [l0, l1, l2, l3] [(0, h a i), v2, v3] S h n) ∧
  (∀ (d : Nat) (x : Int) (l1 l2 l3 : Option mx_V) (v0 v1 v2 : mx_V) (S h : mx_H) (n : Int), mx_ex d 263 612 [some (2, x), l1, l2, l3] [v0, v1, v2] S h n = mx_ex d 263 613 [some (2, x), l1, l2, l3] [(2, x), v0, v1, v2] S h n) :=
  ⟨by intros; exact eq_ld rfl rfl,
   by intros; exact eq_push rfl,
   by intros; exact eq_i2 (o := mx_add) rfl,
   by intros; exact eq_iald rfl,
   by intros; exact eq_ld rfl rfl,
   by intros; exact eq_ld rfl rfl,
   by intros; exact eq_push rfl,
   by intros; exact eq_i2 (o := mx_add) rfl,
   by intros; exact eq_iald rfl,
   by intros; exact eq_cv rfl (Nat.le_of_ble_eq_true rfl) rfl rfl rfl (Nat.le_of_ble_eq_true rfl),
   by intros; exact eq_ic0 rfl,
   by intros; exact eq_push rfl,
   by intros; exact eq_rr rfl,
   by intros; exact eq_ld rfl rfl,
   by intros; exact eq_ld rfl rfl,
   by intros; exact eq_ld rfl rfl,
   by intros; exact eq_push rfl,
   by intros; exact eq_i2 (o := mx_add) rfl,
   by intros; exact eq_iald rfl,
   by intros; exact eq_ld rfl rfl,
   by intros; exact eq_ld rfl rfl,
   by intros; exact eq_push rfl,
   by intros; exact eq_i2 (o := mx_add) rfl,
   by intros; exact eq_iald rfl,
   by intros; exact eq_cv rfl (Nat.le_of_ble_eq_true rfl) rfl rfl rfl (Nat.le_of_ble_eq_true rfl),
   by intros; exact eq_ld rfl rfl,
   by intros; exact eq_ld rfl rfl,
   by intros; exact eq_ld rfl rfl,
   by intros; exact eq_push rfl,
   by intros; exact eq_i2 (o := mx_add) rfl,
   by intros; exact eq_iald rfl,
   by intros; exact eq_ld rfl rfl,
   by intros; exact eq_ld rfl rfl,
   by intros; exact eq_push rfl,
   by intros; exact eq_i2 (o := mx_add) rfl,
   by intros; exact eq_iald rfl,
   by intros; exact eq_cv rfl (Nat.le_of_ble_eq_true rfl) rfl rfl rfl (Nat.le_of_ble_eq_true rfl),
   by intros; exact eq_lcmp rfl,
   by intros; exact eq_if0 rfl,
   by intros; exact eq_push rfl,
   by intros; exact eq_rr rfl,
   by intros; exact eq_ld rfl rfl,
   by intros; exact eq_ld rfl rfl,
   by intros; exact eq_ld rfl rfl,
   by intros; exact eq_push rfl,
   by intros; exact eq_i2 (o := mx_add) rfl,
   by intros; exact eq_iald rfl,
   by intros; exact eq_cv rfl (Nat.le_of_ble_eq_true rfl) rfl rfl rfl (Nat.le_of_ble_eq_true rfl),
   by intros; exact eq_ld rfl rfl,
   by intros; exact eq_ld rfl rfl,
   by intros; exact eq_ld rfl rfl,
   by intros; exact eq_push rfl,
   by intros; exact eq_i2 (o := mx_add) rfl,
   by intros; exact eq_iald rfl,
   by intros; exact eq_cv rfl (Nat.le_of_ble_eq_true rfl) rfl rfl rfl (Nat.le_of_ble_eq_true rfl),
   by intros; exact eq_ic0 rfl,
   by intros; exact eq_push rfl,
   by intros; exact eq_rr rfl,
   by intros; exact eq_ld rfl rfl,
   by intros; exact eq_ld rfl rfl,
   by intros; exact eq_ld rfl rfl,
   by intros; exact eq_push rfl,
   by intros; exact eq_i2 (o := mx_add) rfl,
   by intros; exact eq_iald rfl,
   by intros; exact eq_ld rfl rfl,
   by intros; exact eq_ld rfl rfl,
   by intros; exact eq_push rfl,
   by intros; exact eq_i2 (o := mx_add) rfl,
   by intros; exact eq_iald rfl,
   by intros; exact eq_ld rfl rfl⟩
theorem rw_L_law_5 :
  (∀ (d : Nat) (x : Int) (l0 l1 l2 : Option mx_V) (v0 v1 v2 v3 : mx_V) (S h : mx_H) (n : Int), mx_ex d 263 613 [l0, l1, l2, some (0, x)] [v0, v1, v2, v3] S h n = mx_ex d 263 614 [l0, l1, l2, some (0, x)] [(0, x), v0, v1, v2, v3] S h n) ∧
  (∀ (d : Nat) (l0 l1 l2 l3 : Option mx_V) (v0 v1 v2 v3 v4 : mx_V) (S h : mx_H) (n : Int), mx_ex d 263 614 [l0, l1, l2, l3] [v0, v1, v2, v3, v4] S h n = mx_ex d 263 615 [l0, l1, l2, l3] [(0, 3), v0, v1, v2, v3, v4] S h n) ∧
  (∀ (d : Nat) (b a : Int) (l0 l1 l2 l3 : Option mx_V) (v2 v3 v4 v5 : mx_V) (S h : mx_H) (n : Int), mx_ex d 263 615 [l0, l1, l2, l3] [(0, b), (0, a), v2, v3, v4, v5] S h n = mx_ex d 263 616 [l0, l1, l2, l3] [(0, mx_w (a + b)), v2, v3, v4, v5] S h n) ∧
  (∀ (d : Nat) (i a : Int) (l0 l1 l2 l3 : Option mx_V) (v2 v3 v4 : mx_V) (S h : mx_H) (n : Int), mx_ex d 263 616 [l0, l1, l2, l3] [(0, i), (2, a), v2, v3, v4] S h n = mx_gd ((S a (-2) = 20 ∨ S a (-2) = 24) ∧ 0 ≤ i ∧ i < S a (-1)) d 263 617 [l0, l1, l2, l3] [(0, h a i), v2, v3, v4] S h n) ∧
  (∀ (d : Nat) (x : Int) (l1 l2 l3 : Option mx_V) (v0 v1 v2 v3 : mx_V) (S h : mx_H) (n : Int), mx_ex d 263 617 [some (2, x), l1, l2, l3] [v0, v1, v2, v3] S h n = mx_ex d 263 618 [some (2, x), l1, l2, l3] [(2, x), v0, v1, v2, v3] S h n) ∧
  (∀ (d : Nat) (x : Int) (l0 l1 l2 : Option mx_V) (v0 v1 v2 v3 v4 : mx_V) (S h : mx_H) (n : Int), mx_ex d 263 618 [l0, l1, l2, some (0, x)] [v0, v1, v2, v3, v4] S h n = mx_ex d 263 619 [l0, l1, l2, some (0, x)] [(0, x), v0, v1, v2, v3, v4] S h n) ∧
  (∀ (d : Nat) (l0 l1 l2 l3 : Option mx_V) (v0 v1 v2 v3 v4 v5 : mx_V) (S h : mx_H) (n : Int), mx_ex d 263 619 [l0, l1, l2, l3] [v0, v1, v2, v3, v4, v5] S h n = mx_ex d 263 620 [l0, l1, l2, l3] [(0, 4), v0, v1, v2, v3, v4, v5] S h n) ∧
  (∀ (d : Nat) (b a : Int) (l0 l1 l2 l3 : Option mx_V) (v2 v3 v4 v5 v6 : mx_V) (S h : mx_H) (n : Int), mx_ex d 263 620 [l0, l1, l2, l3] [(0, b), (0, a), v2, v3, v4, v5, v6] S h n = mx_ex d 263 621 [l0, l1, l2, l3] [(0, mx_w (a + b)), v2, v3, v4, v5, v6] S h n) ∧
  (∀ (d : Nat) (i a : Int) (l0 l1 l2 l3 : Option mx_V) (v2 v3 v4 v5 : mx_V) (S h : mx_H) (n : Int), mx_ex d 263 621 [l0, l1, l2, l3] [(0, i), (2, a), v2, v3, v4, v5] S h n = mx_gd ((S a (-2) = 20 ∨ S a (-2) = 24) ∧ 0 ≤ i ∧ i < S a (-1)) d 263 622 [l0, l1, l2, l3] [(0, h a i), v2, v3, v4, v5] S h n) ∧
  (∀ (d : Nat) (x0 x1 x2 x3 a : Int) (l0 l1 l2 l3 : Option mx_V) (S h : mx_H) (n : Int), mx_ex (d + 1) 263 622 [l0, l1, l2, l3] [(0, x0), (0, x1), (0, x2), (0, x3), (2, a)] S h n = mx_cl (S a (-2) = 7) d 111 [(2, a), (0, x3), (0, x2), (0, x1), (0, x0)] 263 625 [l0, l1, l2, l3] [] S h n) ∧
  (∀ (d : Nat) (x : Int) (l0 l1 l3 : Option mx_V) (v0 : mx_V) (S h : mx_H) (n : Int), mx_ex d 263 625 [l0, l1, some (2, x), l3] [v0] S h n = mx_ex d 263 626 [l0, l1, some (2, x), l3] [(2, x), v0] S h n) ∧
  (∀ (d : Nat) (x : Int) (l1 l2 l3 : Option mx_V) (v0 v1 : mx_V) (S h : mx_H) (n : Int), mx_ex d 263 626 [some (2, x), l1, l2, l3] [v0, v1] S h n = mx_ex d 263 627 [some (2, x), l1, l2, l3] [(2, x), v0, v1] S h n) ∧
  (∀ (d : Nat) (x : Int) (l0 l1 l2 : Option mx_V) (v0 v1 v2 : mx_V) (S h : mx_H) (n : Int), mx_ex d 263 627 [l0, l1, l2, some (0, x)] [v0, v1, v2] S h n = mx_ex d 263 628 [l0, l1, l2, some (0, x)] [(0, x), v0, v1, v2] S h n) ∧
  (∀ (d : Nat) (l0 l1 l2 l3 : Option mx_V) (v0 v1 v2 v3 : mx_V) (S h : mx_H) (n : Int), mx_ex d 263 628 [l0, l1, l2, l3] [v0, v1, v2, v3] S h n = mx_ex d 263 629 [l0, l1, l2, l3] [(0, 1), v0, v1, v2, v3] S h n) ∧
  (∀ (d : Nat) (b a : Int) (l0 l1 l2 l3 : Option mx_V) (v2 v3 v4 : mx_V) (S h : mx_H) (n : Int), mx_ex d 263 629 [l0, l1, l2, l3] [(0, b), (0, a), v2, v3, v4] S h n = mx_ex d 263 630 [l0, l1, l2, l3] [(0, mx_w (a + b)), v2, v3, v4] S h n) ∧
  (∀ (d : Nat) (i a : Int) (l0 l1 l2 l3 : Option mx_V) (v2 v3 : mx_V) (S h : mx_H) (n : Int), mx_ex d 263 630 [l0, l1, l2, l3] [(0, i), (2, a), v2, v3] S h n = mx_gd ((S a (-2) = 20 ∨ S a (-2) = 24) ∧ 0 ≤ i ∧ i < S a (-1)) d 263 631 [l0, l1, l2, l3] [(0, h a i), v2, v3] S h n) ∧
  (∀ (d : Nat) (x : Int) (l1 l2 l3 : Option mx_V) (v0 v1 v2 : mx_V) (S h : mx_H) (n : Int), mx_ex d 263 631 [some (2, x), l1, l2, l3] [v0, v1, v2] S h n = mx_ex d 263 632 [some (2, x), l1, l2, l3] [(2, x), v0, v1, v2] S h n) ∧
  (∀ (d : Nat) (x : Int) (l0 l1 l2 : Option mx_V) (v0 v1 v2 v3 : mx_V) (S h : mx_H) (n : Int), mx_ex d 263 632 [l0, l1, l2, some (0, x)] [v0, v1, v2, v3] S h n = mx_ex d 263 633 [l0, l1, l2, some (0, x)] [(0, x), v0, v1, v2, v3] S h n) ∧
  (∀ (d : Nat) (l0 l1 l2 l3 : Option mx_V) (v0 v1 v2 v3 v4 : mx_V) (S h : mx_H) (n : Int), mx_ex d 263 633 [l0, l1, l2, l3] [v0, v1, v2, v3, v4] S h n = mx_ex d 263 634 [l0, l1, l2, l3] [(0, 2), v0, v1, v2, v3, v4] S h n) ∧
  (∀ (d : Nat) (b a : Int) (l0 l1 l2 l3 : Option mx_V) (v2 v3 v4 v5 : mx_V) (S h : mx_H) (n : Int), mx_ex d 263 634 [l0, l1, l2, l3] [(0, b), (0, a), v2, v3, v4, v5] S h n = mx_ex d 263 635 [l0, l1, l2, l3] [(0, mx_w (a + b)), v2, v3, v4, v5] S h n) ∧
  (∀ (d : Nat) (i a : Int) (l0 l1 l2 l3 : Option mx_V) (v2 v3 v4 : mx_V) (S h : mx_H) (n : Int), mx_ex d 263 635 [l0, l1, l2, l3] [(0, i), (2, a), v2, v3, v4] S h n = mx_gd ((S a (-2) = 20 ∨ S a (-2) = 24) ∧ 0 ≤ i ∧ i < S a (-1)) d 263 636 [l0, l1, l2, l3] [(0, h a i), v2, v3, v4] S h n) ∧
  (∀ (d : Nat) (x : Int) (l1 l2 l3 : Option mx_V) (v0 v1 v2 v3 : mx_V) (S h : mx_H) (n : Int), mx_ex d 263 636 [some (2, x), l1, l2, l3] [v0, v1, v2, v3] S h n = mx_ex d 263 637 [some (2, x), l1, l2, l3] [(2, x), v0, v1, v2, v3] S h n) ∧
  (∀ (d : Nat) (x : Int) (l0 l1 l2 : Option mx_V) (v0 v1 v2 v3 v4 : mx_V) (S h : mx_H) (n : Int), mx_ex d 263 637 [l0, l1, l2, some (0, x)] [v0, v1, v2, v3, v4] S h n = mx_ex d 263 638 [l0, l1, l2, some (0, x)] [(0, x), v0, v1, v2, v3, v4] S h n) ∧
  (∀ (d : Nat) (l0 l1 l2 l3 : Option mx_V) (v0 v1 v2 v3 v4 v5 : mx_V) (S h : mx_H) (n : Int), mx_ex d 263 638 [l0, l1, l2, l3] [v0, v1, v2, v3, v4, v5] S h n = mx_ex d 263 639 [l0, l1, l2, l3] [(0, 3), v0, v1, v2, v3, v4, v5] S h n) ∧
  (∀ (d : Nat) (b a : Int) (l0 l1 l2 l3 : Option mx_V) (v2 v3 v4 v5 v6 : mx_V) (S h : mx_H) (n : Int), mx_ex d 263 639 [l0, l1, l2, l3] [(0, b), (0, a), v2, v3, v4, v5, v6] S h n = mx_ex d 263 640 [l0, l1, l2, l3] [(0, mx_w (a + b)), v2, v3, v4, v5, v6] S h n) ∧
  (∀ (d : Nat) (i a : Int) (l0 l1 l2 l3 : Option mx_V) (v2 v3 v4 v5 : mx_V) (S h : mx_H) (n : Int), mx_ex d 263 640 [l0, l1, l2, l3] [(0, i), (2, a), v2, v3, v4, v5] S h n = mx_gd ((S a (-2) = 20 ∨ S a (-2) = 24) ∧ 0 ≤ i ∧ i < S a (-1)) d 263 641 [l0, l1, l2, l3] [(0, h a i), v2, v3, v4, v5] S h n) ∧
  (∀ (d : Nat) (x : Int) (l1 l2 l3 : Option mx_V) (v0 v1 v2 v3 v4 : mx_V) (S h : mx_H) (n : Int), mx_ex d 263 641 [some (2, x), l1, l2, l3] [v0, v1, v2, v3, v4] S h n = mx_ex d 263 642 [some (2, x), l1, l2, l3] [(2, x), v0, v1, v2, v3, v4] S h n) ∧
  (∀ (d : Nat) (x : Int) (l0 l1 l2 : Option mx_V) (v0 v1 v2 v3 v4 v5 : mx_V) (S h : mx_H) (n : Int), mx_ex d 263 642 [l0, l1, l2, some (0, x)] [v0, v1, v2, v3, v4, v5] S h n = mx_ex d 263 643 [l0, l1, l2, some (0, x)] [(0, x), v0, v1, v2, v3, v4, v5] S h n) ∧
  (∀ (d : Nat) (l0 l1 l2 l3 : Option mx_V) (v0 v1 v2 v3 v4 v5 v6 : mx_V) (S h : mx_H) (n : Int), mx_ex d 263 643 [l0, l1, l2, l3] [v0, v1, v2, v3, v4, v5, v6] S h n = mx_ex d 263 644 [l0, l1, l2, l3] [(0, 4), v0, v1, v2, v3, v4, v5, v6] S h n) ∧
  (∀ (d : Nat) (b a : Int) (l0 l1 l2 l3 : Option mx_V) (v2 v3 v4 v5 v6 v7 : mx_V) (S h : mx_H) (n : Int), mx_ex d 263 644 [l0, l1, l2, l3] [(0, b), (0, a), v2, v3, v4, v5, v6, v7] S h n = mx_ex d 263 645 [l0, l1, l2, l3] [(0, mx_w (a + b)), v2, v3, v4, v5, v6, v7] S h n) ∧
  (∀ (d : Nat) (i a : Int) (l0 l1 l2 l3 : Option mx_V) (v2 v3 v4 v5 v6 : mx_V) (S h : mx_H) (n : Int), mx_ex d 263 645 [l0, l1, l2, l3] [(0, i), (2, a), v2, v3, v4, v5, v6] S h n = mx_gd ((S a (-2) = 20 ∨ S a (-2) = 24) ∧ 0 ≤ i ∧ i < S a (-1)) d 263 646 [l0, l1, l2, l3] [(0, h a i), v2, v3, v4, v5, v6] S h n) ∧
  (∀ (d : Nat) (x0 x1 x2 x3 a : Int) (l0 l1 l2 l3 : Option mx_V) (v5 : mx_V) (S h : mx_H) (n : Int), mx_ex (d + 1) 263 646 [l0, l1, l2, l3] [(0, x0), (0, x1), (0, x2), (0, x3), (2, a), v5] S h n = mx_cl (S a (-2) = 13) d 190 [(2, a), (0, x3), (0, x2), (0, x1), (0, x0)] 263 649 [l0, l1, l2, l3] [v5] S h n) ∧
  (∀ (d : Nat) (b a : Int) (l0 l1 l2 l3 : Option mx_V) (S h : mx_H) (n : Int), mx_ex d 263 649 [l0, l1, l2, l3] [(0, b), (0, a)] S h n = mx_br (a = b) d 263 1653 652 [l0, l1, l2, l3] [] S h n) ∧
  (∀ (d : Nat) (l0 l1 l2 l3 : Option mx_V) (S h : mx_H) (n : Int), mx_ex d 263 652 [l0, l1, l2, l3] [] S h n = mx_ex d 263 653 [l0, l1, l2, l3] [(0, 0)] S h n) ∧
  (∀ (d : Nat) (x : Int) (l0 l1 l2 l3 : Option mx_V) (S h : mx_H) (n : Int), mx_ex d 263 653 [l0, l1, l2, l3] [(0, x)] S h n = mx_re (0 ≤ x ∧ x ≤ 1) (some (0, x)) S h n) ∧
  (∀ (d : Nat) (x : Int) (l0 l2 l3 : Option mx_V) (S h : mx_H) (n : Int), mx_ex d 263 654 [l0, some (2, x), l2, l3] [] S h n = mx_ex d 263 655 [l0, some (2, x), l2, l3] [(2, x)] S h n) ∧
  (∀ (d : Nat) (x : Int) (l1 l2 l3 : Option mx_V) (v0 : mx_V) (S h : mx_H) (n : Int), mx_ex d 263 655 [some (2, x), l1, l2, l3] [v0] S h n = mx_ex d 263 656 [some (2, x), l1, l2, l3] [(2, x), v0] S h n) ∧
  (∀ (d : Nat) (x : Int) (l0 l1 l2 : Option mx_V) (v0 v1 : mx_V) (S h : mx_H) (n : Int), mx_ex d 263 656 [l0, l1, l2, some (0, x)] [v0, v1] S h n = mx_ex d 263 657 [l0, l1, l2, some (0, x)] [(0, x), v0, v1] S h n) ∧
  (∀ (d : Nat) (l0 l1 l2 l3 : Option mx_V) (v0 v1 v2 : mx_V) (S h : mx_H) (n : Int), mx_ex d 263 657 [l0, l1, l2, l3] [v0, v1, v2] S h n = mx_ex d 263 658 [l0, l1, l2, l3] [(0, 1), v0, v1, v2] S h n) ∧
  (∀ (d : Nat) (b a : Int) (l0 l1 l2 l3 : Option mx_V) (v2 v3 : mx_V) (S h : mx_H) (n : Int), mx_ex d 263 658 [l0, l1, l2, l3] [(0, b), (0, a), v2, v3] S h n = mx_ex d 263 659 [l0, l1, l2, l3] [(0, mx_w (a + b)), v2, v3] S h n) ∧
  (∀ (d : Nat) (i a : Int) (l0 l1 l2 l3 : Option mx_V) (v2 : mx_V) (S h : mx_H) (n : Int), mx_ex d 263 659 [l0, l1, l2, l3] [(0, i), (2, a), v2] S h n = mx_gd ((S a (-2) = 20 ∨ S a (-2) = 24) ∧ 0 ≤ i ∧ i < S a (-1)) d 263 660 [l0, l1, l2, l3] [(0, h a i), v2] S h n) ∧
  (∀ (d : Nat) (x : Int) (l1 l2 l3 : Option mx_V) (v0 v1 : mx_V) (S h : mx_H) (n : Int), mx_ex d 263 660 [some (2, x), l1, l2, l3] [v0, v1] S h n = mx_ex d 263 661 [some (2, x), l1, l2, l3] [(2, x), v0, v1] S h n) ∧
  (∀ (d : Nat) (x : Int) (l0 l1 l2 : Option mx_V) (v0 v1 v2 : mx_V) (S h : mx_H) (n : Int), mx_ex d 263 661 [l0, l1, l2, some (0, x)] [v0, v1, v2] S h n = mx_ex d 263 662 [l0, l1, l2, some (0, x)] [(0, x), v0, v1, v2] S h n) ∧
  (∀ (d : Nat) (l0 l1 l2 l3 : Option mx_V) (v0 v1 v2 v3 : mx_V) (S h : mx_H) (n : Int), mx_ex d 263 662 [l0, l1, l2, l3] [v0, v1, v2, v3] S h n = mx_ex d 263 663 [l0, l1, l2, l3] [(0, 2), v0, v1, v2, v3] S h n) ∧
  (∀ (d : Nat) (b a : Int) (l0 l1 l2 l3 : Option mx_V) (v2 v3 v4 : mx_V) (S h : mx_H) (n : Int), mx_ex d 263 663 [l0, l1, l2, l3] [(0, b), (0, a), v2, v3, v4] S h n = mx_ex d 263 664 [l0, l1, l2, l3] [(0, mx_w (a + b)), v2, v3, v4] S h n) ∧
  (∀ (d : Nat) (i a : Int) (l0 l1 l2 l3 : Option mx_V) (v2 v3 : mx_V) (S h : mx_H) (n : Int), mx_ex d 263 664 [l0, l1, l2, l3] [(0, i), (2, a), v2, v3] S h n = mx_gd ((S a (-2) = 20 ∨ S a (-2) = 24) ∧ 0 ≤ i ∧ i < S a (-1)) d 263 665 [l0, l1, l2, l3] [(0, h a i), v2, v3] S h n) ∧
  (∀ (d : Nat) (x0 x1 a : Int) (l0 l1 l2 l3 : Option mx_V) (S h : mx_H) (n : Int), mx_ex (d + 1) 263 665 [l0, l1, l2, l3] [(0, x0), (0, x1), (2, a)] S h n = mx_cl (S a (-2) = 7) d 112 [(2, a), (0, x1), (0, x0)] 263 668 [l0, l1, l2, l3] [] S h n) ∧
  (∀ (d : Nat) (x : Int) (l0 l1 l3 : Option mx_V) (v0 : mx_V) (S h : mx_H) (n : Int), mx_ex d 263 668 [l0, l1, some (2, x), l3] [v0] S h n = mx_ex d 263 669 [l0, l1, some (2, x), l3] [(2, x), v0] S h n) ∧
  (∀ (d : Nat) (x : Int) (l1 l2 l3 : Option mx_V) (v0 v1 : mx_V) (S h : mx_H) (n : Int), mx_ex d 263 669 [some (2, x), l1, l2, l3] [v0, v1] S h n = mx_ex d 263 670 [some (2, x), l1, l2, l3] [(2, x), v0, v1] S h n) ∧
  (∀ (d : Nat) (x : Int) (l0 l1 l2 : Option mx_V) (v0 v1 v2 : mx_V) (S h : mx_H) (n : Int), mx_ex d 263 670 [l0, l1, l2, some (0, x)] [v0, v1, v2] S h n = mx_ex d 263 671 [l0, l1, l2, some (0, x)] [(0, x), v0, v1, v2] S h n) ∧
  (∀ (d : Nat) (l0 l1 l2 l3 : Option mx_V) (v0 v1 v2 v3 : mx_V) (S h : mx_H) (n : Int), mx_ex d 263 671 [l0, l1, l2, l3] [v0, v1, v2, v3] S h n = mx_ex d 263 672 [l0, l1, l2, l3] [(0, 1), v0, v1, v2, v3] S h n) ∧
  (∀ (d : Nat) (b a : Int) (l0 l1 l2 l3 : Option mx_V) (v2 v3 v4 : mx_V) (S h : mx_H) (n : Int), mx_ex d 263 672 [l0, l1, l2, l3] [(0, b), (0, a), v2, v3, v4] S h n = mx_ex d 263 673 [l0, l1, l2, l3] [(0, mx_w (a + b)), v2, v3, v4] S h n) ∧
  (∀ (d : Nat) (i a : Int) (l0 l1 l2 l3 : Option mx_V) (v2 v3 : mx_V) (S h : mx_H) (n : Int), mx_ex d 263 673 [l0, l1, l2, l3] [(0, i), (2, a), v2, v3] S h n = mx_gd ((S a (-2) = 20 ∨ S a (-2) = 24) ∧ 0 ≤ i ∧ i < S a (-1)) d 263 674 [l0, l1, l2, l3] [(0, h a i), v2, v3] S h n) ∧
  (∀ (d : Nat) (x : Int) (l1 l2 l3 : Option mx_V) (v0 v1 v2 : mx_V) (S h : mx_H) (n : Int), mx_ex d 263 674 [some (2, x), l1, l2, l3] [v0, v1, v2] S h n = mx_ex d 263 675 [some (2, x), l1, l2, l3] [(2, x), v0, v1, v2] S h n) ∧
  (∀ (d : Nat) (x : Int) (l0 l1 l2 : Option mx_V) (v0 v1 v2 v3 : mx_V) (S h : mx_H) (n : Int), mx_ex d 263 675 [l0, l1, l2, some (0, x)] [v0, v1, v2, v3] S h n = mx_ex d 263 676 [l0, l1, l2, some (0, x)] [(0, x), v0, v1, v2, v3] S h n) ∧
  (∀ (d : Nat) (l0 l1 l2 l3 : Option mx_V) (v0 v1 v2 v3 v4 : mx_V) (S h : mx_H) (n : Int), mx_ex d 263 676 [l0, l1, l2, l3] [v0, v1, v2, v3, v4] S h n = mx_ex d 263 677 [l0, l1, l2, l3] [(0, 2), v0, v1, v2, v3, v4] S h n) ∧
  (∀ (d : Nat) (b a : Int) (l0 l1 l2 l3 : Option mx_V) (v2 v3 v4 v5 : mx_V) (S h : mx_H) (n : Int), mx_ex d 263 677 [l0, l1, l2, l3] [(0, b), (0, a), v2, v3, v4, v5] S h n = mx_ex d 263 678 [l0, l1, l2, l3] [(0, mx_w (a + b)), v2, v3, v4, v5] S h n) ∧
  (∀ (d : Nat) (i a : Int) (l0 l1 l2 l3 : Option mx_V) (v2 v3 v4 : mx_V) (S h : mx_H) (n : Int), mx_ex d 263 678 [l0, l1, l2, l3] [(0, i), (2, a), v2, v3, v4] S h n = mx_gd ((S a (-2) = 20 ∨ S a (-2) = 24) ∧ 0 ≤ i ∧ i < S a (-1)) d 263 679 [l0, l1, l2, l3] [(0, h a i), v2, v3, v4] S h n) ∧
  (∀ (d : Nat) (x0 x1 a : Int) (l0 l1 l2 l3 : Option mx_V) (v3 : mx_V) (S h : mx_H) (n : Int), mx_ex (d + 1) 263 679 [l0, l1, l2, l3] [(0, x0), (0, x1), (2, a), v3] S h n = mx_cl (S a (-2) = 13) d 191 [(2, a), (0, x1), (0, x0)] 263 682 [l0, l1, l2, l3] [v3] S h n) ∧
  (∀ (d : Nat) (b a : Int) (l0 l1 l2 l3 : Option mx_V) (S h : mx_H) (n : Int), mx_ex d 263 682 [l0, l1, l2, l3] [(0, b), (0, a)] S h n = mx_br (a = b) d 263 1653 685 [l0, l1, l2, l3] [] S h n) ∧
  (∀ (d : Nat) (l0 l1 l2 l3 : Option mx_V) (S h : mx_H) (n : Int), mx_ex d 263 685 [l0, l1, l2, l3] [] S h n = mx_ex d 263 686 [l0, l1, l2, l3] [(0, 0)] S h n) ∧
  (∀ (d : Nat) (x : Int) (l0 l1 l2 l3 : Option mx_V) (S h : mx_H) (n : Int), mx_ex d 263 686 [l0, l1, l2, l3] [(0, x)] S h n = mx_re (0 ≤ x ∧ x ≤ 1) (some (0, x)) S h n) ∧
  (∀ (d : Nat) (x : Int) (l0 l2 l3 : Option mx_V) (S h : mx_H) (n : Int), mx_ex d 263 687 [l0, some (2, x), l2, l3] [] S h n = mx_ex d 263 688 [l0, some (2, x), l2, l3] [(2, x)] S h n) ∧
  (∀ (d : Nat) (x : Int) (l1 l2 l3 : Option mx_V) (v0 : mx_V) (S h : mx_H) (n : Int), mx_ex d 263 688 [some (2, x), l1, l2, l3] [v0] S h n = mx_ex d 263 689 [some (2, x), l1, l2, l3] [(2, x), v0] S h n) ∧
  (∀ (d : Nat) (x : Int) (l0 l1 l2 : Option mx_V) (v0 v1 : mx_V) (S h : mx_H) (n : Int), mx_ex d 263 689 [l0, l1, l2, some (0, x)] [v0, v1] S h n = mx_ex d 263 690 [l0, l1, l2, some (0, x)] [(0, x), v0, v1] S h n) ∧
  (∀ (d : Nat) (l0 l1 l2 l3 : Option mx_V) (v0 v1 v2 : mx_V) (S h : mx_H) (n : Int), mx_ex d 263 690 [l0, l1, l2, l3] [v0, v1, v2] S h n = mx_ex d 263 691 [l0, l1, l2, l3] [(0, 1), v0, v1, v2] S h n) ∧
  (∀ (d : Nat) (b a : Int) (l0 l1 l2 l3 : Option mx_V) (v2 v3 : mx_V) (S h : mx_H) (n : Int), mx_ex d 263 691 [l0, l1, l2, l3] [(0, b), (0, a), v2, v3] S h n = mx_ex d 263 692 [l0, l1, l2, l3] [(0, mx_w (a + b)), v2, v3] S h n) ∧
  (∀ (d : Nat) (i a : Int) (l0 l1 l2 l3 : Option mx_V) (v2 : mx_V) (S h : mx_H) (n : Int), mx_ex d 263 692 [l0, l1, l2, l3] [(0, i), (2, a), v2] S h n = mx_gd ((S a (-2) = 20 ∨ S a (-2) = 24) ∧ 0 ≤ i ∧ i < S a (-1)) d 263 693 [l0, l1, l2, l3] [(0, h a i), v2] S h n) ∧
  (∀ (d : Nat) (x0 a : Int) (l0 l1 l2 l3 : Option mx_V) (S h : mx_H) (n : Int), mx_ex (d + 1) 263 693 [l0, l1, l2, l3] [(0, x0), (2, a)] S h n = mx_cl (S a (-2) = 7) d 113 [(2, a), (0, x0)] 263 696 [l0, l1, l2, l3] [] S h n) ∧
  (∀ (d : Nat) (x : Int) (l0 l1 l3 : Option mx_V) (v0 : mx_V) (S h : mx_H) (n : Int), mx_ex d 263 696 [l0, l1, some (2, x), l3] [v0] S h n = mx_ex d 263 697 [l0, l1, some (2, x), l3] [(2, x), v0] S h n) :=
  ⟨by intros; exact eq_ld rfl rfl,
   by intros; exact eq_push rfl,
   by intros; exact eq_i2 (o := mx_add) rfl,
   by intros; exact eq_iald rfl,
   by intros; exact eq_ld rfl rfl,
   by intros; exact eq_ld rfl rfl,
   by intros; exact eq_push rfl,
   by intros; exact eq_i2 (o := mx_add) rfl,
   by intros; exact eq_iald rfl,
   by intros; exact eq_cv rfl (Nat.le_of_ble_eq_true rfl) rfl rfl rfl (Nat.le_of_ble_eq_true rfl),
   by intros; exact eq_ld rfl rfl,
   by intros; exact eq_ld rfl rfl,
   by intros; exact eq_ld rfl rfl,
   by intros; exact eq_push rfl,
   by intros; exact eq_i2 (o := mx_add) rfl,
   by intros; exact eq_iald rfl,
   by intros; exact eq_ld rfl rfl,
   by intros; exact eq_ld rfl rfl,
   by intros; exact eq_push rfl,
   by intros; exact eq_i2 (o := mx_add) rfl,
   by intros; exact eq_iald rfl,
   by intros; exact eq_ld rfl rfl,
   by intros; exact eq_ld rfl rfl,
   by intros; exact eq_push rfl,
   by intros; exact eq_i2 (o := mx_add) rfl,
   by intros; exact eq_iald rfl,
   by intros; exact eq_ld rfl rfl,
   by intros; exact eq_ld rfl rfl,
   by intros; exact eq_push rfl,
   by intros; exact eq_i2 (o := mx_add) rfl,
   by intros; exact eq_iald rfl,
   by intros; exact eq_cv rfl (Nat.le_of_ble_eq_true rfl) rfl rfl rfl (Nat.le_of_ble_eq_true rfl),
   by intros; exact eq_ic0 rfl,
   by intros; exact eq_push rfl,
   by intros; exact eq_rr rfl,
   by intros; exact eq_ld rfl rfl,
   by intros; exact eq_ld rfl rfl,
   by intros; exact eq_ld rfl rfl,
   by intros; exact eq_push rfl,
   by intros; exact eq_i2 (o := mx_add) rfl,
   by intros; exact eq_iald rfl,
   by intros; exact eq_ld rfl rfl,
   by intros; exact eq_ld rfl rfl,
   by intros; exact eq_push rfl,
   by intros; exact eq_i2 (o := mx_add) rfl,
   by intros; exact eq_iald rfl,
   by intros; exact eq_cv rfl (Nat.le_of_ble_eq_true rfl) rfl rfl rfl (Nat.le_of_ble_eq_true rfl),
   by intros; exact eq_ld rfl rfl,
   by intros; exact eq_ld rfl rfl,
   by intros; exact eq_ld rfl rfl,
   by intros; exact eq_push rfl,
   by intros; exact eq_i2 (o := mx_add) rfl,
   by intros; exact eq_iald rfl,
   by intros; exact eq_ld rfl rfl,
   by intros; exact eq_ld rfl rfl,
   by intros; exact eq_push rfl,
   by intros; exact eq_i2 (o := mx_add) rfl,
   by intros; exact eq_iald rfl,
   by intros; exact eq_cv rfl (Nat.le_of_ble_eq_true rfl) rfl rfl rfl (Nat.le_of_ble_eq_true rfl),
   by intros; exact eq_ic0 rfl,
   by intros; exact eq_push rfl,
   by intros; exact eq_rr rfl,
   by intros; exact eq_ld rfl rfl,
   by intros; exact eq_ld rfl rfl,
   by intros; exact eq_ld rfl rfl,
   by intros; exact eq_push rfl,
   by intros; exact eq_i2 (o := mx_add) rfl,
   by intros; exact eq_iald rfl,
   by intros; exact eq_cv rfl (Nat.le_of_ble_eq_true rfl) rfl rfl rfl (Nat.le_of_ble_eq_true rfl),
   by intros; exact eq_ld rfl rfl⟩
theorem rw_L_law_6 :
  (∀ (d : Nat) (x : Int) (l1 l2 l3 : Option mx_V) (v0 v1 : mx_V) (S h : mx_H) (n : Int), mx_ex d 263 697 [some (2, x), l1, l2, l3] [v0, v1] S h n = mx_ex d 263 698 [some (2, x), l1, l2, l3] [(2, x), v0, v1] S h n) ∧
  (∀ (d : Nat) (x : Int) (l0 l1 l2 : Option mx_V) (v0 v1 v2 : mx_V) (S h : mx_H) (n : Int), mx_ex d 263 698 [l0, l1, l2, some (0, x)] [v0, v1, v2] S h n = mx_ex d 263 699 [l0, l1, l2, some (0, x)] [(0, x), v0, v1, v2] S h n) ∧
  (∀ (d : Nat) (l0 l1 l2 l3 : Option mx_V) (v0 v1 v2 v3 : mx_V) (S h : mx_H) (n : Int), mx_ex d 263 699 [l0, l1, l2, l3] [v0, v1, v2, v3] S h n = mx_ex d 263 700 [l0, l1, l2, l3] [(0, 1), v0, v1, v2, v3] S h n) ∧
  (∀ (d : Nat) (b a : Int) (l0 l1 l2 l3 : Option mx_V) (v2 v3 v4 : mx_V) (S h : mx_H) (n : Int), mx_ex d 263 700 [l0, l1, l2, l3] [(0, b), (0, a), v2, v3, v4] S h n = mx_ex d 263 701 [l0, l1, l2, l3] [(0, mx_w (a + b)), v2, v3, v4] S h n) ∧
  (∀ (d : Nat) (i a : Int) (l0 l1 l2 l3 : Option mx_V) (v2 v3 : mx_V) (S h : mx_H) (n : Int), mx_ex d 263 701 [l0, l1, l2, l3] [(0, i), (2, a), v2, v3] S h n = mx_gd ((S a (-2) = 20 ∨ S a (-2) = 24) ∧ 0 ≤ i ∧ i < S a (-1)) d 263 702 [l0, l1, l2, l3] [(0, h a i), v2, v3] S h n) ∧
  (∀ (d : Nat) (x0 a : Int) (l0 l1 l2 l3 : Option mx_V) (v2 : mx_V) (S h : mx_H) (n : Int), mx_ex (d + 1) 263 702 [l0, l1, l2, l3] [(0, x0), (2, a), v2] S h n = mx_cl (S a (-2) = 13) d 192 [(2, a), (0, x0)] 263 705 [l0, l1, l2, l3] [v2] S h n) ∧
  (∀ (d : Nat) (b a : Int) (l0 l1 l2 l3 : Option mx_V) (S h : mx_H) (n : Int), mx_ex d 263 705 [l0, l1, l2, l3] [(0, b), (0, a)] S h n = mx_br (a = b) d 263 1653 708 [l0, l1, l2, l3] [] S h n) ∧
  (∀ (d : Nat) (l0 l1 l2 l3 : Option mx_V) (S h : mx_H) (n : Int), mx_ex d 263 708 [l0, l1, l2, l3] [] S h n = mx_ex d 263 709 [l0, l1, l2, l3] [(0, 0)] S h n) ∧
  (∀ (d : Nat) (x : Int) (l0 l1 l2 l3 : Option mx_V) (S h : mx_H) (n : Int), mx_ex d 263 709 [l0, l1, l2, l3] [(0, x)] S h n = mx_re (0 ≤ x ∧ x ≤ 1) (some (0, x)) S h n) ∧
  (∀ (d : Nat) (x : Int) (l0 l2 l3 : Option mx_V) (S h : mx_H) (n : Int), mx_ex d 263 710 [l0, some (2, x), l2, l3] [] S h n = mx_ex d 263 711 [l0, some (2, x), l2, l3] [(2, x)] S h n) ∧
  (∀ (d : Nat) (a : Int) (l0 l1 l2 l3 : Option mx_V) (S h : mx_H) (n : Int), mx_ex (d + 1) 263 711 [l0, l1, l2, l3] [(2, a)] S h n = mx_cl (S a (-2) = 7) d 114 [(2, a)] 263 714 [l0, l1, l2, l3] [] S h n) ∧
  (∀ (d : Nat) (x : Int) (l0 l1 l3 : Option mx_V) (v0 : mx_V) (S h : mx_H) (n : Int), mx_ex d 263 714 [l0, l1, some (2, x), l3] [v0] S h n = mx_ex d 263 715 [l0, l1, some (2, x), l3] [(2, x), v0] S h n) ∧
  (∀ (d : Nat) (a : Int) (l0 l1 l2 l3 : Option mx_V) (v1 : mx_V) (S h : mx_H) (n : Int), mx_ex (d + 1) 263 715 [l0, l1, l2, l3] [(2, a), v1] S h n = mx_cl (S a (-2) = 13) d 198 [(2, a)] 263 718 [l0, l1, l2, l3] [v1] S h n) ∧
  (∀ (d : Nat) (b a : Int) (l0 l1 l2 l3 : Option mx_V) (S h : mx_H) (n : Int), mx_ex d 263 718 [l0, l1, l2, l3] [(0, b), (0, a)] S h n = mx_br (a = b) d 263 1653 721 [l0, l1, l2, l3] [] S h n) ∧
  (∀ (d : Nat) (l0 l1 l2 l3 : Option mx_V) (S h : mx_H) (n : Int), mx_ex d 263 721 [l0, l1, l2, l3] [] S h n = mx_ex d 263 722 [l0, l1, l2, l3] [(0, 0)] S h n) ∧
  (∀ (d : Nat) (x : Int) (l0 l1 l2 l3 : Option mx_V) (S h : mx_H) (n : Int), mx_ex d 263 722 [l0, l1, l2, l3] [(0, x)] S h n = mx_re (0 ≤ x ∧ x ≤ 1) (some (0, x)) S h n) ∧
  (∀ (d : Nat) (x : Int) (l0 l2 l3 : Option mx_V) (S h : mx_H) (n : Int), mx_ex d 263 723 [l0, some (2, x), l2, l3] [] S h n = mx_ex d 263 724 [l0, some (2, x), l2, l3] [(2, x)] S h n) ∧
  (∀ (d : Nat) (x : Int) (l1 l2 l3 : Option mx_V) (v0 : mx_V) (S h : mx_H) (n : Int), mx_ex d 263 724 [some (2, x), l1, l2, l3] [v0] S h n = mx_ex d 263 725 [some (2, x), l1, l2, l3] [(2, x), v0] S h n) ∧
  (∀ (d : Nat) (x : Int) (l0 l1 l2 : Option mx_V) (v0 v1 : mx_V) (S h : mx_H) (n : Int), mx_ex d 263 725 [l0, l1, l2, some (0, x)] [v0, v1] S h n = mx_ex d 263 726 [l0, l1, l2, some (0, x)] [(0, x), v0, v1] S h n) ∧
  (∀ (d : Nat) (l0 l1 l2 l3 : Option mx_V) (v0 v1 v2 : mx_V) (S h : mx_H) (n : Int), mx_ex d 263 726 [l0, l1, l2, l3] [v0, v1, v2] S h n = mx_ex d 263 727 [l0, l1, l2, l3] [(0, 1), v0, v1, v2] S h n) ∧
  (∀ (d : Nat) (b a : Int) (l0 l1 l2 l3 : Option mx_V) (v2 v3 : mx_V) (S h : mx_H) (n : Int), mx_ex d 263 727 [l0, l1, l2, l3] [(0, b), (0, a), v2, v3] S h n = mx_ex d 263 728 [l0, l1, l2, l3] [(0, mx_w (a + b)), v2, v3] S h n) ∧
  (∀ (d : Nat) (i a : Int) (l0 l1 l2 l3 : Option mx_V) (v2 : mx_V) (S h : mx_H) (n : Int), mx_ex d 263 728 [l0, l1, l2, l3] [(0, i), (2, a), v2] S h n = mx_gd ((S a (-2) = 20 ∨ S a (-2) = 24) ∧ 0 ≤ i ∧ i < S a (-1)) d 263 729 [l0, l1, l2, l3] [(0, h a i), v2] S h n) ∧
  (∀ (d : Nat) (x : Int) (l1 l2 l3 : Option mx_V) (v0 v1 : mx_V) (S h : mx_H) (n : Int), mx_ex d 263 729 [some (2, x), l1, l2, l3] [v0, v1] S h n = mx_ex d 263 730 [some (2, x), l1, l2, l3] [(2, x), v0, v1] S h n) ∧
  (∀ (d : Nat) (x : Int) (l0 l1 l2 : Option mx_V) (v0 v1 v2 : mx_V) (S h : mx_H) (n : Int), mx_ex d 263 730 [l0, l1, l2, some (0, x)] [v0, v1, v2] S h n = mx_ex d 263 731 [l0, l1, l2, some (0, x)] [(0, x), v0, v1, v2] S h n) ∧
  (∀ (d : Nat) (l0 l1 l2 l3 : Option mx_V) (v0 v1 v2 v3 : mx_V) (S h : mx_H) (n : Int), mx_ex d 263 731 [l0, l1, l2, l3] [v0, v1, v2, v3] S h n = mx_ex d 263 732 [l0, l1, l2, l3] [(0, 2), v0, v1, v2, v3] S h n) ∧
  (∀ (d : Nat) (b a : Int) (l0 l1 l2 l3 : Option mx_V) (v2 v3 v4 : mx_V) (S h : mx_H) (n : Int), mx_ex d 263 732 [l0, l1, l2, l3] [(0, b), (0, a), v2, v3, v4] S h n = mx_ex d 263 733 [l0, l1, l2, l3] [(0, mx_w (a + b)), v2, v3, v4] S h n) ∧
  (∀ (d : Nat) (i a : Int) (l0 l1 l2 l3 : Option mx_V) (v2 v3 : mx_V) (S h : mx_H) (n : Int), mx_ex d 263 733 [l0, l1, l2, l3] [(0, i), (2, a), v2, v3] S h n = mx_gd ((S a (-2) = 20 ∨ S a (-2) = 24) ∧ 0 ≤ i ∧ i < S a (-1)) d 263 734 [l0, l1, l2, l3] [(0, h a i), v2, v3] S h n) ∧
  (∀ (d : Nat) (x0 x1 a : Int) (l0 l1 l2 l3 : Option mx_V) (S h : mx_H) (n : Int), mx_ex (d + 1) 263 734 [l0, l1, l2, l3] [(0, x0), (0, x1), (2, a)] S h n = mx_cl (S a (-2) = 7) d 115 [(2, a), (0, x1), (0, x0)] 263 737 [l0, l1, l2, l3] [] S h n) ∧
  (∀ (d : Nat) (x : Int) (l0 l1 l3 : Option mx_V) (v0 : mx_V) (S h : mx_H) (n : Int), mx_ex d 263 737 [l0, l1, some (2, x), l3] [v0] S h n = mx_ex d 263 738 [l0, l1, some (2, x), l3] [(2, x), v0] S h n) ∧
  (∀ (d : Nat) (x : Int) (l1 l2 l3 : Option mx_V) (v0 v1 : mx_V) (S h : mx_H) (n : Int), mx_ex d 263 738 [some (2, x), l1, l2, l3] [v0, v1] S h n = mx_ex d 263 739 [some (2, x), l1, l2, l3] [(2, x), v0, v1] S h n) ∧
  (∀ (d : Nat) (x : Int) (l0 l1 l2 : Option mx_V) (v0 v1 v2 : mx_V) (S h : mx_H) (n : Int), mx_ex d 263 739 [l0, l1, l2, some (0, x)] [v0, v1, v2] S h n = mx_ex d 263 740 [l0, l1, l2, some (0, x)] [(0, x), v0, v1, v2] S h n) ∧
  (∀ (d : Nat) (l0 l1 l2 l3 : Option mx_V) (v0 v1 v2 v3 : mx_V) (S h : mx_H) (n : Int), mx_ex d 263 740 [l0, l1, l2, l3] [v0, v1, v2, v3] S h n = mx_ex d 263 741 [l0, l1, l2, l3] [(0, 1), v0, v1, v2, v3] S h n) ∧
  (∀ (d : Nat) (b a : Int) (l0 l1 l2 l3 : Option mx_V) (v2 v3 v4 : mx_V) (S h : mx_H) (n : Int), mx_ex d 263 741 [l0, l1, l2, l3] [(0, b), (0, a), v2, v3, v4] S h n = mx_ex d 263 742 [l0, l1, l2, l3] [(0, mx_w (a + b)), v2, v3, v4] S h n) ∧
  (∀ (d : Nat) (i a : Int) (l0 l1 l2 l3 : Option mx_V) (v2 v3 : mx_V) (S h : mx_H) (n : Int), mx_ex d 263 742 [l0, l1, l2, l3] [(0, i), (2, a), v2, v3] S h n = mx_gd ((S a (-2) = 20 ∨ S a (-2) = 24) ∧ 0 ≤ i ∧ i < S a (-1)) d 263 743 [l0, l1, l2, l3] [(0, h a i), v2, v3] S h n) ∧
  (∀ (d : Nat) (x : Int) (l1 l2 l3 : Option mx_V) (v0 v1 v2 : mx_V) (S h : mx_H) (n : Int), mx_ex d 263 743 [some (2, x), l1, l2, l3] [v0, v1, v2] S h n = mx_ex d 263 744 [some (2, x), l1, l2, l3] [(2, x), v0, v1, v2] S h n) ∧
  (∀ (d : Nat) (x : Int) (l0 l1 l2 : Option mx_V) (v0 v1 v2 v3 : mx_V) (S h : mx_H) (n : Int), mx_ex d 263 744 [l0, l1, l2, some (0, x)] [v0, v1, v2, v3] S h n = mx_ex d 263 745 [l0, l1, l2, some (0, x)] [(0, x), v0, v1, v2, v3] S h n) ∧
  (∀ (d : Nat) (l0 l1 l2 l3 : Option mx_V) (v0 v1 v2 v3 v4 : mx_V) (S h : mx_H) (n : Int), mx_ex d 263 745 [l0, l1, l2, l3] [v0, v1, v2, v3, v4] S h n = mx_ex d 263 746 [l0, l1, l2, l3] [(0, 2), v0, v1, v2, v3, v4] S h n) ∧
  (∀ (d : Nat) (b a : Int) (l0 l1 l2 l3 : Option mx_V) (v2 v3 v4 v5 : mx_V) (S h : mx_H) (n : Int), mx_ex d 263 746 [l0, l1, l2, l3] [(0, b), (0, a), v2, v3, v4, v5] S h n = mx_ex d 263 747 [l0, l1, l2, l3] [(0, mx_w (a + b)), v2, v3, v4, v5] S h n) ∧
  (∀ (d : Nat) (i a : Int) (l0 l1 l2 l3 : Option mx_V) (v2 v3 v4 : mx_V) (S h : mx_H) (n : Int), mx_ex d 263 747 [l0, l1, l2, l3] [(0, i), (2, a), v2, v3, v4] S h n = mx_gd ((S a (-2) = 20 ∨ S a (-2) = 24) ∧ 0 ≤ i ∧ i < S a (-1)) d 263 748 [l0, l1, l2, l3] [(0, h a i), v2, v3, v4] S h n) ∧
  (∀ (d : Nat) (x0 x1 a : Int) (l0 l1 l2 l3 : Option mx_V) (v3 : mx_V) (S h : mx_H) (n : Int), mx_ex (d + 1) 263 748 [l0, l1, l2, l3] [(0, x0), (0, x1), (2, a), v3] S h n = mx_cl (S a (-2) = 13) d 201 [(2, a), (0, x1), (0, x0)] 263 751 [l0, l1, l2, l3] [v3] S h n) ∧
  (∀ (d : Nat) (b a : Int) (l0 l1 l2 l3 : Option mx_V) (S h : mx_H) (n : Int), mx_ex d 263 751 [l0, l1, l2, l3] [(0, b), (0, a)] S h n = mx_br (a = b) d 263 1653 754 [l0, l1, l2, l3] [] S h n) ∧
  (∀ (d : Nat) (l0 l1 l2 l3 : Option mx_V) (S h : mx_H) (n : Int), mx_ex d 263 754 [l0, l1, l2, l3] [] S h n = mx_ex d 263 755 [l0, l1, l2, l3] [(0, 0)] S h n) ∧
  (∀ (d : Nat) (x : Int) (l0 l1 l2 l3 : Option mx_V) (S h : mx_H) (n : Int), mx_ex d 263 755 [l0, l1, l2, l3] [(0, x)] S h n = mx_re (0 ≤ x ∧ x ≤ 1) (some (0, x)) S h n) ∧
  (∀ (d : Nat) (x : Int) (l0 l2 l3 : Option mx_V) (S h : mx_H) (n : Int), mx_ex d 263 756 [l0, some (2, x), l2, l3] [] S h n = mx_ex d 263 757 [l0, some (2, x), l2, l3] [(2, x)] S h n) ∧
  (∀ (d : Nat) (x : Int) (l1 l2 l3 : Option mx_V) (v0 : mx_V) (S h : mx_H) (n : Int), mx_ex d 263 757 [some (2, x), l1, l2, l3] [v0] S h n = mx_ex d 263 758 [some (2, x), l1, l2, l3] [(2, x), v0] S h n) ∧
  (∀ (d : Nat) (x : Int) (l0 l1 l2 : Option mx_V) (v0 v1 : mx_V) (S h : mx_H) (n : Int), mx_ex d 263 758 [l0, l1, l2, some (0, x)] [v0, v1] S h n = mx_ex d 263 759 [l0, l1, l2, some (0, x)] [(0, x), v0, v1] S h n) ∧
  (∀ (d : Nat) (l0 l1 l2 l3 : Option mx_V) (v0 v1 v2 : mx_V) (S h : mx_H) (n : Int), mx_ex d 263 759 [l0, l1, l2, l3] [v0, v1, v2] S h n = mx_ex d 263 760 [l0, l1, l2, l3] [(0, 1), v0, v1, v2] S h n) ∧
  (∀ (d : Nat) (b a : Int) (l0 l1 l2 l3 : Option mx_V) (v2 v3 : mx_V) (S h : mx_H) (n : Int), mx_ex d 263 760 [l0, l1, l2, l3] [(0, b), (0, a), v2, v3] S h n = mx_ex d 263 761 [l0, l1, l2, l3] [(0, mx_w (a + b)), v2, v3] S h n) ∧
  (∀ (d : Nat) (i a : Int) (l0 l1 l2 l3 : Option mx_V) (v2 : mx_V) (S h : mx_H) (n : Int), mx_ex d 263 761 [l0, l1, l2, l3] [(0, i), (2, a), v2] S h n = mx_gd ((S a (-2) = 20 ∨ S a (-2) = 24) ∧ 0 ≤ i ∧ i < S a (-1)) d 263 762 [l0, l1, l2, l3] [(0, h a i), v2] S h n) ∧
  (∀ (d : Nat) (x0 a : Int) (l0 l1 l2 l3 : Option mx_V) (S h : mx_H) (n : Int), mx_ex (d + 1) 263 762 [l0, l1, l2, l3] [(0, x0), (2, a)] S h n = mx_cl (S a (-2) = 7) d 116 [(2, a), (0, x0)] 263 765 [l0, l1, l2, l3] [] S h n) ∧
  (∀ (d : Nat) (x : Int) (l0 l1 l3 : Option mx_V) (v0 : mx_V) (S h : mx_H) (n : Int), mx_ex d 263 765 [l0, l1, some (2, x), l3] [v0] S h n = mx_ex d 263 766 [l0, l1, some (2, x), l3] [(2, x), v0] S h n) ∧
  (∀ (d : Nat) (x : Int) (l1 l2 l3 : Option mx_V) (v0 v1 : mx_V) (S h : mx_H) (n : Int), mx_ex d 263 766 [some (2, x), l1, l2, l3] [v0, v1] S h n = mx_ex d 263 767 [some (2, x), l1, l2, l3] [(2, x), v0, v1] S h n) ∧
  (∀ (d : Nat) (x : Int) (l0 l1 l2 : Option mx_V) (v0 v1 v2 : mx_V) (S h : mx_H) (n : Int), mx_ex d 263 767 [l0, l1, l2, some (0, x)] [v0, v1, v2] S h n = mx_ex d 263 768 [l0, l1, l2, some (0, x)] [(0, x), v0, v1, v2] S h n) ∧
  (∀ (d : Nat) (l0 l1 l2 l3 : Option mx_V) (v0 v1 v2 v3 : mx_V) (S h : mx_H) (n : Int), mx_ex d 263 768 [l0, l1, l2, l3] [v0, v1, v2, v3] S h n = mx_ex d 263 769 [l0, l1, l2, l3] [(0, 1), v0, v1, v2, v3] S h n) ∧
  (∀ (d : Nat) (b a : Int) (l0 l1 l2 l3 : Option mx_V) (v2 v3 v4 : mx_V) (S h : mx_H) (n : Int), mx_ex d 263 769 [l0, l1, l2, l3] [(0, b), (0, a), v2, v3, v4] S h n = mx_ex d 263 770 [l0, l1, l2, l3] [(0, mx_w (a + b)), v2, v3, v4] S h n) ∧
  (∀ (d : Nat) (i a : Int) (l0 l1 l2 l3 : Option mx_V) (v2 v3 : mx_V) (S h : mx_H) (n : Int), mx_ex d 263 770 [l0, l1, l2, l3] [(0, i), (2, a), v2, v3] S h n = mx_gd ((S a (-2) = 20 ∨ S a (-2) = 24) ∧ 0 ≤ i ∧ i < S a (-1)) d 263 771 [l0, l1, l2, l3] [(0, h a i), v2, v3] S h n) ∧
  (∀ (d : Nat) (x0 a : Int) (l0 l1 l2 l3 : Option mx_V) (v2 : mx_V) (S h : mx_H) (n : Int), mx_ex (d + 1) 263 771 [l0, l1, l2, l3] [(0, x0), (2, a), v2] S h n = mx_cl (S a (-2) = 13) d 202 [(2, a), (0, x0)] 263 774 [l0, l1, l2, l3] [v2] S h n) ∧
  (∀ (d : Nat) (b a : Int) (l0 l1 l2 l3 : Option mx_V) (S h : mx_H) (n : Int), mx_ex d 263 774 [l0, l1, l2, l3] [(0, b), (0, a)] S h n = mx_br (a = b) d 263 1653 777 [l0, l1, l2, l3] [] S h n) ∧
  (∀ (d : Nat) (l0 l1 l2 l3 : Option mx_V) (S h : mx_H) (n : Int), mx_ex d 263 777 [l0, l1, l2, l3] [] S h n = mx_ex d 263 778 [l0, l1, l2, l3] [(0, 0)] S h n) ∧
  (∀ (d : Nat) (x : Int) (l0 l1 l2 l3 : Option mx_V) (S h : mx_H) (n : Int), mx_ex d 263 778 [l0, l1, l2, l3] [(0, x)] S h n = mx_re (0 ≤ x ∧ x ≤ 1) (some (0, x)) S h n) ∧
  (∀ (d : Nat) (x : Int) (l0 l2 l3 : Option mx_V) (S h : mx_H) (n : Int), mx_ex d 263 779 [l0, some (2, x), l2, l3] [] S h n = mx_ex d 263 780 [l0, some (2, x), l2, l3] [(2, x)] S h n) ∧
  (∀ (d : Nat) (x : Int) (l1 l2 l3 : Option mx_V) (v0 : mx_V) (S h : mx_H) (n : Int), mx_ex d 263 780 [some (2, x), l1, l2, l3] [v0] S h n = mx_ex d 263 781 [some (2, x), l1, l2, l3] [(2, x), v0] S h n) ∧
  (∀ (d : Nat) (x : Int) (l0 l1 l2 : Option mx_V) (v0 v1 : mx_V) (S h : mx_H) (n : Int), mx_ex d 263 781 [l0, l1, l2, some (0, x)] [v0, v1] S h n = mx_ex d 263 782 [l0, l1, l2, some (0, x)] [(0, x), v0, v1] S h n) ∧
  (∀ (d : Nat) (l0 l1 l2 l3 : Option mx_V) (v0 v1 v2 : mx_V) (S h : mx_H) (n : Int), mx_ex d 263 782 [l0, l1, l2, l3] [v0, v1, v2] S h n = mx_ex d 263 783 [l0, l1, l2, l3] [(0, 1), v0, v1, v2] S h n) ∧
  (∀ (d : Nat) (b a : Int) (l0 l1 l2 l3 : Option mx_V) (v2 v3 : mx_V) (S h : mx_H) (n : Int), mx_ex d 263 783 [l0, l1, l2, l3] [(0, b), (0, a), v2, v3] S h n = mx_ex d 263 784 [l0, l1, l2, l3] [(0, mx_w (a + b)), v2, v3] S h n) ∧
  (∀ (d : Nat) (i a : Int) (l0 l1 l2 l3 : Option mx_V) (v2 : mx_V) (S h : mx_H) (n : Int), mx_ex d 263 784 [l0, l1, l2, l3] [(0, i), (2, a), v2] S h n = mx_gd ((S a (-2) = 20 ∨ S a (-2) = 24) ∧ 0 ≤ i ∧ i < S a (-1)) d 263 785 [l0, l1, l2, l3] [(0, h a i), v2] S h n) ∧
  (∀ (d : Nat) (x0 a : Int) (l0 l1 l2 l3 : Option mx_V) (S h : mx_H) (n : Int), mx_ex (d + 1) 263 785 [l0, l1, l2, l3] [(0, x0), (2, a)] S h n = mx_cl (S a (-2) = 7) d 117 [(2, a), (0, x0)] 263 788 [l0, l1, l2, l3] [] S h n) ∧
  (∀ (d : Nat) (x : Int) (l0 l1 l3 : Option mx_V) (v0 : mx_V) (S h : mx_H) (n : Int), mx_ex d 263 788 [l0, l1, some (2, x), l3] [v0] S h n = mx_ex d 263 789 [l0, l1, some (2, x), l3] [(2, x), v0] S h n) ∧
  (∀ (d : Nat) (x : Int) (l1 l2 l3 : Option mx_V) (v0 v1 : mx_V) (S h : mx_H) (n : Int), mx_ex d 263 789 [some (2, x), l1, l2, l3] [v0, v1] S h n = mx_ex d 263 790 [some (2, x), l1, l2, l3] [(2, x), v0, v1] S h n) ∧
  (∀ (d : Nat) (x : Int) (l0 l1 l2 : Option mx_V) (v0 v1 v2 : mx_V) (S h : mx_H) (n : Int), mx_ex d 263 790 [l0, l1, l2, some (0, x)] [v0, v1, v2] S h n = mx_ex d 263 791 [l0, l1, l2, some (0, x)] [(0, x), v0, v1, v2] S h n) :=
  ⟨by intros; exact eq_ld rfl rfl,
   by intros; exact eq_ld rfl rfl,
   by intros; exact eq_push rfl,
   by intros; exact eq_i2 (o := mx_add) rfl,
   by intros; exact eq_iald rfl,
   by intros; exact eq_cv rfl (Nat.le_of_ble_eq_true rfl) rfl rfl rfl (Nat.le_of_ble_eq_true rfl),
   by intros; exact eq_ic0 rfl,
   by intros; exact eq_push rfl,
   by intros; exact eq_rr rfl,
   by intros; exact eq_ld rfl rfl,
   by intros; exact eq_cv rfl (Nat.le_of_ble_eq_true rfl) rfl rfl rfl (Nat.le_of_ble_eq_true rfl),
   by intros; exact eq_ld rfl rfl,
   by intros; exact eq_cv rfl (Nat.le_of_ble_eq_true rfl) rfl rfl rfl (Nat.le_of_ble_eq_true rfl),
   by intros; exact eq_ic0 rfl,
   by intros; exact eq_push rfl,
   by intros; exact eq_rr rfl,
   by intros; exact eq_ld rfl rfl,
   by intros; exact eq_ld rfl rfl,
   by intros; exact eq_ld rfl rfl,
   by intros; exact eq_push rfl,
   by intros; exact eq_i2 (o := mx_add) rfl,
   by intros; exact eq_iald rfl,
   by intros; exact eq_ld rfl rfl,
   by intros; exact eq_ld rfl rfl,
   by intros; exact eq_push rfl,
   by intros; exact eq_i2 (o := mx_add) rfl,
   by intros; exact eq_iald rfl,
   by intros; exact eq_cv rfl (Nat.le_of_ble_eq_true rfl) rfl rfl rfl (Nat.le_of_ble_eq_true rfl),
   by intros; exact eq_ld rfl rfl,
   by intros; exact eq_ld rfl rfl,
   by intros; exact eq_ld rfl rfl,
   by intros; exact eq_push rfl,
   by intros; exact eq_i2 (o := mx_add) rfl,
   by intros; exact eq_iald rfl,
   by intros; exact eq_ld rfl rfl,
   by intros; exact eq_ld rfl rfl,
   by intros; exact eq_push rfl,
   by intros; exact eq_i2 (o := mx_add) rfl,
   by intros; exact eq_iald rfl,
   by intros; exact eq_cv rfl (Nat.le_of_ble_eq_true rfl) rfl rfl rfl (Nat.le_of_ble_eq_true rfl),
   by intros; exact eq_ic0 rfl,
   by intros; exact eq_push rfl,
   by intros; exact eq_rr rfl,
   by intros; exact eq_ld rfl rfl,
   by intros; exact eq_ld rfl rfl,
   by intros; exact eq_ld rfl rfl,
   by intros; exact eq_push rfl,
   by intros; exact eq_i2 (o := mx_add) rfl,
   by intros; exact eq_iald rfl,
   by intros; exact eq_cv rfl (Nat.le_of_ble_eq_true rfl) rfl rfl rfl (Nat.le_of_ble_eq_true rfl),
   by intros; exact eq_ld rfl rfl,
   by intros; exact eq_ld rfl rfl,
   by intros; exact eq_ld rfl rfl,
   by intros; exact eq_push rfl,
   by intros; exact eq_i2 (o := mx_add) rfl,
   by intros; exact eq_iald rfl,
   by intros; exact eq_cv rfl (Nat.le_of_ble_eq_true rfl) rfl rfl rfl (Nat.le_of_ble_eq_true rfl),
   by intros; exact eq_ic0 rfl,
   by intros; exact eq_push rfl,
   by intros; exact eq_rr rfl,
   by intros; exact eq_ld rfl rfl,
   by intros; exact eq_ld rfl rfl,
   by intros; exact eq_ld rfl rfl,
   by intros; exact eq_push rfl,
   by intros; exact eq_i2 (o := mx_add) rfl,
   by intros; exact eq_iald rfl,
   by intros; exact eq_cv rfl (Nat.le_of_ble_eq_true rfl) rfl rfl rfl (Nat.le_of_ble_eq_true rfl),
   by intros; exact eq_ld rfl rfl,
   by intros; exact eq_ld rfl rfl,
   by intros; exact eq_ld rfl rfl⟩
theorem rw_L_law_7 :
  (∀ (d : Nat) (l0 l1 l2 l3 : Option mx_V) (v0 v1 v2 v3 : mx_V) (S h : mx_H) (n : Int), mx_ex d 263 791 [l0, l1, l2, l3] [v0, v1, v2, v3] S h n = mx_ex d 263 792 [l0, l1, l2, l3] [(0, 1), v0, v1, v2, v3] S h n) ∧
  (∀ (d : Nat) (b a : Int) (l0 l1 l2 l3 : Option mx_V) (v2 v3 v4 : mx_V) (S h : mx_H) (n : Int), mx_ex d 263 792 [l0, l1, l2, l3] [(0, b), (0, a), v2, v3, v4] S h n = mx_ex d 263 793 [l0, l1, l2, l3] [(0, mx_w (a + b)), v2, v3, v4] S h n) ∧
  (∀ (d : Nat) (i a : Int) (l0 l1 l2 l3 : Option mx_V) (v2 v3 : mx_V) (S h : mx_H) (n : Int), mx_ex d 263 793 [l0, l1, l2, l3] [(0, i), (2, a), v2, v3] S h n = mx_gd ((S a (-2) = 20 ∨ S a (-2) = 24) ∧ 0 ≤ i ∧ i < S a (-1)) d 263 794 [l0, l1, l2, l3] [(0, h a i), v2, v3] S h n) ∧
  (∀ (d : Nat) (x0 a : Int) (l0 l1 l2 l3 : Option mx_V) (v2 : mx_V) (S h : mx_H) (n : Int), mx_ex (d + 1) 263 794 [l0, l1, l2, l3] [(0, x0), (2, a), v2] S h n = mx_cl (S a (-2) = 13) d 203 [(2, a), (0, x0)] 263 797 [l0, l1, l2, l3] [v2] S h n) ∧
  (∀ (d : Nat) (b a : Int) (l0 l1 l2 l3 : Option mx_V) (S h : mx_H) (n : Int), mx_ex d 263 797 [l0, l1, l2, l3] [(0, b), (0, a)] S h n = mx_br (a = b) d 263 1653 800 [l0, l1, l2, l3] [] S h n) ∧
  (∀ (d : Nat) (l0 l1 l2 l3 : Option mx_V) (S h : mx_H) (n : Int), mx_ex d 263 800 [l0, l1, l2, l3] [] S h n = mx_ex d 263 801 [l0, l1, l2, l3] [(0, 0)] S h n) ∧
  (∀ (d : Nat) (x : Int) (l0 l1 l2 l3 : Option mx_V) (S h : mx_H) (n : Int), mx_ex d 263 801 [l0, l1, l2, l3] [(0, x)] S h n = mx_re (0 ≤ x ∧ x ≤ 1) (some (0, x)) S h n) ∧
  (∀ (d : Nat) (x : Int) (l0 l2 l3 : Option mx_V) (S h : mx_H) (n : Int), mx_ex d 263 802 [l0, some (2, x), l2, l3] [] S h n = mx_ex d 263 803 [l0, some (2, x), l2, l3] [(2, x)] S h n) ∧
  (∀ (d : Nat) (x : Int) (l1 l2 l3 : Option mx_V) (v0 : mx_V) (S h : mx_H) (n : Int), mx_ex d 263 803 [some (2, x), l1, l2, l3] [v0] S h n = mx_ex d 263 804 [some (2, x), l1, l2, l3] [(2, x), v0] S h n) ∧
  (∀ (d : Nat) (x : Int) (l0 l1 l2 : Option mx_V) (v0 v1 : mx_V) (S h : mx_H) (n : Int), mx_ex d 263 804 [l0, l1, l2, some (0, x)] [v0, v1] S h n = mx_ex d 263 805 [l0, l1, l2, some (0, x)] [(0, x), v0, v1] S h n) ∧
  (∀ (d : Nat) (l0 l1 l2 l3 : Option mx_V) (v0 v1 v2 : mx_V) (S h : mx_H) (n : Int), mx_ex d 263 805 [l0, l1, l2, l3] [v0, v1, v2] S h n = mx_ex d 263 806 [l0, l1, l2, l3] [(0, 1), v0, v1, v2] S h n) ∧
  (∀ (d : Nat) (b a : Int) (l0 l1 l2 l3 : Option mx_V) (v2 v3 : mx_V) (S h : mx_H) (n : Int), mx_ex d 263 806 [l0, l1, l2, l3] [(0, b), (0, a), v2, v3] S h n = mx_ex d 263 807 [l0, l1, l2, l3] [(0, mx_w (a + b)), v2, v3] S h n) ∧
  (∀ (d : Nat) (i a : Int) (l0 l1 l2 l3 : Option mx_V) (v2 : mx_V) (S h : mx_H) (n : Int), mx_ex d 263 807 [l0, l1, l2, l3] [(0, i), (2, a), v2] S h n = mx_gd ((S a (-2) = 20 ∨ S a (-2) = 24) ∧ 0 ≤ i ∧ i < S a (-1)) d 263 808 [l0, l1, l2, l3] [(0, h a i), v2] S h n) ∧
  (∀ (d : Nat) (x : Int) (l1 l2 l3 : Option mx_V) (v0 v1 : mx_V) (S h : mx_H) (n : Int), mx_ex d 263 808 [some (2, x), l1, l2, l3] [v0, v1] S h n = mx_ex d 263 809 [some (2, x), l1, l2, l3] [(2, x), v0, v1] S h n) ∧
  (∀ (d : Nat) (x : Int) (l0 l1 l2 : Option mx_V) (v0 v1 v2 : mx_V) (S h : mx_H) (n : Int), mx_ex d 263 809 [l0, l1, l2, some (0, x)] [v0, v1, v2] S h n = mx_ex d 263 810 [l0, l1, l2, some (0, x)] [(0, x), v0, v1, v2] S h n) ∧
  (∀ (d : Nat) (l0 l1 l2 l3 : Option mx_V) (v0 v1 v2 v3 : mx_V) (S h : mx_H) (n : Int), mx_ex d 263 810 [l0, l1, l2, l3] [v0, v1, v2, v3] S h n = mx_ex d 263 811 [l0, l1, l2, l3] [(0, 2), v0, v1, v2, v3] S h n) ∧
  (∀ (d : Nat) (b a : Int) (l0 l1 l2 l3 : Option mx_V) (v2 v3 v4 : mx_V) (S h : mx_H) (n : Int), mx_ex d 263 811 [l0, l1, l2, l3] [(0, b), (0, a), v2, v3, v4] S h n = mx_ex d 263 812 [l0, l1, l2, l3] [(0, mx_w (a + b)), v2, v3, v4] S h n) ∧
  (∀ (d : Nat) (i a : Int) (l0 l1 l2 l3 : Option mx_V) (v2 v3 : mx_V) (S h : mx_H) (n : Int), mx_ex d 263 812 [l0, l1, l2, l3] [(0, i), (2, a), v2, v3] S h n = mx_gd ((S a (-2) = 20 ∨ S a (-2) = 24) ∧ 0 ≤ i ∧ i < S a (-1)) d 263 813 [l0, l1, l2, l3] [(0, h a i), v2, v3] S h n) ∧
  (∀ (d : Nat) (x : Int) (l1 l2 l3 : Option mx_V) (v0 v1 v2 : mx_V) (S h : mx_H) (n : Int), mx_ex d 263 813 [some (2, x), l1, l2, l3] [v0, v1, v2] S h n = mx_ex d 263 814 [some (2, x), l1, l2, l3] [(2, x), v0, v1, v2] S h n) ∧
  (∀ (d : Nat) (x : Int) (l0 l1 l2 : Option mx_V) (v0 v1 v2 v3 : mx_V) (S h : mx_H) (n : Int), mx_ex d 263 814 [l0, l1, l2, some (0, x)] [v0, v1, v2, v3] S h n = mx_ex d 263 815 [l0, l1, l2, some (0, x)] [(0, x), v0, v1, v2, v3] S h n) ∧
  (∀ (d : Nat) (l0 l1 l2 l3 : Option mx_V) (v0 v1 v2 v3 v4 : mx_V) (S h : mx_H) (n : Int), mx_ex d 263 815 [l0, l1, l2, l3] [v0, v1, v2, v3, v4] S h n = mx_ex d 263 816 [l0, l1, l2, l3] [(0, 3), v0, v1, v2, v3, v4] S h n) ∧
  (∀ (d : Nat) (b a : Int) (l0 l1 l2 l3 : Option mx_V) (v2 v3 v4 v5 : mx_V) (S h : mx_H) (n : Int), mx_ex d 263 816 [l0, l1, l2, l3] [(0, b), (0, a), v2, v3, v4, v5] S h n = mx_ex d 263 817 [l0, l1, l2, l3] [(0, mx_w (a + b)), v2, v3, v4, v5] S h n) ∧
  (∀ (d : Nat) (i a : Int) (l0 l1 l2 l3 : Option mx_V) (v2 v3 v4 : mx_V) (S h : mx_H) (n : Int), mx_ex d 263 817 [l0, l1, l2, l3] [(0, i), (2, a), v2, v3, v4] S h n = mx_gd ((S a (-2) = 20 ∨ S a (-2) = 24) ∧ 0 ≤ i ∧ i < S a (-1)) d 263 818 [l0, l1, l2, l3] [(0, h a i), v2, v3, v4] S h n) ∧
  (∀ (d : Nat) (x : Int) (l1 l2 l3 : Option mx_V) (v0 v1 v2 v3 : mx_V) (S h : mx_H) (n : Int), mx_ex d 263 818 [some (2, x), l1, l2, l3] [v0, v1, v2, v3] S h n = mx_ex d 263 819 [some (2, x), l1, l2, l3] [(2, x), v0, v1, v2, v3] S h n) ∧
  (∀ (d : Nat) (x : Int) (l0 l1 l2 : Option mx_V) (v0 v1 v2 v3 v4 : mx_V) (S h : mx_H) (n : Int), mx_ex d 263 819 [l0, l1, l2, some (0, x)] [v0, v1, v2, v3, v4] S h n = mx_ex d 263 820 [l0, l1, l2, some (0, x)] [(0, x), v0, v1, v2, v3, v4] S h n) ∧
  (∀ (d : Nat) (l0 l1 l2 l3 : Option mx_V) (v0 v1 v2 v3 v4 v5 : mx_V) (S h : mx_H) (n : Int), mx_ex d 263 820 [l0, l1, l2, l3] [v0, v1, v2, v3, v4, v5] S h n = mx_ex d 263 821 [l0, l1, l2, l3] [(0, 4), v0, v1, v2, v3, v4, v5] S h n) ∧
  (∀ (d : Nat) (b a : Int) (l0 l1 l2 l3 : Option mx_V) (v2 v3 v4 v5 v6 : mx_V) (S h : mx_H) (n : Int), mx_ex d 263 821 [l0, l1, l2, l3] [(0, b), (0, a), v2, v3, v4, v5, v6] S h n = mx_ex d 263 822 [l0, l1, l2, l3] [(0, mx_w (a + b)), v2, v3, v4, v5, v6] S h n) ∧
  (∀ (d : Nat) (i a : Int) (l0 l1 l2 l3 : Option mx_V) (v2 v3 v4 v5 : mx_V) (S h : mx_H) (n : Int), mx_ex d 263 822 [l0, l1, l2, l3] [(0, i), (2, a), v2, v3, v4, v5] S h n = mx_gd ((S a (-2) = 20 ∨ S a (-2) = 24) ∧ 0 ≤ i ∧ i < S a (-1)) d 263 823 [l0, l1, l2, l3] [(0, h a i), v2, v3, v4, v5] S h n) ∧
  (∀ (d : Nat) (x0 x1 x2 x3 a : Int) (l0 l1 l2 l3 : Option mx_V) (S h : mx_H) (n : Int), mx_ex (d + 1) 263 823 [l0, l1, l2, l3] [(0, x0), (0, x1), (0, x2), (0, x3), (2, a)] S h n = mx_cl (S a (-2) = 7) d 118 [(2, a), (0, x3), (0, x2), (0, x1), (0, x0)] 263 826 [l0, l1, l2, l3] [] S h n) ∧
  (∀ (d : Nat) (x : Int) (l0 l1 l3 : Option mx_V) (v0 : mx_V) (S h : mx_H) (n : Int), mx_ex d 263 826 [l0, l1, some (2, x), l3] [v0] S h n = mx_ex d 263 827 [l0, l1, some (2, x), l3] [(2, x), v0] S h n) ∧
  (∀ (d : Nat) (x : Int) (l1 l2 l3 : Option mx_V) (v0 v1 : mx_V) (S h : mx_H) (n : Int), mx_ex d 263 827 [some (2, x), l1, l2, l3] [v0, v1] S h n = mx_ex d 263 828 [some (2, x), l1, l2, l3] [(2, x), v0, v1] S h n) ∧
  (∀ (d : Nat) (x : Int) (l0 l1 l2 : Option mx_V) (v0 v1 v2 : mx_V) (S h : mx_H) (n : Int), mx_ex d 263 828 [l0, l1, l2, some (0, x)] [v0, v1, v2] S h n = mx_ex d 263 829 [l0, l1, l2, some (0, x)] [(0, x), v0, v1, v2] S h n) ∧
  (∀ (d : Nat) (l0 l1 l2 l3 : Option mx_V) (v0 v1 v2 v3 : mx_V) (S h : mx_H) (n : Int), mx_ex d 263 829 [l0, l1, l2, l3] [v0, v1, v2, v3] S h n = mx_ex d 263 830 [l0, l1, l2, l3] [(0, 1), v0, v1, v2, v3] S h n) ∧
  (∀ (d : Nat) (b a : Int) (l0 l1 l2 l3 : Option mx_V) (v2 v3 v4 : mx_V) (S h : mx_H) (n : Int), mx_ex d 263 830 [l0, l1, l2, l3] [(0, b), (0, a), v2, v3, v4] S h n = mx_ex d 263 831 [l0, l1, l2, l3] [(0, mx_w (a + b)), v2, v3, v4] S h n) ∧
  (∀ (d : Nat) (i a : Int) (l0 l1 l2 l3 : Option mx_V) (v2 v3 : mx_V) (S h : mx_H) (n : Int), mx_ex d 263 831 [l0, l1, l2, l3] [(0, i), (2, a), v2, v3] S h n = mx_gd ((S a (-2) = 20 ∨ S a (-2) = 24) ∧ 0 ≤ i ∧ i < S a (-1)) d 263 832 [l0, l1, l2, l3] [(0, h a i), v2, v3] S h n) ∧
  (∀ (d : Nat) (x : Int) (l1 l2 l3 : Option mx_V) (v0 v1 v2 : mx_V) (S h : mx_H) (n : Int), mx_ex d 263 832 [some (2, x), l1, l2, l3] [v0, v1, v2] S h n = mx_ex d 263 833 [some (2, x), l1, l2, l3] [(2, x), v0, v1, v2] S h n) ∧
  (∀ (d : Nat) (x : Int) (l0 l1 l2 : Option mx_V) (v0 v1 v2 v3 : mx_V) (S h : mx_H) (n : Int), mx_ex d 263 833 [l0, l1, l2, some (0, x)] [v0, v1, v2, v3] S h n = mx_ex d 263 834 [l0, l1, l2, some (0, x)] [(0, x), v0, v1, v2, v3] S h n) ∧
  (∀ (d : Nat) (l0 l1 l2 l3 : Option mx_V) (v0 v1 v2 v3 v4 : mx_V) (S h : mx_H) (n : Int), mx_ex d 263 834 [l0, l1, l2, l3] [v0, v1, v2, v3, v4] S h n = mx_ex d 263 835 [l0, l1, l2, l3] [(0, 2), v0, v1, v2, v3, v4] S h n) ∧
  (∀ (d : Nat) (b a : Int) (l0 l1 l2 l3 : Option mx_V) (v2 v3 v4 v5 : mx_V) (S h : mx_H) (n : Int), mx_ex d 263 835 [l0, l1, l2, l3] [(0, b), (0, a), v2, v3, v4, v5] S h n = mx_ex d 263 836 [l0, l1, l2, l3] [(0, mx_w (a + b)), v2, v3, v4, v5] S h n) ∧
  (∀ (d : Nat) (i a : Int) (l0 l1 l2 l3 : Option mx_V) (v2 v3 v4 : mx_V) (S h : mx_H) (n : Int), mx_ex d 263 836 [l0, l1, l2, l3] [(0, i), (2, a), v2, v3, v4] S h n = mx_gd ((S a (-2) = 20 ∨ S a (-2) = 24) ∧ 0 ≤ i ∧ i < S a (-1)) d 263 837 [l0, l1, l2, l3] [(0, h a i), v2, v3, v4] S h n) ∧
  (∀ (d : Nat) (x : Int) (l1 l2 l3 : Option mx_V) (v0 v1 v2 v3 : mx_V) (S h : mx_H) (n : Int), mx_ex d 263 837 [some (2, x), l1, l2, l3] [v0, v1, v2, v3] S h n = mx_ex d 263 838 [some (2, x), l1, l2, l3] [(2, x), v0, v1, v2, v3] S h n) ∧
  (∀ (d : Nat) (x : Int) (l0 l1 l2 : Option mx_V) (v0 v1 v2 v3 v4 : mx_V) (S h : mx_H) (n : Int), mx_ex d 263 838 [l0, l1, l2, some (0, x)] [v0, v1, v2, v3, v4] S h n = mx_ex d 263 839 [l0, l1, l2, some (0, x)] [(0, x), v0, v1, v2, v3, v4] S h n) ∧
  (∀ (d : Nat) (l0 l1 l2 l3 : Option mx_V) (v0 v1 v2 v3 v4 v5 : mx_V) (S h : mx_H) (n : Int), mx_ex d 263 839 [l0, l1, l2, l3] [v0, v1, v2, v3, v4, v5] S h n = mx_ex d 263 840 [l0, l1, l2, l3] [(0, 3), v0, v1, v2, v3, v4, v5] S h n) ∧
  (∀ (d : Nat) (b a : Int) (l0 l1 l2 l3 : Option mx_V) (v2 v3 v4 v5 v6 : mx_V) (S h : mx_H) (n : Int), mx_ex d 263 840 [l0, l1, l2, l3] [(0, b), (0, a), v2, v3, v4, v5, v6] S h n = mx_ex d 263 841 [l0, l1, l2, l3] [(0, mx_w (a + b)), v2, v3, v4, v5, v6] S h n) ∧
  (∀ (d : Nat) (i a : Int) (l0 l1 l2 l3 : Option mx_V) (v2 v3 v4 v5 : mx_V) (S h : mx_H) (n : Int), mx_ex d 263 841 [l0, l1, l2, l3] [(0, i), (2, a), v2, v3, v4, v5] S h n = mx_gd ((S a (-2) = 20 ∨ S a (-2) = 24) ∧ 0 ≤ i ∧ i < S a (-1)) d 263 842 [l0, l1, l2, l3] [(0, h a i), v2, v3, v4, v5] S h n) ∧
  (∀ (d : Nat) (x : Int) (l1 l2 l3 : Option mx_V) (v0 v1 v2 v3 v4 : mx_V) (S h : mx_H) (n : Int), mx_ex d 263 842 [some (2, x), l1, l2, l3] [v0, v1, v2, v3, v4] S h n = mx_ex d 263 843 [some (2, x), l1, l2, l3] [(2, x), v0, v1, v2, v3, v4] S h n) ∧
  (∀ (d : Nat) (x : Int) (l0 l1 l2 : Option mx_V) (v0 v1 v2 v3 v4 v5 : mx_V) (S h : mx_H) (n : Int), mx_ex d 263 843 [l0, l1, l2, some (0, x)] [v0, v1, v2, v3, v4, v5] S h n = mx_ex d 263 844 [l0, l1, l2, some (0, x)] [(0, x), v0, v1, v2, v3, v4, v5] S h n) ∧
  (∀ (d : Nat) (l0 l1 l2 l3 : Option mx_V) (v0 v1 v2 v3 v4 v5 v6 : mx_V) (S h : mx_H) (n : Int), mx_ex d 263 844 [l0, l1, l2, l3] [v0, v1, v2, v3, v4, v5, v6] S h n = mx_ex d 263 845 [l0, l1, l2, l3] [(0, 4), v0, v1, v2, v3, v4, v5, v6] S h n) ∧
  (∀ (d : Nat) (b a : Int) (l0 l1 l2 l3 : Option mx_V) (v2 v3 v4 v5 v6 v7 : mx_V) (S h : mx_H) (n : Int), mx_ex d 263 845 [l0, l1, l2, l3] [(0, b), (0, a), v2, v3, v4, v5, v6, v7] S h n = mx_ex d 263 846 [l0, l1, l2, l3] [(0, mx_w (a + b)), v2, v3, v4, v5, v6, v7] S h n) ∧
  (∀ (d : Nat) (i a : Int) (l0 l1 l2 l3 : Option mx_V) (v2 v3 v4 v5 v6 : mx_V) (S h : mx_H) (n : Int), mx_ex d 263 846 [l0, l1, l2, l3] [(0, i), (2, a), v2, v3, v4, v5, v6] S h n = mx_gd ((S a (-2) = 20 ∨ S a (-2) = 24) ∧ 0 ≤ i ∧ i < S a (-1)) d 263 847 [l0, l1, l2, l3] [(0, h a i), v2, v3, v4, v5, v6] S h n) ∧
  (∀ (d : Nat) (x0 x1 x2 x3 a : Int) (l0 l1 l2 l3 : Option mx_V) (v5 : mx_V) (S h : mx_H) (n : Int), mx_ex (d + 1) 263 847 [l0, l1, l2, l3] [(0, x0), (0, x1), (0, x2), (0, x3), (2, a), v5] S h n = mx_cl (S a (-2) = 13) d 204 [(2, a), (0, x3), (0, x2), (0, x1), (0, x0)] 263 850 [l0, l1, l2, l3] [v5] S h n) ∧
  (∀ (d : Nat) (b a : Int) (l0 l1 l2 l3 : Option mx_V) (S h : mx_H) (n : Int), mx_ex d 263 850 [l0, l1, l2, l3] [(0, b), (0, a)] S h n = mx_br (a = b) d 263 1653 853 [l0, l1, l2, l3] [] S h n) ∧
  (∀ (d : Nat) (l0 l1 l2 l3 : Option mx_V) (S h : mx_H) (n : Int), mx_ex d 263 853 [l0, l1, l2, l3] [] S h n = mx_ex d 263 854 [l0, l1, l2, l3] [(0, 0)] S h n) ∧
  (∀ (d : Nat) (x : Int) (l0 l1 l2 l3 : Option mx_V) (S h : mx_H) (n : Int), mx_ex d 263 854 [l0, l1, l2, l3] [(0, x)] S h n = mx_re (0 ≤ x ∧ x ≤ 1) (some (0, x)) S h n) ∧
  (∀ (d : Nat) (x : Int) (l0 l2 l3 : Option mx_V) (S h : mx_H) (n : Int), mx_ex d 263 855 [l0, some (2, x), l2, l3] [] S h n = mx_ex d 263 856 [l0, some (2, x), l2, l3] [(2, x)] S h n) ∧
  (∀ (d : Nat) (a : Int) (l0 l1 l2 l3 : Option mx_V) (S h : mx_H) (n : Int), mx_ex (d + 1) 263 856 [l0, l1, l2, l3] [(2, a)] S h n = mx_cl (S a (-2) = 7) d 119 [(2, a)] 263 859 [l0, l1, l2, l3] [] S h n) ∧
  (∀ (d : Nat) (x : Int) (l0 l1 l3 : Option mx_V) (v0 : mx_V) (S h : mx_H) (n : Int), mx_ex d 263 859 [l0, l1, some (2, x), l3] [v0] S h n = mx_ex d 263 860 [l0, l1, some (2, x), l3] [(2, x), v0] S h n) ∧
  (∀ (d : Nat) (a : Int) (l0 l1 l2 l3 : Option mx_V) (v1 : mx_V) (S h : mx_H) (n : Int), mx_ex (d + 1) 263 860 [l0, l1, l2, l3] [(2, a), v1] S h n = mx_cl (S a (-2) = 13) d 206 [(2, a)] 263 863 [l0, l1, l2, l3] [v1] S h n) ∧
  (∀ (d : Nat) (b a : Int) (l0 l1 l2 l3 : Option mx_V) (S h : mx_H) (n : Int), mx_ex d 263 863 [l0, l1, l2, l3] [(0, b), (0, a)] S h n = mx_br (a = b) d 263 1653 866 [l0, l1, l2, l3] [] S h n) ∧
  (∀ (d : Nat) (l0 l1 l2 l3 : Option mx_V) (S h : mx_H) (n : Int), mx_ex d 263 866 [l0, l1, l2, l3] [] S h n = mx_ex d 263 867 [l0, l1, l2, l3] [(0, 0)] S h n) ∧
  (∀ (d : Nat) (x : Int) (l0 l1 l2 l3 : Option mx_V) (S h : mx_H) (n : Int), mx_ex d 263 867 [l0, l1, l2, l3] [(0, x)] S h n = mx_re (0 ≤ x ∧ x ≤ 1) (some (0, x)) S h n) ∧
  (∀ (d : Nat) (x : Int) (l0 l2 l3 : Option mx_V) (S h : mx_H) (n : Int), mx_ex d 263 868 [l0, some (2, x), l2, l3] [] S h n = mx_ex d 263 869 [l0, some (2, x), l2, l3] [(2, x)] S h n) ∧
  (∀ (d : Nat) (x : Int) (l1 l2 l3 : Option mx_V) (v0 : mx_V) (S h : mx_H) (n : Int), mx_ex d 263 869 [some (2, x), l1, l2, l3] [v0] S h n = mx_ex d 263 870 [some (2, x), l1, l2, l3] [(2, x), v0] S h n) ∧
  (∀ (d : Nat) (x : Int) (l0 l1 l2 : Option mx_V) (v0 v1 : mx_V) (S h : mx_H) (n : Int), mx_ex d 263 870 [l0, l1, l2, some (0, x)] [v0, v1] S h n = mx_ex d 263 871 [l0, l1, l2, some (0, x)] [(0, x), v0, v1] S h n) ∧
  (∀ (d : Nat) (l0 l1 l2 l3 : Option mx_V) (v0 v1 v2 : mx_V) (S h : mx_H) (n : Int), mx_ex d 263 871 [l0, l1, l2, l3] [v0, v1, v2] S h n = mx_ex d 263 872 [l0, l1, l2, l3] [(0, 1), v0, v1, v2] S h n) ∧
  (∀ (d : Nat) (b a : Int) (l0 l1 l2 l3 : Option mx_V) (v2 v3 : mx_V) (S h : mx_H) (n : Int), mx_ex d 263 872 [l0, l1, l2, l3] [(0, b), (0, a), v2, v3] S h n = mx_ex d 263 873 [l0, l1, l2, l3] [(0, mx_w (a + b)), v2, v3] S h n) ∧
  (∀ (d : Nat) (i a : Int) (l0 l1 l2 l3 : Option mx_V) (v2 : mx_V) (S h : mx_H) (n : Int), mx_ex d 263 873 [l0, l1, l2, l3] [(0, i), (2, a), v2] S h n = mx_gd ((S a (-2) = 20 ∨ S a (-2) = 24) ∧ 0 ≤ i ∧ i < S a (-1)) d 263 874 [l0, l1, l2, l3] [(0, h a i), v2] S h n) ∧
  (∀ (d : Nat) (x0 a : Int) (l0 l1 l2 l3 : Option mx_V) (S h : mx_H) (n : Int), mx_ex (d + 1) 263 874 [l0, l1, l2, l3] [(0, x0), (2, a)] S h n = mx_cl (S a (-2) = 7) d 120 [(2, a), (0, x0)] 263 877 [l0, l1, l2, l3] [] S h n) ∧
  (∀ (d : Nat) (x : Int) (l0 l1 l3 : Option mx_V) (v0 : mx_V) (S h : mx_H) (n : Int), mx_ex d 263 877 [l0, l1, some (2, x), l3] [v0] S h n = mx_ex d 263 878 [l0, l1, some (2, x), l3] [(2, x), v0] S h n) ∧
  (∀ (d : Nat) (x : Int) (l1 l2 l3 : Option mx_V) (v0 v1 : mx_V) (S h : mx_H) (n : Int), mx_ex d 263 878 [some (2, x), l1, l2, l3] [v0, v1] S h n = mx_ex d 263 879 [some (2, x), l1, l2, l3] [(2, x), v0, v1] S h n) :=
  ⟨by intros; exact eq_push rfl,
   by intros; exact eq_i2 (o := mx_add) rfl,
   by intros; exact eq_iald rfl,
   by intros; exact eq_cv rfl (Nat.le_of_ble_eq_true rfl) rfl rfl rfl (Nat.le_of_ble_eq_true rfl),
   by intros; exact eq_ic0 rfl,
   by intros; exact eq_push rfl,
   by intros; exact eq_rr rfl,
   by intros; exact eq_ld rfl rfl,
   by intros; exact eq_ld rfl rfl,
   by intros; exact eq_ld rfl rfl,
   by intros; exact eq_push rfl,
   by intros; exact eq_i2 (o := mx_add) rfl,
   by intros; exact eq_iald rfl,
   by intros; exact eq_ld rfl rfl,
   by intros; exact eq_ld rfl rfl,
   by intros; exact eq_push rfl,
   by intros; exact eq_i2 (o := mx_add) rfl,
   by intros; exact eq_iald rfl,
   by intros; exact eq_ld rfl rfl,
   by intros; exact eq_ld rfl rfl,
   by intros; exact eq_push rfl,
   by intros; exact eq_i2 (o := mx_add) rfl,
   by intros; exact eq_iald rfl,
   by intros; exact eq_ld rfl rfl,
   by intros; exact eq_ld rfl rfl,
   by intros; exact eq_push rfl,
   by intros; exact eq_i2 (o := mx_add) rfl,
   by intros; exact eq_iald rfl,
   by intros; exact eq_cv rfl (Nat.le_of_ble_eq_true rfl) rfl rfl rfl (Nat.le_of_ble_eq_true rfl),
   by intros; exact eq_ld rfl rfl,
   by intros; exact eq_ld rfl rfl,
   by intros; exact eq_ld rfl rfl,
   by intros; exact eq_push rfl,
   by intros; exact eq_i2 (o := mx_add) rfl,
   by intros; exact eq_iald rfl,
   by intros; exact eq_ld rfl rfl,
   by intros; exact eq_ld rfl rfl,
   by intros; exact eq_push rfl,
   by intros; exact eq_i2 (o := mx_add) rfl,
   by intros; exact eq_iald rfl,
   by intros; exact eq_ld rfl rfl,
   by intros; exact eq_ld rfl rfl,
   by intros; exact eq_push rfl,
   by intros; exact eq_i2 (o := mx_add) rfl,
   by intros; exact eq_iald rfl,
   by intros; exact eq_ld rfl rfl,
   by intros; exact eq_ld rfl rfl,
   by intros; exact eq_push rfl,
   by intros; exact eq_i2 (o := mx_add) rfl,
   by intros; exact eq_iald rfl,
   by intros; exact eq_cv rfl (Nat.le_of_ble_eq_true rfl) rfl rfl rfl (Nat.le_of_ble_eq_true rfl),
   by intros; exact eq_ic0 rfl,
   by intros; exact eq_push rfl,
   by intros; exact eq_rr rfl,
   by intros; exact eq_ld rfl rfl,
   by intros; exact eq_cv rfl (Nat.le_of_ble_eq_true rfl) rfl rfl rfl (Nat.le_of_ble_eq_true rfl),
   by intros; exact eq_ld rfl rfl,
   by intros; exact eq_cv rfl (Nat.le_of_ble_eq_true rfl) rfl rfl rfl (Nat.le_of_ble_eq_true rfl),
   by intros; exact eq_ic0 rfl,
   by intros; exact eq_push rfl,
   by intros; exact eq_rr rfl,
   by intros; exact eq_ld rfl rfl,
   by intros; exact eq_ld rfl rfl,
   by intros; exact eq_ld rfl rfl,
   by intros; exact eq_push rfl,
   by intros; exact eq_i2 (o := mx_add) rfl,
   by intros; exact eq_iald rfl,
   by intros; exact eq_cv rfl (Nat.le_of_ble_eq_true rfl) rfl rfl rfl (Nat.le_of_ble_eq_true rfl),
   by intros; exact eq_ld rfl rfl,
   by intros; exact eq_ld rfl rfl⟩
theorem rw_L_law_8 :
  (∀ (d : Nat) (x : Int) (l0 l1 l2 : Option mx_V) (v0 v1 v2 : mx_V) (S h : mx_H) (n : Int), mx_ex d 263 879 [l0, l1, l2, some (0, x)] [v0, v1, v2] S h n = mx_ex d 263 880 [l0, l1, l2, some (0, x)] [(0, x), v0, v1, v2] S h n) ∧
  (∀ (d : Nat) (l0 l1 l2 l3 : Option mx_V) (v0 v1 v2 v3 : mx_V) (S h : mx_H) (n : Int), mx_ex d 263 880 [l0, l1, l2, l3] [v0, v1, v2, v3] S h n = mx_ex d 263 881 [l0, l1, l2, l3] [(0, 1), v0, v1, v2, v3] S h n) ∧
  (∀ (d : Nat) (b a : Int) (l0 l1 l2 l3 : Option mx_V) (v2 v3 v4 : mx_V) (S h : mx_H) (n : Int), mx_ex d 263 881 [l0, l1, l2, l3] [(0, b), (0, a), v2, v3, v4] S h n = mx_ex d 263 882 [l0, l1, l2, l3] [(0, mx_w (a + b)), v2, v3, v4] S h n) ∧
  (∀ (d : Nat) (i a : Int) (l0 l1 l2 l3 : Option mx_V) (v2 v3 : mx_V) (S h : mx_H) (n : Int), mx_ex d 263 882 [l0, l1, l2, l3] [(0, i), (2, a), v2, v3] S h n = mx_gd ((S a (-2) = 20 ∨ S a (-2) = 24) ∧ 0 ≤ i ∧ i < S a (-1)) d 263 883 [l0, l1, l2, l3] [(0, h a i), v2, v3] S h n) ∧
  (∀ (d : Nat) (x0 a : Int) (l0 l1 l2 l3 : Option mx_V) (v2 : mx_V) (S h : mx_H) (n : Int), mx_ex (d + 1) 263 883 [l0, l1, l2, l3] [(0, x0), (2, a), v2] S h n = mx_cl (S a (-2) = 13) d 207 [(2, a), (0, x0)] 263 886 [l0, l1, l2, l3] [v2] S h n) ∧
  (∀ (d : Nat) (b a : Int) (l0 l1 l2 l3 : Option mx_V) (S h : mx_H) (n : Int), mx_ex d 263 886 [l0, l1, l2, l3] [(0, b), (0, a)] S h n = mx_br (a = b) d 263 1653 889 [l0, l1, l2, l3] [] S h n) ∧
  (∀ (d : Nat) (l0 l1 l2 l3 : Option mx_V) (S h : mx_H) (n : Int), mx_ex d 263 889 [l0, l1, l2, l3] [] S h n = mx_ex d 263 890 [l0, l1, l2, l3] [(0, 0)] S h n) ∧
  (∀ (d : Nat) (x : Int) (l0 l1 l2 l3 : Option mx_V) (S h : mx_H) (n : Int), mx_ex d 263 890 [l0, l1, l2, l3] [(0, x)] S h n = mx_re (0 ≤ x ∧ x ≤ 1) (some (0, x)) S h n) ∧
  (∀ (d : Nat) (x : Int) (l0 l2 l3 : Option mx_V) (S h : mx_H) (n : Int), mx_ex d 263 891 [l0, some (2, x), l2, l3] [] S h n = mx_ex d 263 892 [l0, some (2, x), l2, l3] [(2, x)] S h n) ∧
  (∀ (d : Nat) (x : Int) (l1 l2 l3 : Option mx_V) (v0 : mx_V) (S h : mx_H) (n : Int), mx_ex d 263 892 [some (2, x), l1, l2, l3] [v0] S h n = mx_ex d 263 893 [some (2, x), l1, l2, l3] [(2, x), v0] S h n) ∧
  (∀ (d : Nat) (x : Int) (l0 l1 l2 : Option mx_V) (v0 v1 : mx_V) (S h : mx_H) (n : Int), mx_ex d 263 893 [l0, l1, l2, some (0, x)] [v0, v1] S h n = mx_ex d 263 894 [l0, l1, l2, some (0, x)] [(0, x), v0, v1] S h n) ∧
  (∀ (d : Nat) (l0 l1 l2 l3 : Option mx_V) (v0 v1 v2 : mx_V) (S h : mx_H) (n : Int), mx_ex d 263 894 [l0, l1, l2, l3] [v0, v1, v2] S h n = mx_ex d 263 895 [l0, l1, l2, l3] [(0, 1), v0, v1, v2] S h n) ∧
  (∀ (d : Nat) (b a : Int) (l0 l1 l2 l3 : Option mx_V) (v2 v3 : mx_V) (S h : mx_H) (n : Int), mx_ex d 263 895 [l0, l1, l2, l3] [(0, b), (0, a), v2, v3] S h n = mx_ex d 263 896 [l0, l1, l2, l3] [(0, mx_w (a + b)), v2, v3] S h n) ∧
  (∀ (d : Nat) (i a : Int) (l0 l1 l2 l3 : Option mx_V) (v2 : mx_V) (S h : mx_H) (n : Int), mx_ex d 263 896 [l0, l1, l2, l3] [(0, i), (2, a), v2] S h n = mx_gd ((S a (-2) = 20 ∨ S a (-2) = 24) ∧ 0 ≤ i ∧ i < S a (-1)) d 263 897 [l0, l1, l2, l3] [(0, h a i), v2] S h n) ∧
  (∀ (d : Nat) (x0 a : Int) (l0 l1 l2 l3 : Option mx_V) (S h : mx_H) (n : Int), mx_ex (d + 1) 263 897 [l0, l1, l2, l3] [(0, x0), (2, a)] S h n = mx_cl (S a (-2) = 7) d 121 [(2, a), (0, x0)] 263 900 [l0, l1, l2, l3] [] S h n) ∧
  (∀ (d : Nat) (x : Int) (l0 l1 l3 : Option mx_V) (v0 : mx_V) (S h : mx_H) (n : Int), mx_ex d 263 900 [l0, l1, some (2, x), l3] [v0] S h n = mx_ex d 263 901 [l0, l1, some (2, x), l3] [(2, x), v0] S h n) ∧
  (∀ (d : Nat) (x : Int) (l1 l2 l3 : Option mx_V) (v0 v1 : mx_V) (S h : mx_H) (n : Int), mx_ex d 263 901 [some (2, x), l1, l2, l3] [v0, v1] S h n = mx_ex d 263 902 [some (2, x), l1, l2, l3] [(2, x), v0, v1] S h n) ∧
  (∀ (d : Nat) (x : Int) (l0 l1 l2 : Option mx_V) (v0 v1 v2 : mx_V) (S h : mx_H) (n : Int), mx_ex d 263 902 [l0, l1, l2, some (0, x)] [v0, v1, v2] S h n = mx_ex d 263 903 [l0, l1, l2, some (0, x)] [(0, x), v0, v1, v2] S h n) ∧
  (∀ (d : Nat) (l0 l1 l2 l3 : Option mx_V) (v0 v1 v2 v3 : mx_V) (S h : mx_H) (n : Int), mx_ex d 263 903 [l0, l1, l2, l3] [v0, v1, v2, v3] S h n = mx_ex d 263 904 [l0, l1, l2, l3] [(0, 1), v0, v1, v2, v3] S h n) ∧
  (∀ (d : Nat) (b a : Int) (l0 l1 l2 l3 : Option mx_V) (v2 v3 v4 : mx_V) (S h : mx_H) (n : Int), mx_ex d 263 904 [l0, l1, l2, l3] [(0, b), (0, a), v2, v3, v4] S h n = mx_ex d 263 905 [l0, l1, l2, l3] [(0, mx_w (a + b)), v2, v3, v4] S h n) ∧
  (∀ (d : Nat) (i a : Int) (l0 l1 l2 l3 : Option mx_V) (v2 v3 : mx_V) (S h : mx_H) (n : Int), mx_ex d 263 905 [l0, l1, l2, l3] [(0, i), (2, a), v2, v3] S h n = mx_gd ((S a (-2) = 20 ∨ S a (-2) = 24) ∧ 0 ≤ i ∧ i < S a (-1)) d 263 906 [l0, l1, l2, l3] [(0, h a i), v2, v3] S h n) ∧
  (∀ (d : Nat) (x0 a : Int) (l0 l1 l2 l3 : Option mx_V) (v2 : mx_V) (S h : mx_H) (n : Int), mx_ex (d + 1) 263 906 [l0, l1, l2, l3] [(0, x0), (2, a), v2] S h n = mx_cl (S a (-2) = 13) d 208 [(2, a), (0, x0)] 263 909 [l0, l1, l2, l3] [v2] S h n) ∧
  (∀ (d : Nat) (b a : Int) (l0 l1 l2 l3 : Option mx_V) (S h : mx_H) (n : Int), mx_ex d 263 909 [l0, l1, l2, l3] [(0, b), (0, a)] S h n = mx_br (a = b) d 263 1653 912 [l0, l1, l2, l3] [] S h n) ∧
  (∀ (d : Nat) (l0 l1 l2 l3 : Option mx_V) (S h : mx_H) (n : Int), mx_ex d 263 912 [l0, l1, l2, l3] [] S h n = mx_ex d 263 913 [l0, l1, l2, l3] [(0, 0)] S h n) ∧
  (∀ (d : Nat) (x : Int) (l0 l1 l2 l3 : Option mx_V) (S h : mx_H) (n : Int), mx_ex d 263 913 [l0, l1, l2, l3] [(0, x)] S h n = mx_re (0 ≤ x ∧ x ≤ 1) (some (0, x)) S h n) ∧
  (∀ (d : Nat) (x : Int) (l0 l2 l3 : Option mx_V) (S h : mx_H) (n : Int), mx_ex d 263 914 [l0, some (2, x), l2, l3] [] S h n = mx_ex d 263 915 [l0, some (2, x), l2, l3] [(2, x)] S h n) ∧
  (∀ (d : Nat) (x : Int) (l1 l2 l3 : Option mx_V) (v0 : mx_V) (S h : mx_H) (n : Int), mx_ex d 263 915 [some (2, x), l1, l2, l3] [v0] S h n = mx_ex d 263 916 [some (2, x), l1, l2, l3] [(2, x), v0] S h n) ∧
  (∀ (d : Nat) (x : Int) (l0 l1 l2 : Option mx_V) (v0 v1 : mx_V) (S h : mx_H) (n : Int), mx_ex d 263 916 [l0, l1, l2, some (0, x)] [v0, v1] S h n = mx_ex d 263 917 [l0, l1, l2, some (0, x)] [(0, x), v0, v1] S h n) ∧
  (∀ (d : Nat) (l0 l1 l2 l3 : Option mx_V) (v0 v1 v2 : mx_V) (S h : mx_H) (n : Int), mx_ex d 263 917 [l0, l1, l2, l3] [v0, v1, v2] S h n = mx_ex d 263 918 [l0, l1, l2, l3] [(0, 1), v0, v1, v2] S h n) ∧
  (∀ (d : Nat) (b a : Int) (l0 l1 l2 l3 : Option mx_V) (v2 v3 : mx_V) (S h : mx_H) (n : Int), mx_ex d 263 918 [l0, l1, l2, l3] [(0, b), (0, a), v2, v3] S h n = mx_ex d 263 919 [l0, l1, l2, l3] [(0, mx_w (a + b)), v2, v3] S h n) ∧
  (∀ (d : Nat) (i a : Int) (l0 l1 l2 l3 : Option mx_V) (v2 : mx_V) (S h : mx_H) (n : Int), mx_ex d 263 919 [l0, l1, l2, l3] [(0, i), (2, a), v2] S h n = mx_gd ((S a (-2) = 20 ∨ S a (-2) = 24) ∧ 0 ≤ i ∧ i < S a (-1)) d 263 920 [l0, l1, l2, l3] [(0, h a i), v2] S h n) ∧
  (∀ (d : Nat) (x : Int) (l1 l2 l3 : Option mx_V) (v0 v1 : mx_V) (S h : mx_H) (n : Int), mx_ex d 263 920 [some (2, x), l1, l2, l3] [v0, v1] S h n = mx_ex d 263 921 [some (2, x), l1, l2, l3] [(2, x), v0, v1] S h n) ∧
  (∀ (d : Nat) (x : Int) (l0 l1 l2 : Option mx_V) (v0 v1 v2 : mx_V) (S h : mx_H) (n : Int), mx_ex d 263 921 [l0, l1, l2, some (0, x)] [v0, v1, v2] S h n = mx_ex d 263 922 [l0, l1, l2, some (0, x)] [(0, x), v0, v1, v2] S h n) ∧
  (∀ (d : Nat) (l0 l1 l2 l3 : Option mx_V) (v0 v1 v2 v3 : mx_V) (S h : mx_H) (n : Int), mx_ex d 263 922 [l0, l1, l2, l3] [v0, v1, v2, v3] S h n = mx_ex d 263 923 [l0, l1, l2, l3] [(0, 2), v0, v1, v2, v3] S h n) ∧
  (∀ (d : Nat) (b a : Int) (l0 l1 l2 l3 : Option mx_V) (v2 v3 v4 : mx_V) (S h : mx_H) (n : Int), mx_ex d 263 923 [l0, l1, l2, l3] [(0, b), (0, a), v2, v3, v4] S h n = mx_ex d 263 924 [l0, l1, l2, l3] [(0, mx_w (a + b)), v2, v3, v4] S h n) ∧
  (∀ (d : Nat) (i a : Int) (l0 l1 l2 l3 : Option mx_V) (v2 v3 : mx_V) (S h : mx_H) (n : Int), mx_ex d 263 924 [l0, l1, l2, l3] [(0, i), (2, a), v2, v3] S h n = mx_gd ((S a (-2) = 20 ∨ S a (-2) = 24) ∧ 0 ≤ i ∧ i < S a (-1)) d 263 925 [l0, l1, l2, l3] [(0, h a i), v2, v3] S h n) ∧
  (∀ (d : Nat) (x : Int) (l1 l2 l3 : Option mx_V) (v0 v1 v2 : mx_V) (S h : mx_H) (n : Int), mx_ex d 263 925 [some (2, x), l1, l2, l3] [v0, v1, v2] S h n = mx_ex d 263 926 [some (2, x), l1, l2, l3] [(2, x), v0, v1, v2] S h n) ∧
  (∀ (d : Nat) (x : Int) (l0 l1 l2 : Option mx_V) (v0 v1 v2 v3 : mx_V) (S h : mx_H) (n : Int), mx_ex d 263 926 [l0, l1, l2, some (0, x)] [v0, v1, v2, v3] S h n = mx_ex d 263 927 [l0, l1, l2, some (0, x)] [(0, x), v0, v1, v2, v3] S h n) ∧
  (∀ (d : Nat) (l0 l1 l2 l3 : Option mx_V) (v0 v1 v2 v3 v4 : mx_V) (S h : mx_H) (n : Int), mx_ex d 263 927 [l0, l1, l2, l3] [v0, v1, v2, v3, v4] S h n = mx_ex d 263 928 [l0, l1, l2, l3] [(0, 3), v0, v1, v2, v3, v4] S h n) ∧
  (∀ (d : Nat) (b a : Int) (l0 l1 l2 l3 : Option mx_V) (v2 v3 v4 v5 : mx_V) (S h : mx_H) (n : Int), mx_ex d 263 928 [l0, l1, l2, l3] [(0, b), (0, a), v2, v3, v4, v5] S h n = mx_ex d 263 929 [l0, l1, l2, l3] [(0, mx_w (a + b)), v2, v3, v4, v5] S h n) ∧
  (∀ (d : Nat) (i a : Int) (l0 l1 l2 l3 : Option mx_V) (v2 v3 v4 : mx_V) (S h : mx_H) (n : Int), mx_ex d 263 929 [l0, l1, l2, l3] [(0, i), (2, a), v2, v3, v4] S h n = mx_gd ((S a (-2) = 20 ∨ S a (-2) = 24) ∧ 0 ≤ i ∧ i < S a (-1)) d 263 930 [l0, l1, l2, l3] [(0, h a i), v2, v3, v4] S h n) ∧
  (∀ (d : Nat) (x0 x1 x2 a : Int) (l0 l1 l2 l3 : Option mx_V) (S h : mx_H) (n : Int), mx_ex (d + 1) 263 930 [l0, l1, l2, l3] [(0, x0), (0, x1), (0, x2), (2, a)] S h n = mx_cl (S a (-2) = 7) d 122 [(2, a), (0, x2), (0, x1), (0, x0)] 263 933 [l0, l1, l2, l3] [] S h n) ∧
  (∀ (d : Nat) (x : Int) (l0 l1 l3 : Option mx_V) (v0 : mx_V) (S h : mx_H) (n : Int), mx_ex d 263 933 [l0, l1, some (2, x), l3] [v0] S h n = mx_ex d 263 934 [l0, l1, some (2, x), l3] [(2, x), v0] S h n) ∧
  (∀ (d : Nat) (x : Int) (l1 l2 l3 : Option mx_V) (v0 v1 : mx_V) (S h : mx_H) (n : Int), mx_ex d 263 934 [some (2, x), l1, l2, l3] [v0, v1] S h n = mx_ex d 263 935 [some (2, x), l1, l2, l3] [(2, x), v0, v1] S h n) ∧
  (∀ (d : Nat) (x : Int) (l0 l1 l2 : Option mx_V) (v0 v1 v2 : mx_V) (S h : mx_H) (n : Int), mx_ex d 263 935 [l0, l1, l2, some (0, x)] [v0, v1, v2] S h n = mx_ex d 263 936 [l0, l1, l2, some (0, x)] [(0, x), v0, v1, v2] S h n) ∧
  (∀ (d : Nat) (l0 l1 l2 l3 : Option mx_V) (v0 v1 v2 v3 : mx_V) (S h : mx_H) (n : Int), mx_ex d 263 936 [l0, l1, l2, l3] [v0, v1, v2, v3] S h n = mx_ex d 263 937 [l0, l1, l2, l3] [(0, 1), v0, v1, v2, v3] S h n) ∧
  (∀ (d : Nat) (b a : Int) (l0 l1 l2 l3 : Option mx_V) (v2 v3 v4 : mx_V) (S h : mx_H) (n : Int), mx_ex d 263 937 [l0, l1, l2, l3] [(0, b), (0, a), v2, v3, v4] S h n = mx_ex d 263 938 [l0, l1, l2, l3] [(0, mx_w (a + b)), v2, v3, v4] S h n) ∧
  (∀ (d : Nat) (i a : Int) (l0 l1 l2 l3 : Option mx_V) (v2 v3 : mx_V) (S h : mx_H) (n : Int), mx_ex d 263 938 [l0, l1, l2, l3] [(0, i), (2, a), v2, v3] S h n = mx_gd ((S a (-2) = 20 ∨ S a (-2) = 24) ∧ 0 ≤ i ∧ i < S a (-1)) d 263 939 [l0, l1, l2, l3] [(0, h a i), v2, v3] S h n) ∧
  (∀ (d : Nat) (x : Int) (l1 l2 l3 : Option mx_V) (v0 v1 v2 : mx_V) (S h : mx_H) (n : Int), mx_ex d 263 939 [some (2, x), l1, l2, l3] [v0, v1, v2] S h n = mx_ex d 263 940 [some (2, x), l1, l2, l3] [(2, x), v0, v1, v2] S h n) ∧
  (∀ (d : Nat) (x : Int) (l0 l1 l2 : Option mx_V) (v0 v1 v2 v3 : mx_V) (S h : mx_H) (n : Int), mx_ex d 263 940 [l0, l1, l2, some (0, x)] [v0, v1, v2, v3] S h n = mx_ex d 263 941 [l0, l1, l2, some (0, x)] [(0, x), v0, v1, v2, v3] S h n) ∧
  (∀ (d : Nat) (l0 l1 l2 l3 : Option mx_V) (v0 v1 v2 v3 v4 : mx_V) (S h : mx_H) (n : Int), mx_ex d 263 941 [l0, l1, l2, l3] [v0, v1, v2, v3, v4] S h n = mx_ex d 263 942 [l0, l1, l2, l3] [(0, 2), v0, v1, v2, v3, v4] S h n) ∧
  (∀ (d : Nat) (b a : Int) (l0 l1 l2 l3 : Option mx_V) (v2 v3 v4 v5 : mx_V) (S h : mx_H) (n : Int), mx_ex d 263 942 [l0, l1, l2, l3] [(0, b), (0, a), v2, v3, v4, v5] S h n = mx_ex d 263 943 [l0, l1, l2, l3] [(0, mx_w (a + b)), v2, v3, v4, v5] S h n) ∧
  (∀ (d : Nat) (i a : Int) (l0 l1 l2 l3 : Option mx_V) (v2 v3 v4 : mx_V) (S h : mx_H) (n : Int), mx_ex d 263 943 [l0, l1, l2, l3] [(0, i), (2, a), v2, v3, v4] S h n = mx_gd ((S a (-2) = 20 ∨ S a (-2) = 24) ∧ 0 ≤ i ∧ i < S a (-1)) d 263 944 [l0, l1, l2, l3] [(0, h a i), v2, v3, v4] S h n) ∧
  (∀ (d : Nat) (x : Int) (l1 l2 l3 : Option mx_V) (v0 v1 v2 v3 : mx_V) (S h : mx_H) (n : Int), mx_ex d 263 944 [some (2, x), l1, l2, l3] [v0, v1, v2, v3] S h n = mx_ex d 263 945 [some (2, x), l1, l2, l3] [(2, x), v0, v1, v2, v3] S h n) ∧
  (∀ (d : Nat) (x : Int) (l0 l1 l2 : Option mx_V) (v0 v1 v2 v3 v4 : mx_V) (S h : mx_H) (n : Int), mx_ex d 263 945 [l0, l1, l2, some (0, x)] [v0, v1, v2, v3, v4] S h n = mx_ex d 263 946 [l0, l1, l2, some (0, x)] [(0, x), v0, v1, v2, v3, v4] S h n) ∧
  (∀ (d : Nat) (l0 l1 l2 l3 : Option mx_V) (v0 v1 v2 v3 v4 v5 : mx_V) (S h : mx_H) (n : Int), mx_ex d 263 946 [l0, l1, l2, l3] [v0, v1, v2, v3, v4, v5] S h n = mx_ex d 263 947 [l0, l1, l2, l3] [(0, 3), v0, v1, v2, v3, v4, v5] S h n) ∧
  (∀ (d : Nat) (b a : Int) (l0 l1 l2 l3 : Option mx_V) (v2 v3 v4 v5 v6 : mx_V) (S h : mx_H) (n : Int), mx_ex d 263 947 [l0, l1, l2, l3] [(0, b), (0, a), v2, v3, v4, v5, v6] S h n = mx_ex d 263 948 [l0, l1, l2, l3] [(0, mx_w (a + b)), v2, v3, v4, v5, v6] S h n) ∧
  (∀ (d : Nat) (i a : Int) (l0 l1 l2 l3 : Option mx_V) (v2 v3 v4 v5 : mx_V) (S h : mx_H) (n : Int), mx_ex d 263 948 [l0, l1, l2, l3] [(0, i), (2, a), v2, v3, v4, v5] S h n = mx_gd ((S a (-2) = 20 ∨ S a (-2) = 24) ∧ 0 ≤ i ∧ i < S a (-1)) d 263 949 [l0, l1, l2, l3] [(0, h a i), v2, v3, v4, v5] S h n) ∧
  (∀ (d : Nat) (x0 x1 x2 a : Int) (l0 l1 l2 l3 : Option mx_V) (v4 : mx_V) (S h : mx_H) (n : Int), mx_ex (d + 1) 263 949 [l0, l1, l2, l3] [(0, x0), (0, x1), (0, x2), (2, a), v4] S h n = mx_cl (S a (-2) = 13) d 209 [(2, a), (0, x2), (0, x1), (0, x0)] 263 952 [l0, l1, l2, l3] [v4] S h n) ∧
  (∀ (d : Nat) (b a : Int) (l0 l1 l2 l3 : Option mx_V) (S h : mx_H) (n : Int), mx_ex d 263 952 [l0, l1, l2, l3] [(1, b), (1, a)] S h n = mx_ex d 263 953 [l0, l1, l2, l3] [(0, mx_cmp a b)] S h n) ∧
  (∀ (d : Nat) (a : Int) (l0 l1 l2 l3 : Option mx_V) (S h : mx_H) (n : Int), mx_ex d 263 953 [l0, l1, l2, l3] [(0, a)] S h n = mx_br (a = 0) d 263 1653 956 [l0, l1, l2, l3] [] S h n) ∧
  (∀ (d : Nat) (l0 l1 l2 l3 : Option mx_V) (S h : mx_H) (n : Int), mx_ex d 263 956 [l0, l1, l2, l3] [] S h n = mx_ex d 263 957 [l0, l1, l2, l3] [(0, 0)] S h n) ∧
  (∀ (d : Nat) (x : Int) (l0 l1 l2 l3 : Option mx_V) (S h : mx_H) (n : Int), mx_ex d 263 957 [l0, l1, l2, l3] [(0, x)] S h n = mx_re (0 ≤ x ∧ x ≤ 1) (some (0, x)) S h n) ∧
  (∀ (d : Nat) (x : Int) (l0 l2 l3 : Option mx_V) (S h : mx_H) (n : Int), mx_ex d 263 958 [l0, some (2, x), l2, l3] [] S h n = mx_ex d 263 959 [l0, some (2, x), l2, l3] [(2, x)] S h n) ∧
  (∀ (d : Nat) (x : Int) (l1 l2 l3 : Option mx_V) (v0 : mx_V) (S h : mx_H) (n : Int), mx_ex d 263 959 [some (2, x), l1, l2, l3] [v0] S h n = mx_ex d 263 960 [some (2, x), l1, l2, l3] [(2, x), v0] S h n) ∧
  (∀ (d : Nat) (x : Int) (l0 l1 l2 : Option mx_V) (v0 v1 : mx_V) (S h : mx_H) (n : Int), mx_ex d 263 960 [l0, l1, l2, some (0, x)] [v0, v1] S h n = mx_ex d 263 961 [l0, l1, l2, some (0, x)] [(0, x), v0, v1] S h n) ∧
  (∀ (d : Nat) (l0 l1 l2 l3 : Option mx_V) (v0 v1 v2 : mx_V) (S h : mx_H) (n : Int), mx_ex d 263 961 [l0, l1, l2, l3] [v0, v1, v2] S h n = mx_ex d 263 962 [l0, l1, l2, l3] [(0, 1), v0, v1, v2] S h n) ∧
  (∀ (d : Nat) (b a : Int) (l0 l1 l2 l3 : Option mx_V) (v2 v3 : mx_V) (S h : mx_H) (n : Int), mx_ex d 263 962 [l0, l1, l2, l3] [(0, b), (0, a), v2, v3] S h n = mx_ex d 263 963 [l0, l1, l2, l3] [(0, mx_w (a + b)), v2, v3] S h n) ∧
  (∀ (d : Nat) (i a : Int) (l0 l1 l2 l3 : Option mx_V) (v2 : mx_V) (S h : mx_H) (n : Int), mx_ex d 263 963 [l0, l1, l2, l3] [(0, i), (2, a), v2] S h n = mx_gd ((S a (-2) = 20 ∨ S a (-2) = 24) ∧ 0 ≤ i ∧ i < S a (-1)) d 263 964 [l0, l1, l2, l3] [(0, h a i), v2] S h n) ∧
  (∀ (d : Nat) (x : Int) (l1 l2 l3 : Option mx_V) (v0 v1 : mx_V) (S h : mx_H) (n : Int), mx_ex d 263 964 [some (2, x), l1, l2, l3] [v0, v1] S h n = mx_ex d 263 965 [some (2, x), l1, l2, l3] [(2, x), v0, v1] S h n) :=
  ⟨by intros; exact eq_ld rfl rfl,
   by intros; exact eq_push rfl,
   by intros; exact eq_i2 (o := mx_add) rfl,
   by intros; exact eq_iald rfl,
   by intros; exact eq_cv rfl (Nat.le_of_ble_eq_true rfl) rfl rfl rfl (Nat.le_of_ble_eq_true rfl),
   by intros; exact eq_ic0 rfl,
   by intros; exact eq_push rfl,
   by intros; exact eq_rr rfl,
   by intros; exact eq_ld rfl rfl,
   by intros; exact eq_ld rfl rfl,
   by intros; exact eq_ld rfl rfl,
   by intros; exact eq_push rfl,
   by intros; exact eq_i2 (o := mx_add) rfl,
   by intros; exact eq_iald rfl,
   by intros; exact eq_cv rfl (Nat.le_of_ble_eq_true rfl) rfl rfl rfl (Nat.le_of_ble_eq_true rfl),
   by intros; exact eq_ld rfl rfl,
   by intros; exact eq_ld rfl rfl,
   by intros; exact eq_ld rfl rfl,
   by intros; exact eq_push rfl,
   by intros; exact eq_i2 (o := mx_add) rfl,
   by intros; exact eq_iald rfl,
   by intros; exact eq_cv rfl (Nat.le_of_ble_eq_true rfl) rfl rfl rfl (Nat.le_of_ble_eq_true rfl),
   by intros; exact eq_ic0 rfl,
   by intros; exact eq_push rfl,
   by intros; exact eq_rr rfl,
   by intros; exact eq_ld rfl rfl,
   by intros; exact eq_ld rfl rfl,
   by intros; exact eq_ld rfl rfl,
   by intros; exact eq_push rfl,
   by intros; exact eq_i2 (o := mx_add) rfl,
   by intros; exact eq_iald rfl,
   by intros; exact eq_ld rfl rfl,
   by intros; exact eq_ld rfl rfl,
   by intros; exact eq_push rfl,
   by intros; exact eq_i2 (o := mx_add) rfl,
   by intros; exact eq_iald rfl,
   by intros; exact eq_ld rfl rfl,
   by intros; exact eq_ld rfl rfl,
   by intros; exact eq_push rfl,
   by intros; exact eq_i2 (o := mx_add) rfl,
   by intros; exact eq_iald rfl,
   by intros; exact eq_cv rfl (Nat.le_of_ble_eq_true rfl) rfl rfl rfl (Nat.le_of_ble_eq_true rfl),
   by intros; exact eq_ld rfl rfl,
   by intros; exact eq_ld rfl rfl,
   by intros; exact eq_ld rfl rfl,
   by intros; exact eq_push rfl,
   by intros; exact eq_i2 (o := mx_add) rfl,
   by intros; exact eq_iald rfl,
   by intros; exact eq_ld rfl rfl,
   by intros; exact eq_ld rfl rfl,
   by intros; exact eq_push rfl,
   by intros; exact eq_i2 (o := mx_add) rfl,
   by intros; exact eq_iald rfl,
   by intros; exact eq_ld rfl rfl,
   by intros; exact eq_ld rfl rfl,
   by intros; exact eq_push rfl,
   by intros; exact eq_i2 (o := mx_add) rfl,
   by intros; exact eq_iald rfl,
   by intros; exact eq_cv rfl (Nat.le_of_ble_eq_true rfl) rfl rfl rfl (Nat.le_of_ble_eq_true rfl),
   by intros; exact eq_lcmp rfl,
   by intros; exact eq_if0 rfl,
   by intros; exact eq_push rfl,
   by intros; exact eq_rr rfl,
   by intros; exact eq_ld rfl rfl,
   by intros; exact eq_ld rfl rfl,
   by intros; exact eq_ld rfl rfl,
   by intros; exact eq_push rfl,
   by intros; exact eq_i2 (o := mx_add) rfl,
   by intros; exact eq_iald rfl,
   by intros; exact eq_ld rfl rfl⟩
theorem rw_L_law_9 :
  (∀ (d : Nat) (x : Int) (l0 l1 l2 : Option mx_V) (v0 v1 v2 : mx_V) (S h : mx_H) (n : Int), mx_ex d 263 965 [l0, l1, l2, some (0, x)] [v0, v1, v2] S h n = mx_ex d 263 966 [l0, l1, l2, some (0, x)] [(0, x), v0, v1, v2] S h n) ∧
  (∀ (d : Nat) (l0 l1 l2 l3 : Option mx_V) (v0 v1 v2 v3 : mx_V) (S h : mx_H) (n : Int), mx_ex d 263 966 [l0, l1, l2, l3] [v0, v1, v2, v3] S h n = mx_ex d 263 967 [l0, l1, l2, l3] [(0, 2), v0, v1, v2, v3] S h n) ∧
  (∀ (d : Nat) (b a : Int) (l0 l1 l2 l3 : Option mx_V) (v2 v3 v4 : mx_V) (S h : mx_H) (n : Int), mx_ex d 263 967 [l0, l1, l2, l3] [(0, b), (0, a), v2, v3, v4] S h n = mx_ex d 263 968 [l0, l1, l2, l3] [(0, mx_w (a + b)), v2, v3, v4] S h n) ∧
  (∀ (d : Nat) (i a : Int) (l0 l1 l2 l3 : Option mx_V) (v2 v3 : mx_V) (S h : mx_H) (n : Int), mx_ex d 263 968 [l0, l1, l2, l3] [(0, i), (2, a), v2, v3] S h n = mx_gd ((S a (-2) = 20 ∨ S a (-2) = 24) ∧ 0 ≤ i ∧ i < S a (-1)) d 263 969 [l0, l1, l2, l3] [(0, h a i), v2, v3] S h n) ∧
  (∀ (d : Nat) (x : Int) (l1 l2 l3 : Option mx_V) (v0 v1 v2 : mx_V) (S h : mx_H) (n : Int), mx_ex d 263 969 [some (2, x), l1, l2, l3] [v0, v1, v2] S h n = mx_ex d 263 970 [some (2, x), l1, l2, l3] [(2, x), v0, v1, v2] S h n) ∧
  (∀ (d : Nat) (x : Int) (l0 l1 l2 : Option mx_V) (v0 v1 v2 v3 : mx_V) (S h : mx_H) (n : Int), mx_ex d 263 970 [l0, l1, l2, some (0, x)] [v0, v1, v2, v3] S h n = mx_ex d 263 971 [l0, l1, l2, some (0, x)] [(0, x), v0, v1, v2, v3] S h n) ∧
  (∀ (d : Nat) (l0 l1 l2 l3 : Option mx_V) (v0 v1 v2 v3 v4 : mx_V) (S h : mx_H) (n : Int), mx_ex d 263 971 [l0, l1, l2, l3] [v0, v1, v2, v3, v4] S h n = mx_ex d 263 972 [l0, l1, l2, l3] [(0, 3), v0, v1, v2, v3, v4] S h n) ∧
  (∀ (d : Nat) (b a : Int) (l0 l1 l2 l3 : Option mx_V) (v2 v3 v4 v5 : mx_V) (S h : mx_H) (n : Int), mx_ex d 263 972 [l0, l1, l2, l3] [(0, b), (0, a), v2, v3, v4, v5] S h n = mx_ex d 263 973 [l0, l1, l2, l3] [(0, mx_w (a + b)), v2, v3, v4, v5] S h n) ∧
  (∀ (d : Nat) (i a : Int) (l0 l1 l2 l3 : Option mx_V) (v2 v3 v4 : mx_V) (S h : mx_H) (n : Int), mx_ex d 263 973 [l0, l1, l2, l3] [(0, i), (2, a), v2, v3, v4] S h n = mx_gd ((S a (-2) = 20 ∨ S a (-2) = 24) ∧ 0 ≤ i ∧ i < S a (-1)) d 263 974 [l0, l1, l2, l3] [(0, h a i), v2, v3, v4] S h n) ∧
  (∀ (d : Nat) (x0 x1 x2 a : Int) (l0 l1 l2 l3 : Option mx_V) (S h : mx_H) (n : Int), mx_ex (d + 1) 263 974 [l0, l1, l2, l3] [(0, x0), (0, x1), (0, x2), (2, a)] S h n = mx_cl (S a (-2) = 7) d 123 [(2, a), (0, x2), (0, x1), (0, x0)] 263 977 [l0, l1, l2, l3] [] S h n) ∧
  (∀ (d : Nat) (x : Int) (l0 l1 l3 : Option mx_V) (v0 : mx_V) (S h : mx_H) (n : Int), mx_ex d 263 977 [l0, l1, some (2, x), l3] [v0] S h n = mx_ex d 263 978 [l0, l1, some (2, x), l3] [(2, x), v0] S h n) ∧
  (∀ (d : Nat) (x : Int) (l1 l2 l3 : Option mx_V) (v0 v1 : mx_V) (S h : mx_H) (n : Int), mx_ex d 263 978 [some (2, x), l1, l2, l3] [v0, v1] S h n = mx_ex d 263 979 [some (2, x), l1, l2, l3] [(2, x), v0, v1] S h n) ∧
  (∀ (d : Nat) (x : Int) (l0 l1 l2 : Option mx_V) (v0 v1 v2 : mx_V) (S h : mx_H) (n : Int), mx_ex d 263 979 [l0, l1, l2, some (0, x)] [v0, v1, v2] S h n = mx_ex d 263 980 [l0, l1, l2, some (0, x)] [(0, x), v0, v1, v2] S h n) ∧
  (∀ (d : Nat) (l0 l1 l2 l3 : Option mx_V) (v0 v1 v2 v3 : mx_V) (S h : mx_H) (n : Int), mx_ex d 263 980 [l0, l1, l2, l3] [v0, v1, v2, v3] S h n = mx_ex d 263 981 [l0, l1, l2, l3] [(0, 1), v0, v1, v2, v3] S h n) ∧
  (∀ (d : Nat) (b a : Int) (l0 l1 l2 l3 : Option mx_V) (v2 v3 v4 : mx_V) (S h : mx_H) (n : Int), mx_ex d 263 981 [l0, l1, l2, l3] [(0, b), (0, a), v2, v3, v4] S h n = mx_ex d 263 982 [l0, l1, l2, l3] [(0, mx_w (a + b)), v2, v3, v4] S h n) ∧
  (∀ (d : Nat) (i a : Int) (l0 l1 l2 l3 : Option mx_V) (v2 v3 : mx_V) (S h : mx_H) (n : Int), mx_ex d 263 982 [l0, l1, l2, l3] [(0, i), (2, a), v2, v3] S h n = mx_gd ((S a (-2) = 20 ∨ S a (-2) = 24) ∧ 0 ≤ i ∧ i < S a (-1)) d 263 983 [l0, l1, l2, l3] [(0, h a i), v2, v3] S h n) ∧
  (∀ (d : Nat) (x : Int) (l1 l2 l3 : Option mx_V) (v0 v1 v2 : mx_V) (S h : mx_H) (n : Int), mx_ex d 263 983 [some (2, x), l1, l2, l3] [v0, v1, v2] S h n = mx_ex d 263 984 [some (2, x), l1, l2, l3] [(2, x), v0, v1, v2] S h n) ∧
  (∀ (d : Nat) (x : Int) (l0 l1 l2 : Option mx_V) (v0 v1 v2 v3 : mx_V) (S h : mx_H) (n : Int), mx_ex d 263 984 [l0, l1, l2, some (0, x)] [v0, v1, v2, v3] S h n = mx_ex d 263 985 [l0, l1, l2, some (0, x)] [(0, x), v0, v1, v2, v3] S h n) ∧
  (∀ (d : Nat) (l0 l1 l2 l3 : Option mx_V) (v0 v1 v2 v3 v4 : mx_V) (S h : mx_H) (n : Int), mx_ex d 263 985 [l0, l1, l2, l3] [v0, v1, v2, v3, v4] S h n = mx_ex d 263 986 [l0, l1, l2, l3] [(0, 2), v0, v1, v2, v3, v4] S h n) ∧
  (∀ (d : Nat) (b a : Int) (l0 l1 l2 l3 : Option mx_V) (v2 v3 v4 v5 : mx_V) (S h : mx_H) (n : Int), mx_ex d 263 986 [l0, l1, l2, l3] [(0, b), (0, a), v2, v3, v4, v5] S h n = mx_ex d 263 987 [l0, l1, l2, l3] [(0, mx_w (a + b)), v2, v3, v4, v5] S h n) ∧
  (∀ (d : Nat) (i a : Int) (l0 l1 l2 l3 : Option mx_V) (v2 v3 v4 : mx_V) (S h : mx_H) (n : Int), mx_ex d 263 987 [l0, l1, l2, l3] [(0, i), (2, a), v2, v3, v4] S h n = mx_gd ((S a (-2) = 20 ∨ S a (-2) = 24) ∧ 0 ≤ i ∧ i < S a (-1)) d 263 988 [l0, l1, l2, l3] [(0, h a i), v2, v3, v4] S h n) ∧
  (∀ (d : Nat) (x : Int) (l1 l2 l3 : Option mx_V) (v0 v1 v2 v3 : mx_V) (S h : mx_H) (n : Int), mx_ex d 263 988 [some (2, x), l1, l2, l3] [v0, v1, v2, v3] S h n = mx_ex d 263 989 [some (2, x), l1, l2, l3] [(2, x), v0, v1, v2, v3] S h n) ∧
  (∀ (d : Nat) (x : Int) (l0 l1 l2 : Option mx_V) (v0 v1 v2 v3 v4 : mx_V) (S h : mx_H) (n : Int), mx_ex d 263 989 [l0, l1, l2, some (0, x)] [v0, v1, v2, v3, v4] S h n = mx_ex d 263 990 [l0, l1, l2, some (0, x)] [(0, x), v0, v1, v2, v3, v4] S h n) ∧
  (∀ (d : Nat) (l0 l1 l2 l3 : Option mx_V) (v0 v1 v2 v3 v4 v5 : mx_V) (S h : mx_H) (n : Int), mx_ex d 263 990 [l0, l1, l2, l3] [v0, v1, v2, v3, v4, v5] S h n = mx_ex d 263 991 [l0, l1, l2, l3] [(0, 3), v0, v1, v2, v3, v4, v5] S h n) ∧
  (∀ (d : Nat) (b a : Int) (l0 l1 l2 l3 : Option mx_V) (v2 v3 v4 v5 v6 : mx_V) (S h : mx_H) (n : Int), mx_ex d 263 991 [l0, l1, l2, l3] [(0, b), (0, a), v2, v3, v4, v5, v6] S h n = mx_ex d 263 992 [l0, l1, l2, l3] [(0, mx_w (a + b)), v2, v3, v4, v5, v6] S h n) ∧
  (∀ (d : Nat) (i a : Int) (l0 l1 l2 l3 : Option mx_V) (v2 v3 v4 v5 : mx_V) (S h : mx_H) (n : Int), mx_ex d 263 992 [l0, l1, l2, l3] [(0, i), (2, a), v2, v3, v4, v5] S h n = mx_gd ((S a (-2) = 20 ∨ S a (-2) = 24) ∧ 0 ≤ i ∧ i < S a (-1)) d 263 993 [l0, l1, l2, l3] [(0, h a i), v2, v3, v4, v5] S h n) ∧
  (∀ (d : Nat) (x0 x1 x2 a : Int) (l0 l1 l2 l3 : Option mx_V) (v4 : mx_V) (S h : mx_H) (n : Int), mx_ex (d + 1) 263 993 [l0, l1, l2, l3] [(0, x0), (0, x1), (0, x2), (2, a), v4] S h n = mx_cl (S a (-2) = 13) d 212 [(2, a), (0, x2), (0, x1), (0, x0)] 263 996 [l0, l1, l2, l3] [v4] S h n) ∧
  (∀ (d : Nat) (b a : Int) (l0 l1 l2 l3 : Option mx_V) (S h : mx_H) (n : Int), mx_ex d 263 996 [l0, l1, l2, l3] [(0, b), (0, a)] S h n = mx_br (a = b) d 263 1653 999 [l0, l1, l2, l3] [] S h n) ∧
  (∀ (d : Nat) (l0 l1 l2 l3 : Option mx_V) (S h : mx_H) (n : Int), mx_ex d 263 999 [l0, l1, l2, l3] [] S h n = mx_ex d 263 1000 [l0, l1, l2, l3] [(0, 0)] S h n) ∧
  (∀ (d : Nat) (x : Int) (l0 l1 l2 l3 : Option mx_V) (S h : mx_H) (n : Int), mx_ex d 263 1000 [l0, l1, l2, l3] [(0, x)] S h n = mx_re (0 ≤ x ∧ x ≤ 1) (some (0, x)) S h n) ∧
  (∀ (d : Nat) (x : Int) (l0 l2 l3 : Option mx_V) (S h : mx_H) (n : Int), mx_ex d 263 1001 [l0, some (2, x), l2, l3] [] S h n = mx_ex d 263 1002 [l0, some (2, x), l2, l3] [(2, x)] S h n) ∧
  (∀ (d : Nat) (x : Int) (l1 l2 l3 : Option mx_V) (v0 : mx_V) (S h : mx_H) (n : Int), mx_ex d 263 1002 [some (2, x), l1, l2, l3] [v0] S h n = mx_ex d 263 1003 [some (2, x), l1, l2, l3] [(2, x), v0] S h n) ∧
  (∀ (d : Nat) (x : Int) (l0 l1 l2 : Option mx_V) (v0 v1 : mx_V) (S h : mx_H) (n : Int), mx_ex d 263 1003 [l0, l1, l2, some (0, x)] [v0, v1] S h n = mx_ex d 263 1004 [l0, l1, l2, some (0, x)] [(0, x), v0, v1] S h n) ∧
  (∀ (d : Nat) (l0 l1 l2 l3 : Option mx_V) (v0 v1 v2 : mx_V) (S h : mx_H) (n : Int), mx_ex d 263 1004 [l0, l1, l2, l3] [v0, v1, v2] S h n = mx_ex d 263 1005 [l0, l1, l2, l3] [(0, 1), v0, v1, v2] S h n) ∧
  (∀ (d : Nat) (b a : Int) (l0 l1 l2 l3 : Option mx_V) (v2 v3 : mx_V) (S h : mx_H) (n : Int), mx_ex d 263 1005 [l0, l1, l2, l3] [(0, b), (0, a), v2, v3] S h n = mx_ex d 263 1006 [l0, l1, l2, l3] [(0, mx_w (a + b)), v2, v3] S h n) ∧
  (∀ (d : Nat) (i a : Int) (l0 l1 l2 l3 : Option mx_V) (v2 : mx_V) (S h : mx_H) (n : Int), mx_ex d 263 1006 [l0, l1, l2, l3] [(0, i), (2, a), v2] S h n = mx_gd ((S a (-2) = 20 ∨ S a (-2) = 24) ∧ 0 ≤ i ∧ i < S a (-1)) d 263 1007 [l0, l1, l2, l3] [(0, h a i), v2] S h n) ∧
  (∀ (d : Nat) (x : Int) (l1 l2 l3 : Option mx_V) (v0 v1 : mx_V) (S h : mx_H) (n : Int), mx_ex d 263 1007 [some (2, x), l1, l2, l3] [v0, v1] S h n = mx_ex d 263 1008 [some (2, x), l1, l2, l3] [(2, x), v0, v1] S h n) ∧
  (∀ (d : Nat) (x : Int) (l0 l1 l2 : Option mx_V) (v0 v1 v2 : mx_V) (S h : mx_H) (n : Int), mx_ex d 263 1008 [l0, l1, l2, some (0, x)] [v0, v1, v2] S h n = mx_ex d 263 1009 [l0, l1, l2, some (0, x)] [(0, x), v0, v1, v2] S h n) ∧
  (∀ (d : Nat) (l0 l1 l2 l3 : Option mx_V) (v0 v1 v2 v3 : mx_V) (S h : mx_H) (n : Int), mx_ex d 263 1009 [l0, l1, l2, l3] [v0, v1, v2, v3] S h n = mx_ex d 263 1010 [l0, l1, l2, l3] [(0, 2), v0, v1, v2, v3] S h n) ∧
  (∀ (d : Nat) (b a : Int) (l0 l1 l2 l3 : Option mx_V) (v2 v3 v4 : mx_V) (S h : mx_H) (n : Int), mx_ex d 263 1010 [l0, l1, l2, l3] [(0, b), (0, a), v2, v3, v4] S h n = mx_ex d 263 1011 [l0, l1, l2, l3] [(0, mx_w (a + b)), v2, v3, v4] S h n) ∧
  (∀ (d : Nat) (i a : Int) (l0 l1 l2 l3 : Option mx_V) (v2 v3 : mx_V) (S h : mx_H) (n : Int), mx_ex d 263 1011 [l0, l1, l2, l3] [(0, i), (2, a), v2, v3] S h n = mx_gd ((S a (-2) = 20 ∨ S a (-2) = 24) ∧ 0 ≤ i ∧ i < S a (-1)) d 263 1012 [l0, l1, l2, l3] [(0, h a i), v2, v3] S h n) ∧
  (∀ (d : Nat) (x0 x1 a : Int) (l0 l1 l2 l3 : Option mx_V) (S h : mx_H) (n : Int), mx_ex (d + 1) 263 1012 [l0, l1, l2, l3] [(0, x0), (0, x1), (2, a)] S h n = mx_cl (S a (-2) = 7) d 124 [(2, a), (0, x1), (0, x0)] 263 1015 [l0, l1, l2, l3] [] S h n) ∧
  (∀ (d : Nat) (x : Int) (l0 l1 l3 : Option mx_V) (v0 : mx_V) (S h : mx_H) (n : Int), mx_ex d 263 1015 [l0, l1, some (2, x), l3] [v0] S h n = mx_ex d 263 1016 [l0, l1, some (2, x), l3] [(2, x), v0] S h n) ∧
  (∀ (d : Nat) (x : Int) (l1 l2 l3 : Option mx_V) (v0 v1 : mx_V) (S h : mx_H) (n : Int), mx_ex d 263 1016 [some (2, x), l1, l2, l3] [v0, v1] S h n = mx_ex d 263 1017 [some (2, x), l1, l2, l3] [(2, x), v0, v1] S h n) ∧
  (∀ (d : Nat) (x : Int) (l0 l1 l2 : Option mx_V) (v0 v1 v2 : mx_V) (S h : mx_H) (n : Int), mx_ex d 263 1017 [l0, l1, l2, some (0, x)] [v0, v1, v2] S h n = mx_ex d 263 1018 [l0, l1, l2, some (0, x)] [(0, x), v0, v1, v2] S h n) ∧
  (∀ (d : Nat) (l0 l1 l2 l3 : Option mx_V) (v0 v1 v2 v3 : mx_V) (S h : mx_H) (n : Int), mx_ex d 263 1018 [l0, l1, l2, l3] [v0, v1, v2, v3] S h n = mx_ex d 263 1019 [l0, l1, l2, l3] [(0, 1), v0, v1, v2, v3] S h n) ∧
  (∀ (d : Nat) (b a : Int) (l0 l1 l2 l3 : Option mx_V) (v2 v3 v4 : mx_V) (S h : mx_H) (n : Int), mx_ex d 263 1019 [l0, l1, l2, l3] [(0, b), (0, a), v2, v3, v4] S h n = mx_ex d 263 1020 [l0, l1, l2, l3] [(0, mx_w (a + b)), v2, v3, v4] S h n) ∧
  (∀ (d : Nat) (i a : Int) (l0 l1 l2 l3 : Option mx_V) (v2 v3 : mx_V) (S h : mx_H) (n : Int), mx_ex d 263 1020 [l0, l1, l2, l3] [(0, i), (2, a), v2, v3] S h n = mx_gd ((S a (-2) = 20 ∨ S a (-2) = 24) ∧ 0 ≤ i ∧ i < S a (-1)) d 263 1021 [l0, l1, l2, l3] [(0, h a i), v2, v3] S h n) ∧
  (∀ (d : Nat) (x : Int) (l1 l2 l3 : Option mx_V) (v0 v1 v2 : mx_V) (S h : mx_H) (n : Int), mx_ex d 263 1021 [some (2, x), l1, l2, l3] [v0, v1, v2] S h n = mx_ex d 263 1022 [some (2, x), l1, l2, l3] [(2, x), v0, v1, v2] S h n) ∧
  (∀ (d : Nat) (x : Int) (l0 l1 l2 : Option mx_V) (v0 v1 v2 v3 : mx_V) (S h : mx_H) (n : Int), mx_ex d 263 1022 [l0, l1, l2, some (0, x)] [v0, v1, v2, v3] S h n = mx_ex d 263 1023 [l0, l1, l2, some (0, x)] [(0, x), v0, v1, v2, v3] S h n) ∧
  (∀ (d : Nat) (l0 l1 l2 l3 : Option mx_V) (v0 v1 v2 v3 v4 : mx_V) (S h : mx_H) (n : Int), mx_ex d 263 1023 [l0, l1, l2, l3] [v0, v1, v2, v3, v4] S h n = mx_ex d 263 1024 [l0, l1, l2, l3] [(0, 2), v0, v1, v2, v3, v4] S h n) ∧
  (∀ (d : Nat) (b a : Int) (l0 l1 l2 l3 : Option mx_V) (v2 v3 v4 v5 : mx_V) (S h : mx_H) (n : Int), mx_ex d 263 1024 [l0, l1, l2, l3] [(0, b), (0, a), v2, v3, v4, v5] S h n = mx_ex d 263 1025 [l0, l1, l2, l3] [(0, mx_w (a + b)), v2, v3, v4, v5] S h n) ∧
  (∀ (d : Nat) (i a : Int) (l0 l1 l2 l3 : Option mx_V) (v2 v3 v4 : mx_V) (S h : mx_H) (n : Int), mx_ex d 263 1025 [l0, l1, l2, l3] [(0, i), (2, a), v2, v3, v4] S h n = mx_gd ((S a (-2) = 20 ∨ S a (-2) = 24) ∧ 0 ≤ i ∧ i < S a (-1)) d 263 1026 [l0, l1, l2, l3] [(0, h a i), v2, v3, v4] S h n) ∧
  (∀ (d : Nat) (x0 x1 a : Int) (l0 l1 l2 l3 : Option mx_V) (v3 : mx_V) (S h : mx_H) (n : Int), mx_ex (d + 1) 263 1026 [l0, l1, l2, l3] [(0, x0), (0, x1), (2, a), v3] S h n = mx_cl (S a (-2) = 13) d 215 [(2, a), (0, x1), (0, x0)] 263 1029 [l0, l1, l2, l3] [v3] S h n) ∧
  (∀ (d : Nat) (b a : Int) (l0 l1 l2 l3 : Option mx_V) (S h : mx_H) (n : Int), mx_ex d 263 1029 [l0, l1, l2, l3] [(0, b), (0, a)] S h n = mx_br (a = b) d 263 1653 1032 [l0, l1, l2, l3] [] S h n) ∧
  (∀ (d : Nat) (l0 l1 l2 l3 : Option mx_V) (S h : mx_H) (n : Int), mx_ex d 263 1032 [l0, l1, l2, l3] [] S h n = mx_ex d 263 1033 [l0, l1, l2, l3] [(0, 0)] S h n) ∧
  (∀ (d : Nat) (x : Int) (l0 l1 l2 l3 : Option mx_V) (S h : mx_H) (n : Int), mx_ex d 263 1033 [l0, l1, l2, l3] [(0, x)] S h n = mx_re (0 ≤ x ∧ x ≤ 1) (some (0, x)) S h n) ∧
  (∀ (d : Nat) (x : Int) (l0 l2 l3 : Option mx_V) (S h : mx_H) (n : Int), mx_ex d 263 1034 [l0, some (2, x), l2, l3] [] S h n = mx_ex d 263 1035 [l0, some (2, x), l2, l3] [(2, x)] S h n) ∧
  (∀ (d : Nat) (x : Int) (l1 l2 l3 : Option mx_V) (v0 : mx_V) (S h : mx_H) (n : Int), mx_ex d 263 1035 [some (2, x), l1, l2, l3] [v0] S h n = mx_ex d 263 1036 [some (2, x), l1, l2, l3] [(2, x), v0] S h n) ∧
  (∀ (d : Nat) (x : Int) (l0 l1 l2 : Option mx_V) (v0 v1 : mx_V) (S h : mx_H) (n : Int), mx_ex d 263 1036 [l0, l1, l2, some (0, x)] [v0, v1] S h n = mx_ex d 263 1037 [l0, l1, l2, some (0, x)] [(0, x), v0, v1] S h n) ∧
  (∀ (d : Nat) (l0 l1 l2 l3 : Option mx_V) (v0 v1 v2 : mx_V) (S h : mx_H) (n : Int), mx_ex d 263 1037 [l0, l1, l2, l3] [v0, v1, v2] S h n = mx_ex d 263 1038 [l0, l1, l2, l3] [(0, 1), v0, v1, v2] S h n) ∧
  (∀ (d : Nat) (b a : Int) (l0 l1 l2 l3 : Option mx_V) (v2 v3 : mx_V) (S h : mx_H) (n : Int), mx_ex d 263 1038 [l0, l1, l2, l3] [(0, b), (0, a), v2, v3] S h n = mx_ex d 263 1039 [l0, l1, l2, l3] [(0, mx_w (a + b)), v2, v3] S h n) ∧
  (∀ (d : Nat) (i a : Int) (l0 l1 l2 l3 : Option mx_V) (v2 : mx_V) (S h : mx_H) (n : Int), mx_ex d 263 1039 [l0, l1, l2, l3] [(0, i), (2, a), v2] S h n = mx_gd ((S a (-2) = 20 ∨ S a (-2) = 24) ∧ 0 ≤ i ∧ i < S a (-1)) d 263 1040 [l0, l1, l2, l3] [(0, h a i), v2] S h n) ∧
  (∀ (d : Nat) (x : Int) (l1 l2 l3 : Option mx_V) (v0 v1 : mx_V) (S h : mx_H) (n : Int), mx_ex d 263 1040 [some (2, x), l1, l2, l3] [v0, v1] S h n = mx_ex d 263 1041 [some (2, x), l1, l2, l3] [(2, x), v0, v1] S h n) ∧
  (∀ (d : Nat) (x : Int) (l0 l1 l2 : Option mx_V) (v0 v1 v2 : mx_V) (S h : mx_H) (n : Int), mx_ex d 263 1041 [l0, l1, l2, some (0, x)] [v0, v1, v2] S h n = mx_ex d 263 1042 [l0, l1, l2, some (0, x)] [(0, x), v0, v1, v2] S h n) ∧
  (∀ (d : Nat) (l0 l1 l2 l3 : Option mx_V) (v0 v1 v2 v3 : mx_V) (S h : mx_H) (n : Int), mx_ex d 263 1042 [l0, l1, l2, l3] [v0, v1, v2, v3] S h n = mx_ex d 263 1043 [l0, l1, l2, l3] [(0, 2), v0, v1, v2, v3] S h n) ∧
  (∀ (d : Nat) (b a : Int) (l0 l1 l2 l3 : Option mx_V) (v2 v3 v4 : mx_V) (S h : mx_H) (n : Int), mx_ex d 263 1043 [l0, l1, l2, l3] [(0, b), (0, a), v2, v3, v4] S h n = mx_ex d 263 1044 [l0, l1, l2, l3] [(0, mx_w (a + b)), v2, v3, v4] S h n) ∧
  (∀ (d : Nat) (i a : Int) (l0 l1 l2 l3 : Option mx_V) (v2 v3 : mx_V) (S h : mx_H) (n : Int), mx_ex d 263 1044 [l0, l1, l2, l3] [(0, i), (2, a), v2, v3] S h n = mx_gd ((S a (-2) = 20 ∨ S a (-2) = 24) ∧ 0 ≤ i ∧ i < S a (-1)) d 263 1045 [l0, l1, l2, l3] [(0, h a i), v2, v3] S h n) ∧
  (∀ (d : Nat) (x0 x1 a : Int) (l0 l1 l2 l3 : Option mx_V) (S h : mx_H) (n : Int), mx_ex (d + 1) 263 1045 [l0, l1, l2, l3] [(0, x0), (0, x1), (2, a)] S h n = mx_cl (S a (-2) = 7) d 125 [(2, a), (0, x1), (0, x0)] 263 1048 [l0, l1, l2, l3] [] S h n) ∧
  (∀ (d : Nat) (x : Int) (l0 l1 l3 : Option mx_V) (v0 : mx_V) (S h : mx_H) (n : Int), mx_ex d 263 1048 [l0, l1, some (2, x), l3] [v0] S h n = mx_ex d 263 1049 [l0, l1, some (2, x), l3] [(2, x), v0] S h n) :=
  ⟨by intros; exact eq_ld rfl rfl,
   by intros; exact eq_push rfl,
   by intros; exact eq_i2 (o := mx_add) rfl,
   by intros; exact eq_iald rfl,
   by intros; exact eq_ld rfl rfl,
   by intros; exact eq_ld rfl rfl,
   by intros; exact eq_push rfl,
   by intros; exact eq_i2 (o := mx_add) rfl,
   by intros; exact eq_iald rfl,
   by intros; exact eq_cv rfl (Nat.le_of_ble_eq_true rfl) rfl rfl rfl (Nat.le_of_ble_eq_true rfl),
   by intros; exact eq_ld rfl rfl,
   by intros; exact eq_ld rfl rfl,
   by intros; exact eq_ld rfl rfl,
   by intros; exact eq_push rfl,
   by intros; exact eq_i2 (o := mx_add) rfl,
   by intros; exact eq_iald rfl,
   by intros; exact eq_ld rfl rfl,
   by intros; exact eq_ld rfl rfl,
   by intros; exact eq_push rfl,
   by intros; exact eq_i2 (o := mx_add) rfl,
   by intros; exact eq_iald rfl,
   by intros; exact eq_ld rfl rfl,
   by intros; exact eq_ld rfl rfl,
   by intros; exact eq_push rfl,
   by intros; exact eq_i2 (o := mx_add) rfl,
   by intros; exact eq_iald rfl,
   by intros; exact eq_cv rfl (Nat.le_of_ble_eq_true rfl) rfl rfl rfl (Nat.le_of_ble_eq_true rfl),
   by intros; exact eq_ic0 rfl,
   by intros; exact eq_push rfl,
   by intros; exact eq_rr rfl,
   by intros; exact eq_ld rfl rfl,
   by intros; exact eq_ld rfl rfl,
   by intros; exact eq_ld rfl rfl,
   by intros; exact eq_push rfl,
   by intros; exact eq_i2 (o := mx_add) rfl,
   by intros; exact eq_iald rfl,
   by intros; exact eq_ld rfl rfl,
   by intros; exact eq_ld rfl rfl,
   by intros; exact eq_push rfl,
   by intros; exact eq_i2 (o := mx_add) rfl,
   by intros; exact eq_iald rfl,
   by intros; exact eq_cv rfl (Nat.le_of_ble_eq_true rfl) rfl rfl rfl (Nat.le_of_ble_eq_true rfl),
   by intros; exact eq_ld rfl rfl,
   by intros; exact eq_ld rfl rfl,
   by intros; exact eq_ld rfl rfl,
   by intros; exact eq_push rfl,
   by intros; exact eq_i2 (o := mx_add) rfl,
   by intros; exact eq_iald rfl,
   by intros; exact eq_ld rfl rfl,
   by intros; exact eq_ld rfl rfl,
   by intros; exact eq_push rfl,
   by intros; exact eq_i2 (o := mx_add) rfl,
   by intros; exact eq_iald rfl,
   by intros; exact eq_cv rfl (Nat.le_of_ble_eq_true rfl) rfl rfl rfl (Nat.le_of_ble_eq_true rfl),
   by intros; exact eq_ic0 rfl,
   by intros; exact eq_push rfl,
   by intros; exact eq_rr rfl,
   by intros; exact eq_ld rfl rfl,
   by intros; exact eq_ld rfl rfl,
   by intros; exact eq_ld rfl rfl,
   by intros; exact eq_push rfl,
   by intros; exact eq_i2 (o := mx_add) rfl,
   by intros; exact eq_iald rfl,
   by intros; exact eq_ld rfl rfl,
   by intros; exact eq_ld rfl rfl,
   by intros; exact eq_push rfl,
   by intros; exact eq_i2 (o := mx_add) rfl,
   by intros; exact eq_iald rfl,
   by intros; exact eq_cv rfl (Nat.le_of_ble_eq_true rfl) rfl rfl rfl (Nat.le_of_ble_eq_true rfl),
   by intros; exact eq_ld rfl rfl⟩
theorem rw_L_law_10 :
  (∀ (d : Nat) (x : Int) (l1 l2 l3 : Option mx_V) (v0 v1 : mx_V) (S h : mx_H) (n : Int), mx_ex d 263 1049 [some (2, x), l1, l2, l3] [v0, v1] S h n = mx_ex d 263 1050 [some (2, x), l1, l2, l3] [(2, x), v0, v1] S h n) ∧
  (∀ (d : Nat) (x : Int) (l0 l1 l2 : Option mx_V) (v0 v1 v2 : mx_V) (S h : mx_H) (n : Int), mx_ex d 263 1050 [l0, l1, l2, some (0, x)] [v0, v1, v2] S h n = mx_ex d 263 1051 [l0, l1, l2, some (0, x)] [(0, x), v0, v1, v2] S h n) ∧
  (∀ (d : Nat) (l0 l1 l2 l3 : Option mx_V) (v0 v1 v2 v3 : mx_V) (S h : mx_H) (n : Int), mx_ex d 263 1051 [l0, l1, l2, l3] [v0, v1, v2, v3] S h n = mx_ex d 263 1052 [l0, l1, l2, l3] [(0, 1), v0, v1, v2, v3] S h n) ∧
  (∀ (d : Nat) (b a : Int) (l0 l1 l2 l3 : Option mx_V) (v2 v3 v4 : mx_V) (S h : mx_H) (n : Int), mx_ex d 263 1052 [l0, l1, l2, l3] [(0, b), (0, a), v2, v3, v4] S h n = mx_ex d 263 1053 [l0, l1, l2, l3] [(0, mx_w (a + b)), v2, v3, v4] S h n) ∧
  (∀ (d : Nat) (i a : Int) (l0 l1 l2 l3 : Option mx_V) (v2 v3 : mx_V) (S h : mx_H) (n : Int), mx_ex d 263 1053 [l0, l1, l2, l3] [(0, i), (2, a), v2, v3] S h n = mx_gd ((S a (-2) = 20 ∨ S a (-2) = 24) ∧ 0 ≤ i ∧ i < S a (-1)) d 263 1054 [l0, l1, l2, l3] [(0, h a i), v2, v3] S h n) ∧
  (∀ (d : Nat) (x : Int) (l1 l2 l3 : Option mx_V) (v0 v1 v2 : mx_V) (S h : mx_H) (n : Int), mx_ex d 263 1054 [some (2, x), l1, l2, l3] [v0, v1, v2] S h n = mx_ex d 263 1055 [some (2, x), l1, l2, l3] [(2, x), v0, v1, v2] S h n) ∧
  (∀ (d : Nat) (x : Int) (l0 l1 l2 : Option mx_V) (v0 v1 v2 v3 : mx_V) (S h : mx_H) (n : Int), mx_ex d 263 1055 [l0, l1, l2, some (0, x)] [v0, v1, v2, v3] S h n = mx_ex d 263 1056 [l0, l1, l2, some (0, x)] [(0, x), v0, v1, v2, v3] S h n) ∧
  (∀ (d : Nat) (l0 l1 l2 l3 : Option mx_V) (v0 v1 v2 v3 v4 : mx_V) (S h : mx_H) (n : Int), mx_ex d 263 1056 [l0, l1, l2, l3] [v0, v1, v2, v3, v4] S h n = mx_ex d 263 1057 [l0, l1, l2, l3] [(0, 2), v0, v1, v2, v3, v4] S h n) ∧
  (∀ (d : Nat) (b a : Int) (l0 l1 l2 l3 : Option mx_V) (v2 v3 v4 v5 : mx_V) (S h : mx_H) (n : Int), mx_ex d 263 1057 [l0, l1, l2, l3] [(0, b), (0, a), v2, v3, v4, v5] S h n = mx_ex d 263 1058 [l0, l1, l2, l3] [(0, mx_w (a + b)), v2, v3, v4, v5] S h n) ∧
  (∀ (d : Nat) (i a : Int) (l0 l1 l2 l3 : Option mx_V) (v2 v3 v4 : mx_V) (S h : mx_H) (n : Int), mx_ex d 263 1058 [l0, l1, l2, l3] [(0, i), (2, a), v2, v3, v4] S h n = mx_gd ((S a (-2) = 20 ∨ S a (-2) = 24) ∧ 0 ≤ i ∧ i < S a (-1)) d 263 1059 [l0, l1, l2, l3] [(0, h a i), v2, v3, v4] S h n) ∧
  (∀ (d : Nat) (x0 x1 a : Int) (l0 l1 l2 l3 : Option mx_V) (v3 : mx_V) (S h : mx_H) (n : Int), mx_ex (d + 1) 263 1059 [l0, l1, l2, l3] [(0, x0), (0, x1), (2, a), v3] S h n = mx_cl (S a (-2) = 13) d 216 [(2, a), (0, x1), (0, x0)] 263 1062 [l0, l1, l2, l3] [v3] S h n) ∧
  (∀ (d : Nat) (b a : Int) (l0 l1 l2 l3 : Option mx_V) (S h : mx_H) (n : Int), mx_ex d 263 1062 [l0, l1, l2, l3] [(0, b), (0, a)] S h n = mx_br (a = b) d 263 1653 1065 [l0, l1, l2, l3] [] S h n) ∧
  (∀ (d : Nat) (l0 l1 l2 l3 : Option mx_V) (S h : mx_H) (n : Int), mx_ex d 263 1065 [l0, l1, l2, l3] [] S h n = mx_ex d 263 1066 [l0, l1, l2, l3] [(0, 0)] S h n) ∧
  (∀ (d : Nat) (x : Int) (l0 l1 l2 l3 : Option mx_V) (S h : mx_H) (n : Int), mx_ex d 263 1066 [l0, l1, l2, l3] [(0, x)] S h n = mx_re (0 ≤ x ∧ x ≤ 1) (some (0, x)) S h n) ∧
  (∀ (d : Nat) (x : Int) (l0 l2 l3 : Option mx_V) (S h : mx_H) (n : Int), mx_ex d 263 1067 [l0, some (2, x), l2, l3] [] S h n = mx_ex d 263 1068 [l0, some (2, x), l2, l3] [(2, x)] S h n) ∧
  (∀ (d : Nat) (x : Int) (l1 l2 l3 : Option mx_V) (v0 : mx_V) (S h : mx_H) (n : Int), mx_ex d 263 1068 [some (2, x), l1, l2, l3] [v0] S h n = mx_ex d 263 1069 [some (2, x), l1, l2, l3] [(2, x), v0] S h n) ∧
  (∀ (d : Nat) (x : Int) (l0 l1 l2 : Option mx_V) (v0 v1 : mx_V) (S h : mx_H) (n : Int), mx_ex d 263 1069 [l0, l1, l2, some (0, x)] [v0, v1] S h n = mx_ex d 263 1070 [l0, l1, l2, some (0, x)] [(0, x), v0, v1] S h n) ∧
  (∀ (d : Nat) (l0 l1 l2 l3 : Option mx_V) (v0 v1 v2 : mx_V) (S h : mx_H) (n : Int), mx_ex d 263 1070 [l0, l1, l2, l3] [v0, v1, v2] S h n = mx_ex d 263 1071 [l0, l1, l2, l3] [(0, 1), v0, v1, v2] S h n) ∧
  (∀ (d : Nat) (b a : Int) (l0 l1 l2 l3 : Option mx_V) (v2 v3 : mx_V) (S h : mx_H) (n : Int), mx_ex d 263 1071 [l0, l1, l2, l3] [(0, b), (0, a), v2, v3] S h n = mx_ex d 263 1072 [l0, l1, l2, l3] [(0, mx_w (a + b)), v2, v3] S h n) ∧
  (∀ (d : Nat) (i a : Int) (l0 l1 l2 l3 : Option mx_V) (v2 : mx_V) (S h : mx_H) (n : Int), mx_ex d 263 1072 [l0, l1, l2, l3] [(0, i), (2, a), v2] S h n = mx_gd ((S a (-2) = 20 ∨ S a (-2) = 24) ∧ 0 ≤ i ∧ i < S a (-1)) d 263 1073 [l0, l1, l2, l3] [(0, h a i), v2] S h n) ∧
  (∀ (d : Nat) (x : Int) (l1 l2 l3 : Option mx_V) (v0 v1 : mx_V) (S h : mx_H) (n : Int), mx_ex d 263 1073 [some (2, x), l1, l2, l3] [v0, v1] S h n = mx_ex d 263 1074 [some (2, x), l1, l2, l3] [(2, x), v0, v1] S h n) ∧
  (∀ (d : Nat) (x : Int) (l0 l1 l2 : Option mx_V) (v0 v1 v2 : mx_V) (S h : mx_H) (n : Int), mx_ex d 263 1074 [l0, l1, l2, some (0, x)] [v0, v1, v2] S h n = mx_ex d 263 1075 [l0, l1, l2, some (0, x)] [(0, x), v0, v1, v2] S h n) ∧
  (∀ (d : Nat) (l0 l1 l2 l3 : Option mx_V) (v0 v1 v2 v3 : mx_V) (S h : mx_H) (n : Int), mx_ex d 263 1075 [l0, l1, l2, l3] [v0, v1, v2, v3] S h n = mx_ex d 263 1076 [l0, l1, l2, l3] [(0, 2), v0, v1, v2, v3] S h n) ∧
  (∀ (d : Nat) (b a : Int) (l0 l1 l2 l3 : Option mx_V) (v2 v3 v4 : mx_V) (S h : mx_H) (n : Int), mx_ex d 263 1076 [l0, l1, l2, l3] [(0, b), (0, a), v2, v3, v4] S h n = mx_ex d 263 1077 [l0, l1, l2, l3] [(0, mx_w (a + b)), v2, v3, v4] S h n) ∧
  (∀ (d : Nat) (i a : Int) (l0 l1 l2 l3 : Option mx_V) (v2 v3 : mx_V) (S h : mx_H) (n : Int), mx_ex d 263 1077 [l0, l1, l2, l3] [(0, i), (2, a), v2, v3] S h n = mx_gd ((S a (-2) = 20 ∨ S a (-2) = 24) ∧ 0 ≤ i ∧ i < S a (-1)) d 263 1078 [l0, l1, l2, l3] [(0, h a i), v2, v3] S h n) ∧
  (∀ (d : Nat) (x0 x1 a : Int) (l0 l1 l2 l3 : Option mx_V) (S h : mx_H) (n : Int), mx_ex (d + 1) 263 1078 [l0, l1, l2, l3] [(0, x0), (0, x1), (2, a)] S h n = mx_cl (S a (-2) = 7) d 126 [(2, a), (0, x1), (0, x0)] 263 1081 [l0, l1, l2, l3] [] S h n) ∧
  (∀ (d : Nat) (x : Int) (l0 l1 l3 : Option mx_V) (v0 : mx_V) (S h : mx_H) (n : Int), mx_ex d 263 1081 [l0, l1, some (2, x), l3] [v0] S h n = mx_ex d 263 1082 [l0, l1, some (2, x), l3] [(2, x), v0] S h n) ∧
  (∀ (d : Nat) (x : Int) (l1 l2 l3 : Option mx_V) (v0 v1 : mx_V) (S h : mx_H) (n : Int), mx_ex d 263 1082 [some (2, x), l1, l2, l3] [v0, v1] S h n = mx_ex d 263 1083 [some (2, x), l1, l2, l3] [(2, x), v0, v1] S h n) ∧
  (∀ (d : Nat) (x : Int) (l0 l1 l2 : Option mx_V) (v0 v1 v2 : mx_V) (S h : mx_H) (n : Int), mx_ex d 263 1083 [l0, l1, l2, some (0, x)] [v0, v1, v2] S h n = mx_ex d 263 1084 [l0, l1, l2, some (0, x)] [(0, x), v0, v1, v2] S h n) ∧
  (∀ (d : Nat) (l0 l1 l2 l3 : Option mx_V) (v0 v1 v2 v3 : mx_V) (S h : mx_H) (n : Int), mx_ex d 263 1084 [l0, l1, l2, l3] [v0, v1, v2, v3] S h n = mx_ex d 263 1085 [l0, l1, l2, l3] [(0, 1), v0, v1, v2, v3] S h n) ∧
  (∀ (d : Nat) (b a : Int) (l0 l1 l2 l3 : Option mx_V) (v2 v3 v4 : mx_V) (S h : mx_H) (n : Int), mx_ex d 263 1085 [l0, l1, l2, l3] [(0, b), (0, a), v2, v3, v4] S h n = mx_ex d 263 1086 [l0, l1, l2, l3] [(0, mx_w (a + b)), v2, v3, v4] S h n) ∧
  (∀ (d : Nat) (i a : Int) (l0 l1 l2 l3 : Option mx_V) (v2 v3 : mx_V) (S h : mx_H) (n : Int), mx_ex d 263 1086 [l0, l1, l2, l3] [(0, i), (2, a), v2, v3] S h n = mx_gd ((S a (-2) = 20 ∨ S a (-2) = 24) ∧ 0 ≤ i ∧ i < S a (-1)) d 263 1087 [l0, l1, l2, l3] [(0, h a i), v2, v3] S h n) ∧
  (∀ (d : Nat) (x : Int) (l1 l2 l3 : Option mx_V) (v0 v1 v2 : mx_V) (S h : mx_H) (n : Int), mx_ex d 263 1087 [some (2, x), l1, l2, l3] [v0, v1, v2] S h n = mx_ex d 263 1088 [some (2, x), l1, l2, l3] [(2, x), v0, v1, v2] S h n) ∧
  (∀ (d : Nat) (x : Int) (l0 l1 l2 : Option mx_V) (v0 v1 v2 v3 : mx_V) (S h : mx_H) (n : Int), mx_ex d 263 1088 [l0, l1, l2, some (0, x)] [v0, v1, v2, v3] S h n = mx_ex d 263 1089 [l0, l1, l2, some (0, x)] [(0, x), v0, v1, v2, v3] S h n) ∧
  (∀ (d : Nat) (l0 l1 l2 l3 : Option mx_V) (v0 v1 v2 v3 v4 : mx_V) (S h : mx_H) (n : Int), mx_ex d 263 1089 [l0, l1, l2, l3] [v0, v1, v2, v3, v4] S h n = mx_ex d 263 1090 [l0, l1, l2, l3] [(0, 2), v0, v1, v2, v3, v4] S h n) ∧
  (∀ (d : Nat) (b a : Int) (l0 l1 l2 l3 : Option mx_V) (v2 v3 v4 v5 : mx_V) (S h : mx_H) (n : Int), mx_ex d 263 1090 [l0, l1, l2, l3] [(0, b), (0, a), v2, v3, v4, v5] S h n = mx_ex d 263 1091 [l0, l1, l2, l3] [(0, mx_w (a + b)), v2, v3, v4, v5] S h n) ∧
  (∀ (d : Nat) (i a : Int) (l0 l1 l2 l3 : Option mx_V) (v2 v3 v4 : mx_V) (S h : mx_H) (n : Int), mx_ex d 263 1091 [l0, l1, l2, l3] [(0, i), (2, a), v2, v3, v4] S h n = mx_gd ((S a (-2) = 20 ∨ S a (-2) = 24) ∧ 0 ≤ i ∧ i < S a (-1)) d 263 1092 [l0, l1, l2, l3] [(0, h a i), v2, v3, v4] S h n) ∧
  (∀ (d : Nat) (x0 x1 a : Int) (l0 l1 l2 l3 : Option mx_V) (v3 : mx_V) (S h : mx_H) (n : Int), mx_ex (d + 1) 263 1092 [l0, l1, l2, l3] [(0, x0), (0, x1), (2, a), v3] S h n = mx_cl (S a (-2) = 13) d 218 [(2, a), (0, x1), (0, x0)] 263 1095 [l0, l1, l2, l3] [v3] S h n) ∧
  (∀ (d : Nat) (b a : Int) (l0 l1 l2 l3 : Option mx_V) (S h : mx_H) (n : Int), mx_ex d 263 1095 [l0, l1, l2, l3] [(0, b), (0, a)] S h n = mx_br (a = b) d 263 1653 1098 [l0, l1, l2, l3] [] S h n) ∧
  (∀ (d : Nat) (l0 l1 l2 l3 : Option mx_V) (S h : mx_H) (n : Int), mx_ex d 263 1098 [l0, l1, l2, l3] [] S h n = mx_ex d 263 1099 [l0, l1, l2, l3] [(0, 0)] S h n) ∧
  (∀ (d : Nat) (x : Int) (l0 l1 l2 l3 : Option mx_V) (S h : mx_H) (n : Int), mx_ex d 263 1099 [l0, l1, l2, l3] [(0, x)] S h n = mx_re (0 ≤ x ∧ x ≤ 1) (some (0, x)) S h n) ∧
  (∀ (d : Nat) (x : Int) (l0 l2 l3 : Option mx_V) (S h : mx_H) (n : Int), mx_ex d 263 1100 [l0, some (2, x), l2, l3] [] S h n = mx_ex d 263 1101 [l0, some (2, x), l2, l3] [(2, x)] S h n) ∧
  (∀ (d : Nat) (x : Int) (l1 l2 l3 : Option mx_V) (v0 : mx_V) (S h : mx_H) (n : Int), mx_ex d 263 1101 [some (2, x), l1, l2, l3] [v0] S h n = mx_ex d 263 1102 [some (2, x), l1, l2, l3] [(2, x), v0] S h n) ∧
  (∀ (d : Nat) (x : Int) (l0 l1 l2 : Option mx_V) (v0 v1 : mx_V) (S h : mx_H) (n : Int), mx_ex d 263 1102 [l0, l1, l2, some (0, x)] [v0, v1] S h n = mx_ex d 263 1103 [l0, l1, l2, some (0, x)] [(0, x), v0, v1] S h n) ∧
  (∀ (d : Nat) (l0 l1 l2 l3 : Option mx_V) (v0 v1 v2 : mx_V) (S h : mx_H) (n : Int), mx_ex d 263 1103 [l0, l1, l2, l3] [v0, v1, v2] S h n = mx_ex d 263 1104 [l0, l1, l2, l3] [(0, 1), v0, v1, v2] S h n) ∧
  (∀ (d : Nat) (b a : Int) (l0 l1 l2 l3 : Option mx_V) (v2 v3 : mx_V) (S h : mx_H) (n : Int), mx_ex d 263 1104 [l0, l1, l2, l3] [(0, b), (0, a), v2, v3] S h n = mx_ex d 263 1105 [l0, l1, l2, l3] [(0, mx_w (a + b)), v2, v3] S h n) ∧
  (∀ (d : Nat) (i a : Int) (l0 l1 l2 l3 : Option mx_V) (v2 : mx_V) (S h : mx_H) (n : Int), mx_ex d 263 1105 [l0, l1, l2, l3] [(0, i), (2, a), v2] S h n = mx_gd ((S a (-2) = 20 ∨ S a (-2) = 24) ∧ 0 ≤ i ∧ i < S a (-1)) d 263 1106 [l0, l1, l2, l3] [(0, h a i), v2] S h n) ∧
  (∀ (d : Nat) (x0 a : Int) (l0 l1 l2 l3 : Option mx_V) (S h : mx_H) (n : Int), mx_ex (d + 1) 263 1106 [l0, l1, l2, l3] [(0, x0), (2, a)] S h n = mx_cl (S a (-2) = 7) d 127 [(2, a), (0, x0)] 263 1109 [l0, l1, l2, l3] [] S h n) ∧
  (∀ (d : Nat) (x : Int) (l0 l1 l3 : Option mx_V) (v0 : mx_V) (S h : mx_H) (n : Int), mx_ex d 263 1109 [l0, l1, some (2, x), l3] [v0] S h n = mx_ex d 263 1110 [l0, l1, some (2, x), l3] [(2, x), v0] S h n) ∧
  (∀ (d : Nat) (x : Int) (l1 l2 l3 : Option mx_V) (v0 v1 : mx_V) (S h : mx_H) (n : Int), mx_ex d 263 1110 [some (2, x), l1, l2, l3] [v0, v1] S h n = mx_ex d 263 1111 [some (2, x), l1, l2, l3] [(2, x), v0, v1] S h n) ∧
  (∀ (d : Nat) (x : Int) (l0 l1 l2 : Option mx_V) (v0 v1 v2 : mx_V) (S h : mx_H) (n : Int), mx_ex d 263 1111 [l0, l1, l2, some (0, x)] [v0, v1, v2] S h n = mx_ex d 263 1112 [l0, l1, l2, some (0, x)] [(0, x), v0, v1, v2] S h n) ∧
  (∀ (d : Nat) (l0 l1 l2 l3 : Option mx_V) (v0 v1 v2 v3 : mx_V) (S h : mx_H) (n : Int), mx_ex d 263 1112 [l0, l1, l2, l3] [v0, v1, v2, v3] S h n = mx_ex d 263 1113 [l0, l1, l2, l3] [(0, 1), v0, v1, v2, v3] S h n) ∧
  (∀ (d : Nat) (b a : Int) (l0 l1 l2 l3 : Option mx_V) (v2 v3 v4 : mx_V) (S h : mx_H) (n : Int), mx_ex d 263 1113 [l0, l1, l2, l3] [(0, b), (0, a), v2, v3, v4] S h n = mx_ex d 263 1114 [l0, l1, l2, l3] [(0, mx_w (a + b)), v2, v3, v4] S h n) ∧
  (∀ (d : Nat) (i a : Int) (l0 l1 l2 l3 : Option mx_V) (v2 v3 : mx_V) (S h : mx_H) (n : Int), mx_ex d 263 1114 [l0, l1, l2, l3] [(0, i), (2, a), v2, v3] S h n = mx_gd ((S a (-2) = 20 ∨ S a (-2) = 24) ∧ 0 ≤ i ∧ i < S a (-1)) d 263 1115 [l0, l1, l2, l3] [(0, h a i), v2, v3] S h n) ∧
  (∀ (d : Nat) (x0 a : Int) (l0 l1 l2 l3 : Option mx_V) (v2 : mx_V) (S h : mx_H) (n : Int), mx_ex (d + 1) 263 1115 [l0, l1, l2, l3] [(0, x0), (2, a), v2] S h n = mx_cl (S a (-2) = 13) d 219 [(2, a), (0, x0)] 263 1118 [l0, l1, l2, l3] [v2] S h n) ∧
  (∀ (d : Nat) (b a : Int) (l0 l1 l2 l3 : Option mx_V) (S h : mx_H) (n : Int), mx_ex d 263 1118 [l0, l1, l2, l3] [(0, b), (0, a)] S h n = mx_br (a = b) d 263 1653 1121 [l0, l1, l2, l3] [] S h n) ∧
  (∀ (d : Nat) (l0 l1 l2 l3 : Option mx_V) (S h : mx_H) (n : Int), mx_ex d 263 1121 [l0, l1, l2, l3] [] S h n = mx_ex d 263 1122 [l0, l1, l2, l3] [(0, 0)] S h n) ∧
  (∀ (d : Nat) (x : Int) (l0 l1 l2 l3 : Option mx_V) (S h : mx_H) (n : Int), mx_ex d 263 1122 [l0, l1, l2, l3] [(0, x)] S h n = mx_re (0 ≤ x ∧ x ≤ 1) (some (0, x)) S h n) ∧
  (∀ (d : Nat) (x : Int) (l0 l2 l3 : Option mx_V) (S h : mx_H) (n : Int), mx_ex d 263 1123 [l0, some (2, x), l2, l3] [] S h n = mx_ex d 263 1124 [l0, some (2, x), l2, l3] [(2, x)] S h n) ∧
  (∀ (d : Nat) (a : Int) (l0 l1 l2 l3 : Option mx_V) (S h : mx_H) (n : Int), mx_ex (d + 1) 263 1124 [l0, l1, l2, l3] [(2, a)] S h n = mx_cl (S a (-2) = 7) d 128 [(2, a)] 263 1127 [l0, l1, l2, l3] [] S h n) ∧
  (∀ (d : Nat) (x : Int) (l0 l1 l3 : Option mx_V) (v0 : mx_V) (S h : mx_H) (n : Int), mx_ex d 263 1127 [l0, l1, some (2, x), l3] [v0] S h n = mx_ex d 263 1128 [l0, l1, some (2, x), l3] [(2, x), v0] S h n) ∧
  (∀ (d : Nat) (a : Int) (l0 l1 l2 l3 : Option mx_V) (v1 : mx_V) (S h : mx_H) (n : Int), mx_ex (d + 1) 263 1128 [l0, l1, l2, l3] [(2, a), v1] S h n = mx_cl (S a (-2) = 13) d 220 [(2, a)] 263 1131 [l0, l1, l2, l3] [v1] S h n) ∧
  (∀ (d : Nat) (b a : Int) (l0 l1 l2 l3 : Option mx_V) (S h : mx_H) (n : Int), mx_ex d 263 1131 [l0, l1, l2, l3] [(0, b), (0, a)] S h n = mx_br (a = b) d 263 1653 1134 [l0, l1, l2, l3] [] S h n) ∧
  (∀ (d : Nat) (l0 l1 l2 l3 : Option mx_V) (S h : mx_H) (n : Int), mx_ex d 263 1134 [l0, l1, l2, l3] [] S h n = mx_ex d 263 1135 [l0, l1, l2, l3] [(0, 0)] S h n) ∧
  (∀ (d : Nat) (x : Int) (l0 l1 l2 l3 : Option mx_V) (S h : mx_H) (n : Int), mx_ex d 263 1135 [l0, l1, l2, l3] [(0, x)] S h n = mx_re (0 ≤ x ∧ x ≤ 1) (some (0, x)) S h n) ∧
  (∀ (d : Nat) (x : Int) (l0 l2 l3 : Option mx_V) (S h : mx_H) (n : Int), mx_ex d 263 1136 [l0, some (2, x), l2, l3] [] S h n = mx_ex d 263 1137 [l0, some (2, x), l2, l3] [(2, x)] S h n) ∧
  (∀ (d : Nat) (x : Int) (l1 l2 l3 : Option mx_V) (v0 : mx_V) (S h : mx_H) (n : Int), mx_ex d 263 1137 [some (2, x), l1, l2, l3] [v0] S h n = mx_ex d 263 1138 [some (2, x), l1, l2, l3] [(2, x), v0] S h n) ∧
  (∀ (d : Nat) (x : Int) (l0 l1 l2 : Option mx_V) (v0 v1 : mx_V) (S h : mx_H) (n : Int), mx_ex d 263 1138 [l0, l1, l2, some (0, x)] [v0, v1] S h n = mx_ex d 263 1139 [l0, l1, l2, some (0, x)] [(0, x), v0, v1] S h n) ∧
  (∀ (d : Nat) (l0 l1 l2 l3 : Option mx_V) (v0 v1 v2 : mx_V) (S h : mx_H) (n : Int), mx_ex d 263 1139 [l0, l1, l2, l3] [v0, v1, v2] S h n = mx_ex d 263 1140 [l0, l1, l2, l3] [(0, 1), v0, v1, v2] S h n) ∧
  (∀ (d : Nat) (b a : Int) (l0 l1 l2 l3 : Option mx_V) (v2 v3 : mx_V) (S h : mx_H) (n : Int), mx_ex d 263 1140 [l0, l1, l2, l3] [(0, b), (0, a), v2, v3] S h n = mx_ex d 263 1141 [l0, l1, l2, l3] [(0, mx_w (a + b)), v2, v3] S h n) :=
  ⟨by intros; exact eq_ld rfl rfl,
   by intros; exact eq_ld rfl rfl,
   by intros; exact eq_push rfl,
   by intros; exact eq_i2 (o := mx_add) rfl,
   by intros; exact eq_iald rfl,
   by intros; exact eq_ld rfl rfl,
   by intros; exact eq_ld rfl rfl,
   by intros; exact eq_push rfl,
   by intros; exact eq_i2 (o := mx_add) rfl,
   by intros; exact eq_iald rfl,
   by intros; exact eq_cv rfl (Nat.le_of_ble_eq_true rfl) rfl rfl rfl (Nat.le_of_ble_eq_true rfl),
   by intros; exact eq_ic0 rfl,
   by intros; exact eq_push rfl,
   by intros; exact eq_rr rfl,
   by intros; exact eq_ld rfl rfl,
   by intros; exact eq_ld rfl rfl,
   by intros; exact eq_ld rfl rfl,
   by intros; exact eq_push rfl,
   by intros; exact eq_i2 (o := mx_add) rfl,
   by intros; exact eq_iald rfl,
   by intros; exact eq_ld rfl rfl,
   by intros; exact eq_ld rfl rfl,
   by intros; exact eq_push rfl,
   by intros; exact eq_i2 (o := mx_add) rfl,
   by intros; exact eq_iald rfl,
   by intros; exact eq_cv rfl (Nat.le_of_ble_eq_true rfl) rfl rfl rfl (Nat.le_of_ble_eq_true rfl),
   by intros; exact eq_ld rfl rfl,
   by intros; exact eq_ld rfl rfl,
   by intros; exact eq_ld rfl rfl,
   by intros; exact eq_push rfl,
   by intros; exact eq_i2 (o := mx_add) rfl,
   by intros; exact eq_iald rfl,
   by intros; exact eq_ld rfl rfl,
   by intros; exact eq_ld rfl rfl,
   by intros; exact eq_push rfl,
   by intros; exact eq_i2 (o := mx_add) rfl,
   by intros; exact eq_iald rfl,
   by intros; exact eq_cv rfl (Nat.le_of_ble_eq_true rfl) rfl rfl rfl (Nat.le_of_ble_eq_true rfl),
   by intros; exact eq_ic0 rfl,
   by intros; exact eq_push rfl,
   by intros; exact eq_rr rfl,
   by intros; exact eq_ld rfl rfl,
   by intros; exact eq_ld rfl rfl,
   by intros; exact eq_ld rfl rfl,
   by intros; exact eq_push rfl,
   by intros; exact eq_i2 (o := mx_add) rfl,
   by intros; exact eq_iald rfl,
   by intros; exact eq_cv rfl (Nat.le_of_ble_eq_true rfl) rfl rfl rfl (Nat.le_of_ble_eq_true rfl),
   by intros; exact eq_ld rfl rfl,
   by intros; exact eq_ld rfl rfl,
   by intros; exact eq_ld rfl rfl,
   by intros; exact eq_push rfl,
   by intros; exact eq_i2 (o := mx_add) rfl,
   by intros; exact eq_iald rfl,
   by intros; exact eq_cv rfl (Nat.le_of_ble_eq_true rfl) rfl rfl rfl (Nat.le_of_ble_eq_true rfl),
   by intros; exact eq_ic0 rfl,
   by intros; exact eq_push rfl,
   by intros; exact eq_rr rfl,
   by intros; exact eq_ld rfl rfl,
   by intros; exact eq_cv rfl (Nat.le_of_ble_eq_true rfl) rfl rfl rfl (Nat.le_of_ble_eq_true rfl),
   by intros; exact eq_ld rfl rfl,
   by intros; exact eq_cv rfl (Nat.le_of_ble_eq_true rfl) rfl rfl rfl (Nat.le_of_ble_eq_true rfl),
   by intros; exact eq_ic0 rfl,
   by intros; exact eq_push rfl,
   by intros; exact eq_rr rfl,
   by intros; exact eq_ld rfl rfl,
   by intros; exact eq_ld rfl rfl,
   by intros; exact eq_ld rfl rfl,
   by intros; exact eq_push rfl,
   by intros; exact eq_i2 (o := mx_add) rfl⟩
theorem rw_L_law_11 :
  (∀ (d : Nat) (i a : Int) (l0 l1 l2 l3 : Option mx_V) (v2 : mx_V) (S h : mx_H) (n : Int), mx_ex d 263 1141 [l0, l1, l2, l3] [(0, i), (2, a), v2] S h n = mx_gd ((S a (-2) = 20 ∨ S a (-2) = 24) ∧ 0 ≤ i ∧ i < S a (-1)) d 263 1142 [l0, l1, l2, l3] [(0, h a i), v2] S h n) ∧
  (∀ (d : Nat) (x0 a : Int) (l0 l1 l2 l3 : Option mx_V) (S h : mx_H) (n : Int), mx_ex (d + 1) 263 1142 [l0, l1, l2, l3] [(0, x0), (2, a)] S h n = mx_cl (S a (-2) = 7) d 129 [(2, a), (0, x0)] 263 1145 [l0, l1, l2, l3] [] S h n) ∧
  (∀ (d : Nat) (x : Int) (l0 l1 l3 : Option mx_V) (v0 : mx_V) (S h : mx_H) (n : Int), mx_ex d 263 1145 [l0, l1, some (2, x), l3] [v0] S h n = mx_ex d 263 1146 [l0, l1, some (2, x), l3] [(2, x), v0] S h n) ∧
  (∀ (d : Nat) (x : Int) (l1 l2 l3 : Option mx_V) (v0 v1 : mx_V) (S h : mx_H) (n : Int), mx_ex d 263 1146 [some (2, x), l1, l2, l3] [v0, v1] S h n = mx_ex d 263 1147 [some (2, x), l1, l2, l3] [(2, x), v0, v1] S h n) ∧
  (∀ (d : Nat) (x : Int) (l0 l1 l2 : Option mx_V) (v0 v1 v2 : mx_V) (S h : mx_H) (n : Int), mx_ex d 263 1147 [l0, l1, l2, some (0, x)] [v0, v1, v2] S h n = mx_ex d 263 1148 [l0, l1, l2, some (0, x)] [(0, x), v0, v1, v2] S h n) ∧
  (∀ (d : Nat) (l0 l1 l2 l3 : Option mx_V) (v0 v1 v2 v3 : mx_V) (S h : mx_H) (n : Int), mx_ex d 263 1148 [l0, l1, l2, l3] [v0, v1, v2, v3] S h n = mx_ex d 263 1149 [l0, l1, l2, l3] [(0, 1), v0, v1, v2, v3] S h n) ∧
  (∀ (d : Nat) (b a : Int) (l0 l1 l2 l3 : Option mx_V) (v2 v3 v4 : mx_V) (S h : mx_H) (n : Int), mx_ex d 263 1149 [l0, l1, l2, l3] [(0, b), (0, a), v2, v3, v4] S h n = mx_ex d 263 1150 [l0, l1, l2, l3] [(0, mx_w (a + b)), v2, v3, v4] S h n) ∧
  (∀ (d : Nat) (i a : Int) (l0 l1 l2 l3 : Option mx_V) (v2 v3 : mx_V) (S h : mx_H) (n : Int), mx_ex d 263 1150 [l0, l1, l2, l3] [(0, i), (2, a), v2, v3] S h n = mx_gd ((S a (-2) = 20 ∨ S a (-2) = 24) ∧ 0 ≤ i ∧ i < S a (-1)) d 263 1151 [l0, l1, l2, l3] [(0, h a i), v2, v3] S h n) ∧
  (∀ (d : Nat) (x0 a : Int) (l0 l1 l2 l3 : Option mx_V) (v2 : mx_V) (S h : mx_H) (n : Int), mx_ex (d + 1) 263 1151 [l0, l1, l2, l3] [(0, x0), (2, a), v2] S h n = mx_cl (S a (-2) = 13) d 221 [(2, a), (0, x0)] 263 1154 [l0, l1, l2, l3] [v2] S h n) ∧
  (∀ (d : Nat) (b a : Int) (l0 l1 l2 l3 : Option mx_V) (S h : mx_H) (n : Int), mx_ex d 263 1154 [l0, l1, l2, l3] [(0, b), (0, a)] S h n = mx_br (a = b) d 263 1653 1157 [l0, l1, l2, l3] [] S h n) ∧
  (∀ (d : Nat) (l0 l1 l2 l3 : Option mx_V) (S h : mx_H) (n : Int), mx_ex d 263 1157 [l0, l1, l2, l3] [] S h n = mx_ex d 263 1158 [l0, l1, l2, l3] [(0, 0)] S h n) ∧
  (∀ (d : Nat) (x : Int) (l0 l1 l2 l3 : Option mx_V) (S h : mx_H) (n : Int), mx_ex d 263 1158 [l0, l1, l2, l3] [(0, x)] S h n = mx_re (0 ≤ x ∧ x ≤ 1) (some (0, x)) S h n) ∧
  (∀ (d : Nat) (x : Int) (l0 l2 l3 : Option mx_V) (S h : mx_H) (n : Int), mx_ex d 263 1159 [l0, some (2, x), l2, l3] [] S h n = mx_ex d 263 1160 [l0, some (2, x), l2, l3] [(2, x)] S h n) ∧
  (∀ (d : Nat) (x : Int) (l1 l2 l3 : Option mx_V) (v0 : mx_V) (S h : mx_H) (n : Int), mx_ex d 263 1160 [some (2, x), l1, l2, l3] [v0] S h n = mx_ex d 263 1161 [some (2, x), l1, l2, l3] [(2, x), v0] S h n) ∧
  (∀ (d : Nat) (x : Int) (l0 l1 l2 : Option mx_V) (v0 v1 : mx_V) (S h : mx_H) (n : Int), mx_ex d 263 1161 [l0, l1, l2, some (0, x)] [v0, v1] S h n = mx_ex d 263 1162 [l0, l1, l2, some (0, x)] [(0, x), v0, v1] S h n) ∧
  (∀ (d : Nat) (l0 l1 l2 l3 : Option mx_V) (v0 v1 v2 : mx_V) (S h : mx_H) (n : Int), mx_ex d 263 1162 [l0, l1, l2, l3] [v0, v1, v2] S h n = mx_ex d 263 1163 [l0, l1, l2, l3] [(0, 1), v0, v1, v2] S h n) ∧
  (∀ (d : Nat) (b a : Int) (l0 l1 l2 l3 : Option mx_V) (v2 v3 : mx_V) (S h : mx_H) (n : Int), mx_ex d 263 1163 [l0, l1, l2, l3] [(0, b), (0, a), v2, v3] S h n = mx_ex d 263 1164 [l0, l1, l2, l3] [(0, mx_w (a + b)), v2, v3] S h n) ∧
  (∀ (d : Nat) (i a : Int) (l0 l1 l2 l3 : Option mx_V) (v2 : mx_V) (S h : mx_H) (n : Int), mx_ex d 263 1164 [l0, l1, l2, l3] [(0, i), (2, a), v2] S h n = mx_gd ((S a (-2) = 20 ∨ S a (-2) = 24) ∧ 0 ≤ i ∧ i < S a (-1)) d 263 1165 [l0, l1, l2, l3] [(0, h a i), v2] S h n) ∧
  (∀ (d : Nat) (x : Int) (l1 l2 l3 : Option mx_V) (v0 v1 : mx_V) (S h : mx_H) (n : Int), mx_ex d 263 1165 [some (2, x), l1, l2, l3] [v0, v1] S h n = mx_ex d 263 1166 [some (2, x), l1, l2, l3] [(2, x), v0, v1] S h n) ∧
  (∀ (d : Nat) (x : Int) (l0 l1 l2 : Option mx_V) (v0 v1 v2 : mx_V) (S h : mx_H) (n : Int), mx_ex d 263 1166 [l0, l1, l2, some (0, x)] [v0, v1, v2] S h n = mx_ex d 263 1167 [l0, l1, l2, some (0, x)] [(0, x), v0, v1, v2] S h n) ∧
  (∀ (d : Nat) (l0 l1 l2 l3 : Option mx_V) (v0 v1 v2 v3 : mx_V) (S h : mx_H) (n : Int), mx_ex d 263 1167 [l0, l1, l2, l3] [v0, v1, v2, v3] S h n = mx_ex d 263 1168 [l0, l1, l2, l3] [(0, 2), v0, v1, v2, v3] S h n) ∧
  (∀ (d : Nat) (b a : Int) (l0 l1 l2 l3 : Option mx_V) (v2 v3 v4 : mx_V) (S h : mx_H) (n : Int), mx_ex d 263 1168 [l0, l1, l2, l3] [(0, b), (0, a), v2, v3, v4] S h n = mx_ex d 263 1169 [l0, l1, l2, l3] [(0, mx_w (a + b)), v2, v3, v4] S h n) ∧
  (∀ (d : Nat) (i a : Int) (l0 l1 l2 l3 : Option mx_V) (v2 v3 : mx_V) (S h : mx_H) (n : Int), mx_ex d 263 1169 [l0, l1, l2, l3] [(0, i), (2, a), v2, v3] S h n = mx_gd ((S a (-2) = 20 ∨ S a (-2) = 24) ∧ 0 ≤ i ∧ i < S a (-1)) d 263 1170 [l0, l1, l2, l3] [(0, h a i), v2, v3] S h n) ∧
  (∀ (d : Nat) (x0 x1 a : Int) (l0 l1 l2 l3 : Option mx_V) (S h : mx_H) (n : Int), mx_ex (d + 1) 263 1170 [l0, l1, l2, l3] [(0, x0), (0, x1), (2, a)] S h n = mx_cl (S a (-2) = 7) d 130 [(2, a), (0, x1), (0, x0)] 263 1173 [l0, l1, l2, l3] [] S h n) ∧
  (∀ (d : Nat) (x : Int) (l0 l1 l3 : Option mx_V) (v0 : mx_V) (S h : mx_H) (n : Int), mx_ex d 263 1173 [l0, l1, some (2, x), l3] [v0] S h n = mx_ex d 263 1174 [l0, l1, some (2, x), l3] [(2, x), v0] S h n) ∧
  (∀ (d : Nat) (x : Int) (l1 l2 l3 : Option mx_V) (v0 v1 : mx_V) (S h : mx_H) (n : Int), mx_ex d 263 1174 [some (2, x), l1, l2, l3] [v0, v1] S h n = mx_ex d 263 1175 [some (2, x), l1, l2, l3] [(2, x), v0, v1] S h n) ∧
  (∀ (d : Nat) (x : Int) (l0 l1 l2 : Option mx_V) (v0 v1 v2 : mx_V) (S h : mx_H) (n : Int), mx_ex d 263 1175 [l0, l1, l2, some (0, x)] [v0, v1, v2] S h n = mx_ex d 263 1176 [l0, l1, l2, some (0, x)] [(0, x), v0, v1, v2] S h n) ∧
  (∀ (d : Nat) (l0 l1 l2 l3 : Option mx_V) (v0 v1 v2 v3 : mx_V) (S h : mx_H) (n : Int), mx_ex d 263 1176 [l0, l1, l2, l3] [v0, v1, v2, v3] S h n = mx_ex d 263 1177 [l0, l1, l2, l3] [(0, 1), v0, v1, v2, v3] S h n) ∧
  (∀ (d : Nat) (b a : Int) (l0 l1 l2 l3 : Option mx_V) (v2 v3 v4 : mx_V) (S h : mx_H) (n : Int), mx_ex d 263 1177 [l0, l1, l2, l3] [(0, b), (0, a), v2, v3, v4] S h n = mx_ex d 263 1178 [l0, l1, l2, l3] [(0, mx_w (a + b)), v2, v3, v4] S h n) ∧
  (∀ (d : Nat) (i a : Int) (l0 l1 l2 l3 : Option mx_V) (v2 v3 : mx_V) (S h : mx_H) (n : Int), mx_ex d 263 1178 [l0, l1, l2, l3] [(0, i), (2, a), v2, v3] S h n = mx_gd ((S a (-2) = 20 ∨ S a (-2) = 24) ∧ 0 ≤ i ∧ i < S a (-1)) d 263 1179 [l0, l1, l2, l3] [(0, h a i), v2, v3] S h n) ∧
  (∀ (d : Nat) (x : Int) (l1 l2 l3 : Option mx_V) (v0 v1 v2 : mx_V) (S h : mx_H) (n : Int), mx_ex d 263 1179 [some (2, x), l1, l2, l3] [v0, v1, v2] S h n = mx_ex d 263 1180 [some (2, x), l1, l2, l3] [(2, x), v0, v1, v2] S h n) ∧
  (∀ (d : Nat) (x : Int) (l0 l1 l2 : Option mx_V) (v0 v1 v2 v3 : mx_V) (S h : mx_H) (n : Int), mx_ex d 263 1180 [l0, l1, l2, some (0, x)] [v0, v1, v2, v3] S h n = mx_ex d 263 1181 [l0, l1, l2, some (0, x)] [(0, x), v0, v1, v2, v3] S h n) ∧
  (∀ (d : Nat) (l0 l1 l2 l3 : Option mx_V) (v0 v1 v2 v3 v4 : mx_V) (S h : mx_H) (n : Int), mx_ex d 263 1181 [l0, l1, l2, l3] [v0, v1, v2, v3, v4] S h n = mx_ex d 263 1182 [l0, l1, l2, l3] [(0, 2), v0, v1, v2, v3, v4] S h n) ∧
  (∀ (d : Nat) (b a : Int) (l0 l1 l2 l3 : Option mx_V) (v2 v3 v4 v5 : mx_V) (S h : mx_H) (n : Int), mx_ex d 263 1182 [l0, l1, l2, l3] [(0, b), (0, a), v2, v3, v4, v5] S h n = mx_ex d 263 1183 [l0, l1, l2, l3] [(0, mx_w (a + b)), v2, v3, v4, v5] S h n) ∧
  (∀ (d : Nat) (i a : Int) (l0 l1 l2 l3 : Option mx_V) (v2 v3 v4 : mx_V) (S h : mx_H) (n : Int), mx_ex d 263 1183 [l0, l1, l2, l3] [(0, i), (2, a), v2, v3, v4] S h n = mx_gd ((S a (-2) = 20 ∨ S a (-2) = 24) ∧ 0 ≤ i ∧ i < S a (-1)) d 263 1184 [l0, l1, l2, l3] [(0, h a i), v2, v3, v4] S h n) ∧
  (∀ (d : Nat) (x0 x1 a : Int) (l0 l1 l2 l3 : Option mx_V) (v3 : mx_V) (S h : mx_H) (n : Int), mx_ex (d + 1) 263 1184 [l0, l1, l2, l3] [(0, x0), (0, x1), (2, a), v3] S h n = mx_cl (S a (-2) = 13) d 223 [(2, a), (0, x1), (0, x0)] 263 1187 [l0, l1, l2, l3] [v3] S h n) ∧
  (∀ (d : Nat) (b a : Int) (l0 l1 l2 l3 : Option mx_V) (S h : mx_H) (n : Int), mx_ex d 263 1187 [l0, l1, l2, l3] [(1, b), (1, a)] S h n = mx_ex d 263 1188 [l0, l1, l2, l3] [(0, mx_cmp a b)] S h n) ∧
  (∀ (d : Nat) (a : Int) (l0 l1 l2 l3 : Option mx_V) (S h : mx_H) (n : Int), mx_ex d 263 1188 [l0, l1, l2, l3] [(0, a)] S h n = mx_br (a = 0) d 263 1653 1191 [l0, l1, l2, l3] [] S h n) ∧
  (∀ (d : Nat) (l0 l1 l2 l3 : Option mx_V) (S h : mx_H) (n : Int), mx_ex d 263 1191 [l0, l1, l2, l3] [] S h n = mx_ex d 263 1192 [l0, l1, l2, l3] [(0, 0)] S h n) ∧
  (∀ (d : Nat) (x : Int) (l0 l1 l2 l3 : Option mx_V) (S h : mx_H) (n : Int), mx_ex d 263 1192 [l0, l1, l2, l3] [(0, x)] S h n = mx_re (0 ≤ x ∧ x ≤ 1) (some (0, x)) S h n) ∧
  (∀ (d : Nat) (x : Int) (l0 l2 l3 : Option mx_V) (S h : mx_H) (n : Int), mx_ex d 263 1193 [l0, some (2, x), l2, l3] [] S h n = mx_ex d 263 1194 [l0, some (2, x), l2, l3] [(2, x)] S h n) ∧
  (∀ (d : Nat) (x : Int) (l1 l2 l3 : Option mx_V) (v0 : mx_V) (S h : mx_H) (n : Int), mx_ex d 263 1194 [some (2, x), l1, l2, l3] [v0] S h n = mx_ex d 263 1195 [some (2, x), l1, l2, l3] [(2, x), v0] S h n) ∧
  (∀ (d : Nat) (x : Int) (l0 l1 l2 : Option mx_V) (v0 v1 : mx_V) (S h : mx_H) (n : Int), mx_ex d 263 1195 [l0, l1, l2, some (0, x)] [v0, v1] S h n = mx_ex d 263 1196 [l0, l1, l2, some (0, x)] [(0, x), v0, v1] S h n) ∧
  (∀ (d : Nat) (l0 l1 l2 l3 : Option mx_V) (v0 v1 v2 : mx_V) (S h : mx_H) (n : Int), mx_ex d 263 1196 [l0, l1, l2, l3] [v0, v1, v2] S h n = mx_ex d 263 1197 [l0, l1, l2, l3] [(0, 1), v0, v1, v2] S h n) ∧
  (∀ (d : Nat) (b a : Int) (l0 l1 l2 l3 : Option mx_V) (v2 v3 : mx_V) (S h : mx_H) (n : Int), mx_ex d 263 1197 [l0, l1, l2, l3] [(0, b), (0, a), v2, v3] S h n = mx_ex d 263 1198 [l0, l1, l2, l3] [(0, mx_w (a + b)), v2, v3] S h n) ∧
  (∀ (d : Nat) (i a : Int) (l0 l1 l2 l3 : Option mx_V) (v2 : mx_V) (S h : mx_H) (n : Int), mx_ex d 263 1198 [l0, l1, l2, l3] [(0, i), (2, a), v2] S h n = mx_gd ((S a (-2) = 20 ∨ S a (-2) = 24) ∧ 0 ≤ i ∧ i < S a (-1)) d 263 1199 [l0, l1, l2, l3] [(0, h a i), v2] S h n) ∧
  (∀ (d : Nat) (x : Int) (l1 l2 l3 : Option mx_V) (v0 v1 : mx_V) (S h : mx_H) (n : Int), mx_ex d 263 1199 [some (2, x), l1, l2, l3] [v0, v1] S h n = mx_ex d 263 1200 [some (2, x), l1, l2, l3] [(2, x), v0, v1] S h n) ∧
  (∀ (d : Nat) (x : Int) (l0 l1 l2 : Option mx_V) (v0 v1 v2 : mx_V) (S h : mx_H) (n : Int), mx_ex d 263 1200 [l0, l1, l2, some (0, x)] [v0, v1, v2] S h n = mx_ex d 263 1201 [l0, l1, l2, some (0, x)] [(0, x), v0, v1, v2] S h n) ∧
  (∀ (d : Nat) (l0 l1 l2 l3 : Option mx_V) (v0 v1 v2 v3 : mx_V) (S h : mx_H) (n : Int), mx_ex d 263 1201 [l0, l1, l2, l3] [v0, v1, v2, v3] S h n = mx_ex d 263 1202 [l0, l1, l2, l3] [(0, 2), v0, v1, v2, v3] S h n) ∧
  (∀ (d : Nat) (b a : Int) (l0 l1 l2 l3 : Option mx_V) (v2 v3 v4 : mx_V) (S h : mx_H) (n : Int), mx_ex d 263 1202 [l0, l1, l2, l3] [(0, b), (0, a), v2, v3, v4] S h n = mx_ex d 263 1203 [l0, l1, l2, l3] [(0, mx_w (a + b)), v2, v3, v4] S h n) ∧
  (∀ (d : Nat) (i a : Int) (l0 l1 l2 l3 : Option mx_V) (v2 v3 : mx_V) (S h : mx_H) (n : Int), mx_ex d 263 1203 [l0, l1, l2, l3] [(0, i), (2, a), v2, v3] S h n = mx_gd ((S a (-2) = 20 ∨ S a (-2) = 24) ∧ 0 ≤ i ∧ i < S a (-1)) d 263 1204 [l0, l1, l2, l3] [(0, h a i), v2, v3] S h n) ∧
  (∀ (d : Nat) (x : Int) (l1 l2 l3 : Option mx_V) (v0 v1 v2 : mx_V) (S h : mx_H) (n : Int), mx_ex d 263 1204 [some (2, x), l1, l2, l3] [v0, v1, v2] S h n = mx_ex d 263 1205 [some (2, x), l1, l2, l3] [(2, x), v0, v1, v2] S h n) ∧
  (∀ (d : Nat) (x : Int) (l0 l1 l2 : Option mx_V) (v0 v1 v2 v3 : mx_V) (S h : mx_H) (n : Int), mx_ex d 263 1205 [l0, l1, l2, some (0, x)] [v0, v1, v2, v3] S h n = mx_ex d 263 1206 [l0, l1, l2, some (0, x)] [(0, x), v0, v1, v2, v3] S h n) ∧
  (∀ (d : Nat) (l0 l1 l2 l3 : Option mx_V) (v0 v1 v2 v3 v4 : mx_V) (S h : mx_H) (n : Int), mx_ex d 263 1206 [l0, l1, l2, l3] [v0, v1, v2, v3, v4] S h n = mx_ex d 263 1207 [l0, l1, l2, l3] [(0, 3), v0, v1, v2, v3, v4] S h n) ∧
  (∀ (d : Nat) (b a : Int) (l0 l1 l2 l3 : Option mx_V) (v2 v3 v4 v5 : mx_V) (S h : mx_H) (n : Int), mx_ex d 263 1207 [l0, l1, l2, l3] [(0, b), (0, a), v2, v3, v4, v5] S h n = mx_ex d 263 1208 [l0, l1, l2, l3] [(0, mx_w (a + b)), v2, v3, v4, v5] S h n) ∧
  (∀ (d : Nat) (i a : Int) (l0 l1 l2 l3 : Option mx_V) (v2 v3 v4 : mx_V) (S h : mx_H) (n : Int), mx_ex d 263 1208 [l0, l1, l2, l3] [(0, i), (2, a), v2, v3, v4] S h n = mx_gd ((S a (-2) = 20 ∨ S a (-2) = 24) ∧ 0 ≤ i ∧ i < S a (-1)) d 263 1209 [l0, l1, l2, l3] [(0, h a i), v2, v3, v4] S h n) ∧
  (∀ (d : Nat) (a : Int) (l0 l1 l2 l3 : Option mx_V) (v1 v2 v3 : mx_V) (S h : mx_H) (n : Int), mx_ex d 263 1209 [l0, l1, l2, l3] [(0, a), v1, v2, v3] S h n = mx_ex d 263 1210 [l0, l1, l2, l3] [(1, a), v1, v2, v3] S h n) ∧
  (∀ (d : Nat) (l0 l1 l2 l3 : Option mx_V) (v0 v1 v2 v3 : mx_V) (S h : mx_H) (n : Int), mx_ex d 263 1210 [l0, l1, l2, l3] [v0, v1, v2, v3] S h n = mx_ex d 263 1212 [l0, l1, l2, l3] [(0, 32), v0, v1, v2, v3] S h n) ∧
  (∀ (d : Nat) (b a : Int) (l0 l1 l2 l3 : Option mx_V) (v2 v3 v4 : mx_V) (S h : mx_H) (n : Int), mx_ex d 263 1212 [l0, l1, l2, l3] [(0, b), (1, a), v2, v3, v4] S h n = mx_ex d 263 1213 [l0, l1, l2, l3] [(1, ml_shl a b), v2, v3, v4] S h n) ∧
  (∀ (d : Nat) (x : Int) (l1 l2 l3 : Option mx_V) (v0 v1 v2 v3 : mx_V) (S h : mx_H) (n : Int), mx_ex d 263 1213 [some (2, x), l1, l2, l3] [v0, v1, v2, v3] S h n = mx_ex d 263 1214 [some (2, x), l1, l2, l3] [(2, x), v0, v1, v2, v3] S h n) ∧
  (∀ (d : Nat) (x : Int) (l0 l1 l2 : Option mx_V) (v0 v1 v2 v3 v4 : mx_V) (S h : mx_H) (n : Int), mx_ex d 263 1214 [l0, l1, l2, some (0, x)] [v0, v1, v2, v3, v4] S h n = mx_ex d 263 1215 [l0, l1, l2, some (0, x)] [(0, x), v0, v1, v2, v3, v4] S h n) ∧
  (∀ (d : Nat) (l0 l1 l2 l3 : Option mx_V) (v0 v1 v2 v3 v4 v5 : mx_V) (S h : mx_H) (n : Int), mx_ex d 263 1215 [l0, l1, l2, l3] [v0, v1, v2, v3, v4, v5] S h n = mx_ex d 263 1216 [l0, l1, l2, l3] [(0, 4), v0, v1, v2, v3, v4, v5] S h n) ∧
  (∀ (d : Nat) (b a : Int) (l0 l1 l2 l3 : Option mx_V) (v2 v3 v4 v5 v6 : mx_V) (S h : mx_H) (n : Int), mx_ex d 263 1216 [l0, l1, l2, l3] [(0, b), (0, a), v2, v3, v4, v5, v6] S h n = mx_ex d 263 1217 [l0, l1, l2, l3] [(0, mx_w (a + b)), v2, v3, v4, v5, v6] S h n) ∧
  (∀ (d : Nat) (i a : Int) (l0 l1 l2 l3 : Option mx_V) (v2 v3 v4 v5 : mx_V) (S h : mx_H) (n : Int), mx_ex d 263 1217 [l0, l1, l2, l3] [(0, i), (2, a), v2, v3, v4, v5] S h n = mx_gd ((S a (-2) = 20 ∨ S a (-2) = 24) ∧ 0 ≤ i ∧ i < S a (-1)) d 263 1218 [l0, l1, l2, l3] [(0, h a i), v2, v3, v4, v5] S h n) ∧
  (∀ (d : Nat) (a : Int) (l0 l1 l2 l3 : Option mx_V) (v1 v2 v3 v4 : mx_V) (S h : mx_H) (n : Int), mx_ex d 263 1218 [l0, l1, l2, l3] [(0, a), v1, v2, v3, v4] S h n = mx_ex d 263 1219 [l0, l1, l2, l3] [(1, a), v1, v2, v3, v4] S h n) ∧
  (∀ (d : Nat) (l0 l1 l2 l3 : Option mx_V) (v0 v1 v2 v3 v4 : mx_V) (S h : mx_H) (n : Int), mx_ex d 263 1219 [l0, l1, l2, l3] [v0, v1, v2, v3, v4] S h n = mx_ex d 263 1222 [l0, l1, l2, l3] [(1, 4294967295), v0, v1, v2, v3, v4] S h n) ∧
  (∀ (d : Nat) (b a : Int) (l0 l1 l2 l3 : Option mx_V) (v2 v3 v4 v5 : mx_V) (S h : mx_H) (n : Int), mx_ex d 263 1222 [l0, l1, l2, l3] [(1, b), (1, a), v2, v3, v4, v5] S h n = mx_ex d 263 1223 [l0, l1, l2, l3] [(1, ml_and a b), v2, v3, v4, v5] S h n) ∧
  (∀ (d : Nat) (b a : Int) (l0 l1 l2 l3 : Option mx_V) (v2 v3 v4 : mx_V) (S h : mx_H) (n : Int), mx_ex d 263 1223 [l0, l1, l2, l3] [(1, b), (1, a), v2, v3, v4] S h n = mx_ex d 263 1224 [l0, l1, l2, l3] [(1, ml_or a b), v2, v3, v4] S h n) ∧
  (∀ (d : Nat) (x0 x1 x2 a : Int) (l0 l1 l2 l3 : Option mx_V) (S h : mx_H) (n : Int), mx_ex (d + 1) 263 1224 [l0, l1, l2, l3] [(1, x0), (0, x1), (0, x2), (2, a)] S h n = mx_cl (S a (-2) = 7) d 131 [(2, a), (0, x2), (0, x1), (1, x0)] 263 1227 [l0, l1, l2, l3] [] S h n) ∧
  (∀ (d : Nat) (x : Int) (l0 l1 l3 : Option mx_V) (v0 : mx_V) (S h : mx_H) (n : Int), mx_ex d 263 1227 [l0, l1, some (2, x), l3] [v0] S h n = mx_ex d 263 1228 [l0, l1, some (2, x), l3] [(2, x), v0] S h n) :=
  ⟨by intros; exact eq_iald rfl,
   by intros; exact eq_cv rfl (Nat.le_of_ble_eq_true rfl) rfl rfl rfl (Nat.le_of_ble_eq_true rfl),
   by intros; exact eq_ld rfl rfl,
   by intros; exact eq_ld rfl rfl,
   by intros; exact eq_ld rfl rfl,
   by intros; exact eq_push rfl,
   by intros; exact eq_i2 (o := mx_add) rfl,
   by intros; exact eq_iald rfl,
   by intros; exact eq_cv rfl (Nat.le_of_ble_eq_true rfl) rfl rfl rfl (Nat.le_of_ble_eq_true rfl),
   by intros; exact eq_ic0 rfl,
   by intros; exact eq_push rfl,
   by intros; exact eq_rr rfl,
   by intros; exact eq_ld rfl rfl,
   by intros; exact eq_ld rfl rfl,
   by intros; exact eq_ld rfl rfl,
   by intros; exact eq_push rfl,
   by intros; exact eq_i2 (o := mx_add) rfl,
   by intros; exact eq_iald rfl,
   by intros; exact eq_ld rfl rfl,
   by intros; exact eq_ld rfl rfl,
   by intros; exact eq_push rfl,
   by intros; exact eq_i2 (o := mx_add) rfl,
   by intros; exact eq_iald rfl,
   by intros; exact eq_cv rfl (Nat.le_of_ble_eq_true rfl) rfl rfl rfl (Nat.le_of_ble_eq_true rfl),
   by intros; exact eq_ld rfl rfl,
   by intros; exact eq_ld rfl rfl,
   by intros; exact eq_ld rfl rfl,
   by intros; exact eq_push rfl,
   by intros; exact eq_i2 (o := mx_add) rfl,
   by intros; exact eq_iald rfl,
   by intros; exact eq_ld rfl rfl,
   by intros; exact eq_ld rfl rfl,
   by intros; exact eq_push rfl,
   by intros; exact eq_i2 (o := mx_add) rfl,
   by intros; exact eq_iald rfl,
   by intros; exact eq_cv rfl (Nat.le_of_ble_eq_true rfl) rfl rfl rfl (Nat.le_of_ble_eq_true rfl),
   by intros; exact eq_lcmp rfl,
   by intros; exact eq_if0 rfl,
   by intros; exact eq_push rfl,
   by intros; exact eq_rr rfl,
   by intros; exact eq_ld rfl rfl,
   by intros; exact eq_ld rfl rfl,
   by intros; exact eq_ld rfl rfl,
   by intros; exact eq_push rfl,
   by intros; exact eq_i2 (o := mx_add) rfl,
   by intros; exact eq_iald rfl,
   by intros; exact eq_ld rfl rfl,
   by intros; exact eq_ld rfl rfl,
   by intros; exact eq_push rfl,
   by intros; exact eq_i2 (o := mx_add) rfl,
   by intros; exact eq_iald rfl,
   by intros; exact eq_ld rfl rfl,
   by intros; exact eq_ld rfl rfl,
   by intros; exact eq_push rfl,
   by intros; exact eq_i2 (o := mx_add) rfl,
   by intros; exact eq_iald rfl,
   by intros; exact eq_i2l rfl,
   by intros; exact eq_push rfl,
   by intros; exact eq_ls (o := ml_shl) rfl,
   by intros; exact eq_ld rfl rfl,
   by intros; exact eq_ld rfl rfl,
   by intros; exact eq_push rfl,
   by intros; exact eq_i2 (o := mx_add) rfl,
   by intros; exact eq_iald rfl,
   by intros; exact eq_i2l rfl,
   by intros; exact eq_push rfl,
   by intros; exact eq_l2 (o := ml_and) rfl,
   by intros; exact eq_l2 (o := ml_or) rfl,
   by intros; exact eq_cv rfl (Nat.le_of_ble_eq_true rfl) rfl rfl rfl (Nat.le_of_ble_eq_true rfl),
   by intros; exact eq_ld rfl rfl⟩
theorem rw_L_law_12 :
  (∀ (d : Nat) (x : Int) (l1 l2 l3 : Option mx_V) (v0 v1 : mx_V) (S h : mx_H) (n : Int), mx_ex d 263 1228 [some (2, x), l1, l2, l3] [v0, v1] S h n = mx_ex d 263 1229 [some (2, x), l1, l2, l3] [(2, x), v0, v1] S h n) ∧
  (∀ (d : Nat) (x : Int) (l0 l1 l2 : Option mx_V) (v0 v1 v2 : mx_V) (S h : mx_H) (n : Int), mx_ex d 263 1229 [l0, l1, l2, some (0, x)] [v0, v1, v2] S h n = mx_ex d 263 1230 [l0, l1, l2, some (0, x)] [(0, x), v0, v1, v2] S h n) ∧
  (∀ (d : Nat) (l0 l1 l2 l3 : Option mx_V) (v0 v1 v2 v3 : mx_V) (S h : mx_H) (n : Int), mx_ex d 263 1230 [l0, l1, l2, l3] [v0, v1, v2, v3] S h n = mx_ex d 263 1231 [l0, l1, l2, l3] [(0, 1), v0, v1, v2, v3] S h n) ∧
  (∀ (d : Nat) (b a : Int) (l0 l1 l2 l3 : Option mx_V) (v2 v3 v4 : mx_V) (S h : mx_H) (n : Int), mx_ex d 263 1231 [l0, l1, l2, l3] [(0, b), (0, a), v2, v3, v4] S h n = mx_ex d 263 1232 [l0, l1, l2, l3] [(0, mx_w (a + b)), v2, v3, v4] S h n) ∧
  (∀ (d : Nat) (i a : Int) (l0 l1 l2 l3 : Option mx_V) (v2 v3 : mx_V) (S h : mx_H) (n : Int), mx_ex d 263 1232 [l0, l1, l2, l3] [(0, i), (2, a), v2, v3] S h n = mx_gd ((S a (-2) = 20 ∨ S a (-2) = 24) ∧ 0 ≤ i ∧ i < S a (-1)) d 263 1233 [l0, l1, l2, l3] [(0, h a i), v2, v3] S h n) ∧
  (∀ (d : Nat) (x : Int) (l1 l2 l3 : Option mx_V) (v0 v1 v2 : mx_V) (S h : mx_H) (n : Int), mx_ex d 263 1233 [some (2, x), l1, l2, l3] [v0, v1, v2] S h n = mx_ex d 263 1234 [some (2, x), l1, l2, l3] [(2, x), v0, v1, v2] S h n) ∧
  (∀ (d : Nat) (x : Int) (l0 l1 l2 : Option mx_V) (v0 v1 v2 v3 : mx_V) (S h : mx_H) (n : Int), mx_ex d 263 1234 [l0, l1, l2, some (0, x)] [v0, v1, v2, v3] S h n = mx_ex d 263 1235 [l0, l1, l2, some (0, x)] [(0, x), v0, v1, v2, v3] S h n) ∧
  (∀ (d : Nat) (l0 l1 l2 l3 : Option mx_V) (v0 v1 v2 v3 v4 : mx_V) (S h : mx_H) (n : Int), mx_ex d 263 1235 [l0, l1, l2, l3] [v0, v1, v2, v3, v4] S h n = mx_ex d 263 1236 [l0, l1, l2, l3] [(0, 2), v0, v1, v2, v3, v4] S h n) ∧
  (∀ (d : Nat) (b a : Int) (l0 l1 l2 l3 : Option mx_V) (v2 v3 v4 v5 : mx_V) (S h : mx_H) (n : Int), mx_ex d 263 1236 [l0, l1, l2, l3] [(0, b), (0, a), v2, v3, v4, v5] S h n = mx_ex d 263 1237 [l0, l1, l2, l3] [(0, mx_w (a + b)), v2, v3, v4, v5] S h n) ∧
  (∀ (d : Nat) (i a : Int) (l0 l1 l2 l3 : Option mx_V) (v2 v3 v4 : mx_V) (S h : mx_H) (n : Int), mx_ex d 263 1237 [l0, l1, l2, l3] [(0, i), (2, a), v2, v3, v4] S h n = mx_gd ((S a (-2) = 20 ∨ S a (-2) = 24) ∧ 0 ≤ i ∧ i < S a (-1)) d 263 1238 [l0, l1, l2, l3] [(0, h a i), v2, v3, v4] S h n) ∧
  (∀ (d : Nat) (x : Int) (l1 l2 l3 : Option mx_V) (v0 v1 v2 v3 : mx_V) (S h : mx_H) (n : Int), mx_ex d 263 1238 [some (2, x), l1, l2, l3] [v0, v1, v2, v3] S h n = mx_ex d 263 1239 [some (2, x), l1, l2, l3] [(2, x), v0, v1, v2, v3] S h n) ∧
  (∀ (d : Nat) (x : Int) (l0 l1 l2 : Option mx_V) (v0 v1 v2 v3 v4 : mx_V) (S h : mx_H) (n : Int), mx_ex d 263 1239 [l0, l1, l2, some (0, x)] [v0, v1, v2, v3, v4] S h n = mx_ex d 263 1240 [l0, l1, l2, some (0, x)] [(0, x), v0, v1, v2, v3, v4] S h n) ∧
  (∀ (d : Nat) (l0 l1 l2 l3 : Option mx_V) (v0 v1 v2 v3 v4 v5 : mx_V) (S h : mx_H) (n : Int), mx_ex d 263 1240 [l0, l1, l2, l3] [v0, v1, v2, v3, v4, v5] S h n = mx_ex d 263 1241 [l0, l1, l2, l3] [(0, 3), v0, v1, v2, v3, v4, v5] S h n) ∧
  (∀ (d : Nat) (b a : Int) (l0 l1 l2 l3 : Option mx_V) (v2 v3 v4 v5 v6 : mx_V) (S h : mx_H) (n : Int), mx_ex d 263 1241 [l0, l1, l2, l3] [(0, b), (0, a), v2, v3, v4, v5, v6] S h n = mx_ex d 263 1242 [l0, l1, l2, l3] [(0, mx_w (a + b)), v2, v3, v4, v5, v6] S h n) ∧
  (∀ (d : Nat) (i a : Int) (l0 l1 l2 l3 : Option mx_V) (v2 v3 v4 v5 : mx_V) (S h : mx_H) (n : Int), mx_ex d 263 1242 [l0, l1, l2, l3] [(0, i), (2, a), v2, v3, v4, v5] S h n = mx_gd ((S a (-2) = 20 ∨ S a (-2) = 24) ∧ 0 ≤ i ∧ i < S a (-1)) d 263 1243 [l0, l1, l2, l3] [(0, h a i), v2, v3, v4, v5] S h n) ∧
  (∀ (d : Nat) (a : Int) (l0 l1 l2 l3 : Option mx_V) (v1 v2 v3 v4 : mx_V) (S h : mx_H) (n : Int), mx_ex d 263 1243 [l0, l1, l2, l3] [(0, a), v1, v2, v3, v4] S h n = mx_ex d 263 1244 [l0, l1, l2, l3] [(1, a), v1, v2, v3, v4] S h n) ∧
  (∀ (d : Nat) (l0 l1 l2 l3 : Option mx_V) (v0 v1 v2 v3 v4 : mx_V) (S h : mx_H) (n : Int), mx_ex d 263 1244 [l0, l1, l2, l3] [v0, v1, v2, v3, v4] S h n = mx_ex d 263 1246 [l0, l1, l2, l3] [(0, 32), v0, v1, v2, v3, v4] S h n) ∧
  (∀ (d : Nat) (b a : Int) (l0 l1 l2 l3 : Option mx_V) (v2 v3 v4 v5 : mx_V) (S h : mx_H) (n : Int), mx_ex d 263 1246 [l0, l1, l2, l3] [(0, b), (1, a), v2, v3, v4, v5] S h n = mx_ex d 263 1247 [l0, l1, l2, l3] [(1, ml_shl a b), v2, v3, v4, v5] S h n) ∧
  (∀ (d : Nat) (x : Int) (l1 l2 l3 : Option mx_V) (v0 v1 v2 v3 v4 : mx_V) (S h : mx_H) (n : Int), mx_ex d 263 1247 [some (2, x), l1, l2, l3] [v0, v1, v2, v3, v4] S h n = mx_ex d 263 1248 [some (2, x), l1, l2, l3] [(2, x), v0, v1, v2, v3, v4] S h n) ∧
  (∀ (d : Nat) (x : Int) (l0 l1 l2 : Option mx_V) (v0 v1 v2 v3 v4 v5 : mx_V) (S h : mx_H) (n : Int), mx_ex d 263 1248 [l0, l1, l2, some (0, x)] [v0, v1, v2, v3, v4, v5] S h n = mx_ex d 263 1249 [l0, l1, l2, some (0, x)] [(0, x), v0, v1, v2, v3, v4, v5] S h n) ∧
  (∀ (d : Nat) (l0 l1 l2 l3 : Option mx_V) (v0 v1 v2 v3 v4 v5 v6 : mx_V) (S h : mx_H) (n : Int), mx_ex d 263 1249 [l0, l1, l2, l3] [v0, v1, v2, v3, v4, v5, v6] S h n = mx_ex d 263 1250 [l0, l1, l2, l3] [(0, 4), v0, v1, v2, v3, v4, v5, v6] S h n) ∧
  (∀ (d : Nat) (b a : Int) (l0 l1 l2 l3 : Option mx_V) (v2 v3 v4 v5 v6 v7 : mx_V) (S h : mx_H) (n : Int), mx_ex d 263 1250 [l0, l1, l2, l3] [(0, b), (0, a), v2, v3, v4, v5, v6, v7] S h n = mx_ex d 263 1251 [l0, l1, l2, l3] [(0, mx_w (a + b)), v2, v3, v4, v5, v6, v7] S h n) ∧
  (∀ (d : Nat) (i a : Int) (l0 l1 l2 l3 : Option mx_V) (v2 v3 v4 v5 v6 : mx_V) (S h : mx_H) (n : Int), mx_ex d 263 1251 [l0, l1, l2, l3] [(0, i), (2, a), v2, v3, v4, v5, v6] S h n = mx_gd ((S a (-2) = 20 ∨ S a (-2) = 24) ∧ 0 ≤ i ∧ i < S a (-1)) d 263 1252 [l0, l1, l2, l3] [(0, h a i), v2, v3, v4, v5, v6] S h n) ∧
  (∀ (d : Nat) (a : Int) (l0 l1 l2 l3 : Option mx_V) (v1 v2 v3 v4 v5 : mx_V) (S h : mx_H) (n : Int), mx_ex d 263 1252 [l0, l1, l2, l3] [(0, a), v1, v2, v3, v4, v5] S h n = mx_ex d 263 1253 [l0, l1, l2, l3] [(1, a), v1, v2, v3, v4, v5] S h n) ∧
  (∀ (d : Nat) (l0 l1 l2 l3 : Option mx_V) (v0 v1 v2 v3 v4 v5 : mx_V) (S h : mx_H) (n : Int), mx_ex d 263 1253 [l0, l1, l2, l3] [v0, v1, v2, v3, v4, v5] S h n = mx_ex d 263 1256 [l0, l1, l2, l3] [(1, 4294967295), v0, v1, v2, v3, v4, v5] S h n) ∧
  (∀ (d : Nat) (b a : Int) (l0 l1 l2 l3 : Option mx_V) (v2 v3 v4 v5 v6 : mx_V) (S h : mx_H) (n : Int), mx_ex d 263 1256 [l0, l1, l2, l3] [(1, b), (1, a), v2, v3, v4, v5, v6] S h n = mx_ex d 263 1257 [l0, l1, l2, l3] [(1, ml_and a b), v2, v3, v4, v5, v6] S h n) ∧
  (∀ (d : Nat) (b a : Int) (l0 l1 l2 l3 : Option mx_V) (v2 v3 v4 v5 : mx_V) (S h : mx_H) (n : Int), mx_ex d 263 1257 [l0, l1, l2, l3] [(1, b), (1, a), v2, v3, v4, v5] S h n = mx_ex d 263 1258 [l0, l1, l2, l3] [(1, ml_or a b), v2, v3, v4, v5] S h n) ∧
  (∀ (d : Nat) (x0 x1 x2 a : Int) (l0 l1 l2 l3 : Option mx_V) (v4 : mx_V) (S h : mx_H) (n : Int), mx_ex (d + 1) 263 1258 [l0, l1, l2, l3] [(1, x0), (0, x1), (0, x2), (2, a), v4] S h n = mx_cl (S a (-2) = 13) d 224 [(2, a), (0, x2), (0, x1), (1, x0)] 263 1261 [l0, l1, l2, l3] [v4] S h n) ∧
  (∀ (d : Nat) (b a : Int) (l0 l1 l2 l3 : Option mx_V) (S h : mx_H) (n : Int), mx_ex d 263 1261 [l0, l1, l2, l3] [(1, b), (1, a)] S h n = mx_ex d 263 1262 [l0, l1, l2, l3] [(0, mx_cmp a b)] S h n) ∧
  (∀ (d : Nat) (a : Int) (l0 l1 l2 l3 : Option mx_V) (S h : mx_H) (n : Int), mx_ex d 263 1262 [l0, l1, l2, l3] [(0, a)] S h n = mx_br (a = 0) d 263 1653 1265 [l0, l1, l2, l3] [] S h n) ∧
  (∀ (d : Nat) (l0 l1 l2 l3 : Option mx_V) (S h : mx_H) (n : Int), mx_ex d 263 1265 [l0, l1, l2, l3] [] S h n = mx_ex d 263 1266 [l0, l1, l2, l3] [(0, 0)] S h n) ∧
  (∀ (d : Nat) (x : Int) (l0 l1 l2 l3 : Option mx_V) (S h : mx_H) (n : Int), mx_ex d 263 1266 [l0, l1, l2, l3] [(0, x)] S h n = mx_re (0 ≤ x ∧ x ≤ 1) (some (0, x)) S h n) ∧
  (∀ (d : Nat) (x : Int) (l0 l2 l3 : Option mx_V) (S h : mx_H) (n : Int), mx_ex d 263 1267 [l0, some (2, x), l2, l3] [] S h n = mx_ex d 263 1268 [l0, some (2, x), l2, l3] [(2, x)] S h n) ∧
  (∀ (d : Nat) (a : Int) (l0 l1 l2 l3 : Option mx_V) (S h : mx_H) (n : Int), mx_ex (d + 1) 263 1268 [l0, l1, l2, l3] [(2, a)] S h n = mx_cl (S a (-2) = 7) d 132 [(2, a)] 263 1271 [l0, l1, l2, l3] [] S h n) ∧
  (∀ (d : Nat) (x : Int) (l0 l1 l3 : Option mx_V) (v0 : mx_V) (S h : mx_H) (n : Int), mx_ex d 263 1271 [l0, l1, some (2, x), l3] [v0] S h n = mx_ex d 263 1272 [l0, l1, some (2, x), l3] [(2, x), v0] S h n) ∧
  (∀ (d : Nat) (a : Int) (l0 l1 l2 l3 : Option mx_V) (v1 : mx_V) (S h : mx_H) (n : Int), mx_ex (d + 1) 263 1272 [l0, l1, l2, l3] [(2, a), v1] S h n = mx_cl (S a (-2) = 13) d 226 [(2, a)] 263 1275 [l0, l1, l2, l3] [v1] S h n) ∧
  (∀ (d : Nat) (b a : Int) (l0 l1 l2 l3 : Option mx_V) (S h : mx_H) (n : Int), mx_ex d 263 1275 [l0, l1, l2, l3] [(0, b), (0, a)] S h n = mx_br (a = b) d 263 1653 1278 [l0, l1, l2, l3] [] S h n) ∧
  (∀ (d : Nat) (l0 l1 l2 l3 : Option mx_V) (S h : mx_H) (n : Int), mx_ex d 263 1278 [l0, l1, l2, l3] [] S h n = mx_ex d 263 1279 [l0, l1, l2, l3] [(0, 0)] S h n) ∧
  (∀ (d : Nat) (x : Int) (l0 l1 l2 l3 : Option mx_V) (S h : mx_H) (n : Int), mx_ex d 263 1279 [l0, l1, l2, l3] [(0, x)] S h n = mx_re (0 ≤ x ∧ x ≤ 1) (some (0, x)) S h n) ∧
  (∀ (d : Nat) (x : Int) (l0 l2 l3 : Option mx_V) (S h : mx_H) (n : Int), mx_ex d 263 1280 [l0, some (2, x), l2, l3] [] S h n = mx_ex d 263 1281 [l0, some (2, x), l2, l3] [(2, x)] S h n) ∧
  (∀ (d : Nat) (x : Int) (l1 l2 l3 : Option mx_V) (v0 : mx_V) (S h : mx_H) (n : Int), mx_ex d 263 1281 [some (2, x), l1, l2, l3] [v0] S h n = mx_ex d 263 1282 [some (2, x), l1, l2, l3] [(2, x), v0] S h n) ∧
  (∀ (d : Nat) (x : Int) (l0 l1 l2 : Option mx_V) (v0 v1 : mx_V) (S h : mx_H) (n : Int), mx_ex d 263 1282 [l0, l1, l2, some (0, x)] [v0, v1] S h n = mx_ex d 263 1283 [l0, l1, l2, some (0, x)] [(0, x), v0, v1] S h n) ∧
  (∀ (d : Nat) (l0 l1 l2 l3 : Option mx_V) (v0 v1 v2 : mx_V) (S h : mx_H) (n : Int), mx_ex d 263 1283 [l0, l1, l2, l3] [v0, v1, v2] S h n = mx_ex d 263 1284 [l0, l1, l2, l3] [(0, 1), v0, v1, v2] S h n) ∧
  (∀ (d : Nat) (b a : Int) (l0 l1 l2 l3 : Option mx_V) (v2 v3 : mx_V) (S h : mx_H) (n : Int), mx_ex d 263 1284 [l0, l1, l2, l3] [(0, b), (0, a), v2, v3] S h n = mx_ex d 263 1285 [l0, l1, l2, l3] [(0, mx_w (a + b)), v2, v3] S h n) ∧
  (∀ (d : Nat) (i a : Int) (l0 l1 l2 l3 : Option mx_V) (v2 : mx_V) (S h : mx_H) (n : Int), mx_ex d 263 1285 [l0, l1, l2, l3] [(0, i), (2, a), v2] S h n = mx_gd ((S a (-2) = 20 ∨ S a (-2) = 24) ∧ 0 ≤ i ∧ i < S a (-1)) d 263 1286 [l0, l1, l2, l3] [(0, h a i), v2] S h n) ∧
  (∀ (d : Nat) (x : Int) (l1 l2 l3 : Option mx_V) (v0 v1 : mx_V) (S h : mx_H) (n : Int), mx_ex d 263 1286 [some (2, x), l1, l2, l3] [v0, v1] S h n = mx_ex d 263 1287 [some (2, x), l1, l2, l3] [(2, x), v0, v1] S h n) ∧
  (∀ (d : Nat) (x : Int) (l0 l1 l2 : Option mx_V) (v0 v1 v2 : mx_V) (S h : mx_H) (n : Int), mx_ex d 263 1287 [l0, l1, l2, some (0, x)] [v0, v1, v2] S h n = mx_ex d 263 1288 [l0, l1, l2, some (0, x)] [(0, x), v0, v1, v2] S h n) ∧
  (∀ (d : Nat) (l0 l1 l2 l3 : Option mx_V) (v0 v1 v2 v3 : mx_V) (S h : mx_H) (n : Int), mx_ex d 263 1288 [l0, l1, l2, l3] [v0, v1, v2, v3] S h n = mx_ex d 263 1289 [l0, l1, l2, l3] [(0, 2), v0, v1, v2, v3] S h n) ∧
  (∀ (d : Nat) (b a : Int) (l0 l1 l2 l3 : Option mx_V) (v2 v3 v4 : mx_V) (S h : mx_H) (n : Int), mx_ex d 263 1289 [l0, l1, l2, l3] [(0, b), (0, a), v2, v3, v4] S h n = mx_ex d 263 1290 [l0, l1, l2, l3] [(0, mx_w (a + b)), v2, v3, v4] S h n) ∧
  (∀ (d : Nat) (i a : Int) (l0 l1 l2 l3 : Option mx_V) (v2 v3 : mx_V) (S h : mx_H) (n : Int), mx_ex d 263 1290 [l0, l1, l2, l3] [(0, i), (2, a), v2, v3] S h n = mx_gd ((S a (-2) = 20 ∨ S a (-2) = 24) ∧ 0 ≤ i ∧ i < S a (-1)) d 263 1291 [l0, l1, l2, l3] [(0, h a i), v2, v3] S h n) ∧
  (∀ (d : Nat) (x : Int) (l1 l2 l3 : Option mx_V) (v0 v1 v2 : mx_V) (S h : mx_H) (n : Int), mx_ex d 263 1291 [some (2, x), l1, l2, l3] [v0, v1, v2] S h n = mx_ex d 263 1292 [some (2, x), l1, l2, l3] [(2, x), v0, v1, v2] S h n) ∧
  (∀ (d : Nat) (x : Int) (l0 l1 l2 : Option mx_V) (v0 v1 v2 v3 : mx_V) (S h : mx_H) (n : Int), mx_ex d 263 1292 [l0, l1, l2, some (0, x)] [v0, v1, v2, v3] S h n = mx_ex d 263 1293 [l0, l1, l2, some (0, x)] [(0, x), v0, v1, v2, v3] S h n) ∧
  (∀ (d : Nat) (l0 l1 l2 l3 : Option mx_V) (v0 v1 v2 v3 v4 : mx_V) (S h : mx_H) (n : Int), mx_ex d 263 1293 [l0, l1, l2, l3] [v0, v1, v2, v3, v4] S h n = mx_ex d 263 1294 [l0, l1, l2, l3] [(0, 3), v0, v1, v2, v3, v4] S h n) ∧
  (∀ (d : Nat) (b a : Int) (l0 l1 l2 l3 : Option mx_V) (v2 v3 v4 v5 : mx_V) (S h : mx_H) (n : Int), mx_ex d 263 1294 [l0, l1, l2, l3] [(0, b), (0, a), v2, v3, v4, v5] S h n = mx_ex d 263 1295 [l0, l1, l2, l3] [(0, mx_w (a + b)), v2, v3, v4, v5] S h n) ∧
  (∀ (d : Nat) (i a : Int) (l0 l1 l2 l3 : Option mx_V) (v2 v3 v4 : mx_V) (S h : mx_H) (n : Int), mx_ex d 263 1295 [l0, l1, l2, l3] [(0, i), (2, a), v2, v3, v4] S h n = mx_gd ((S a (-2) = 20 ∨ S a (-2) = 24) ∧ 0 ≤ i ∧ i < S a (-1)) d 263 1296 [l0, l1, l2, l3] [(0, h a i), v2, v3, v4] S h n) ∧
  (∀ (d : Nat) (x : Int) (l1 l2 l3 : Option mx_V) (v0 v1 v2 v3 : mx_V) (S h : mx_H) (n : Int), mx_ex d 263 1296 [some (2, x), l1, l2, l3] [v0, v1, v2, v3] S h n = mx_ex d 263 1297 [some (2, x), l1, l2, l3] [(2, x), v0, v1, v2, v3] S h n) ∧
  (∀ (d : Nat) (x : Int) (l0 l1 l2 : Option mx_V) (v0 v1 v2 v3 v4 : mx_V) (S h : mx_H) (n : Int), mx_ex d 263 1297 [l0, l1, l2, some (0, x)] [v0, v1, v2, v3, v4] S h n = mx_ex d 263 1298 [l0, l1, l2, some (0, x)] [(0, x), v0, v1, v2, v3, v4] S h n) ∧
  (∀ (d : Nat) (l0 l1 l2 l3 : Option mx_V) (v0 v1 v2 v3 v4 v5 : mx_V) (S h : mx_H) (n : Int), mx_ex d 263 1298 [l0, l1, l2, l3] [v0, v1, v2, v3, v4, v5] S h n = mx_ex d 263 1299 [l0, l1, l2, l3] [(0, 4), v0, v1, v2, v3, v4, v5] S h n) ∧
  (∀ (d : Nat) (b a : Int) (l0 l1 l2 l3 : Option mx_V) (v2 v3 v4 v5 v6 : mx_V) (S h : mx_H) (n : Int), mx_ex d 263 1299 [l0, l1, l2, l3] [(0, b), (0, a), v2, v3, v4, v5, v6] S h n = mx_ex d 263 1300 [l0, l1, l2, l3] [(0, mx_w (a + b)), v2, v3, v4, v5, v6] S h n) ∧
  (∀ (d : Nat) (i a : Int) (l0 l1 l2 l3 : Option mx_V) (v2 v3 v4 v5 : mx_V) (S h : mx_H) (n : Int), mx_ex d 263 1300 [l0, l1, l2, l3] [(0, i), (2, a), v2, v3, v4, v5] S h n = mx_gd ((S a (-2) = 20 ∨ S a (-2) = 24) ∧ 0 ≤ i ∧ i < S a (-1)) d 263 1301 [l0, l1, l2, l3] [(0, h a i), v2, v3, v4, v5] S h n) ∧
  (∀ (d : Nat) (x0 x1 x2 x3 a : Int) (l0 l1 l2 l3 : Option mx_V) (S h : mx_H) (n : Int), mx_ex (d + 1) 263 1301 [l0, l1, l2, l3] [(0, x0), (0, x1), (0, x2), (0, x3), (2, a)] S h n = mx_cl (S a (-2) = 7) d 133 [(2, a), (0, x3), (0, x2), (0, x1), (0, x0)] 263 1304 [l0, l1, l2, l3] [] S h n) ∧
  (∀ (d : Nat) (x : Int) (l0 l1 l3 : Option mx_V) (v0 : mx_V) (S h : mx_H) (n : Int), mx_ex d 263 1304 [l0, l1, some (2, x), l3] [v0] S h n = mx_ex d 263 1305 [l0, l1, some (2, x), l3] [(2, x), v0] S h n) ∧
  (∀ (d : Nat) (x : Int) (l1 l2 l3 : Option mx_V) (v0 v1 : mx_V) (S h : mx_H) (n : Int), mx_ex d 263 1305 [some (2, x), l1, l2, l3] [v0, v1] S h n = mx_ex d 263 1306 [some (2, x), l1, l2, l3] [(2, x), v0, v1] S h n) ∧
  (∀ (d : Nat) (x : Int) (l0 l1 l2 : Option mx_V) (v0 v1 v2 : mx_V) (S h : mx_H) (n : Int), mx_ex d 263 1306 [l0, l1, l2, some (0, x)] [v0, v1, v2] S h n = mx_ex d 263 1307 [l0, l1, l2, some (0, x)] [(0, x), v0, v1, v2] S h n) ∧
  (∀ (d : Nat) (l0 l1 l2 l3 : Option mx_V) (v0 v1 v2 v3 : mx_V) (S h : mx_H) (n : Int), mx_ex d 263 1307 [l0, l1, l2, l3] [v0, v1, v2, v3] S h n = mx_ex d 263 1308 [l0, l1, l2, l3] [(0, 1), v0, v1, v2, v3] S h n) ∧
  (∀ (d : Nat) (b a : Int) (l0 l1 l2 l3 : Option mx_V) (v2 v3 v4 : mx_V) (S h : mx_H) (n : Int), mx_ex d 263 1308 [l0, l1, l2, l3] [(0, b), (0, a), v2, v3, v4] S h n = mx_ex d 263 1309 [l0, l1, l2, l3] [(0, mx_w (a + b)), v2, v3, v4] S h n) ∧
  (∀ (d : Nat) (i a : Int) (l0 l1 l2 l3 : Option mx_V) (v2 v3 : mx_V) (S h : mx_H) (n : Int), mx_ex d 263 1309 [l0, l1, l2, l3] [(0, i), (2, a), v2, v3] S h n = mx_gd ((S a (-2) = 20 ∨ S a (-2) = 24) ∧ 0 ≤ i ∧ i < S a (-1)) d 263 1310 [l0, l1, l2, l3] [(0, h a i), v2, v3] S h n) ∧
  (∀ (d : Nat) (x : Int) (l1 l2 l3 : Option mx_V) (v0 v1 v2 : mx_V) (S h : mx_H) (n : Int), mx_ex d 263 1310 [some (2, x), l1, l2, l3] [v0, v1, v2] S h n = mx_ex d 263 1311 [some (2, x), l1, l2, l3] [(2, x), v0, v1, v2] S h n) ∧
  (∀ (d : Nat) (x : Int) (l0 l1 l2 : Option mx_V) (v0 v1 v2 v3 : mx_V) (S h : mx_H) (n : Int), mx_ex d 263 1311 [l0, l1, l2, some (0, x)] [v0, v1, v2, v3] S h n = mx_ex d 263 1312 [l0, l1, l2, some (0, x)] [(0, x), v0, v1, v2, v3] S h n) ∧
  (∀ (d : Nat) (l0 l1 l2 l3 : Option mx_V) (v0 v1 v2 v3 v4 : mx_V) (S h : mx_H) (n : Int), mx_ex d 263 1312 [l0, l1, l2, l3] [v0, v1, v2, v3, v4] S h n = mx_ex d 263 1313 [l0, l1, l2, l3] [(0, 2), v0, v1, v2, v3, v4] S h n) :=
  ⟨by intros; exact eq_ld rfl rfl,
   by intros; exact eq_ld rfl rfl,
   by intros; exact eq_push rfl,
   by intros; exact eq_i2 (o := mx_add) rfl,
   by intros; exact eq_iald rfl,
   by intros; exact eq_ld rfl rfl,
   by intros; exact eq_ld rfl rfl,
   by intros; exact eq_push rfl,
   by intros; exact eq_i2 (o := mx_add) rfl,
   by intros; exact eq_iald rfl,
   by intros; exact eq_ld rfl rfl,
   by intros; exact eq_ld rfl rfl,
   by intros; exact eq_push rfl,
   by intros; exact eq_i2 (o := mx_add) rfl,
   by intros; exact eq_iald rfl,
   by intros; exact eq_i2l rfl,
   by intros; exact eq_push rfl,
   by intros; exact eq_ls (o := ml_shl) rfl,
   by intros; exact eq_ld rfl rfl,
   by intros; exact eq_ld rfl rfl,
   by intros; exact eq_push rfl,
   by intros; exact eq_i2 (o := mx_add) rfl,
   by intros; exact eq_iald rfl,
   by intros; exact eq_i2l rfl,
   by intros; exact eq_push rfl,
   by intros; exact eq_l2 (o := ml_and) rfl,
   by intros; exact eq_l2 (o := ml_or) rfl,
   by intros; exact eq_cv rfl (Nat.le_of_ble_eq_true rfl) rfl rfl rfl (Nat.le_of_ble_eq_true rfl),
   by intros; exact eq_lcmp rfl,
   by intros; exact eq_if0 rfl,
   by intros; exact eq_push rfl,
   by intros; exact eq_rr rfl,
   by intros; exact eq_ld rfl rfl,
   by intros; exact eq_cv rfl (Nat.le_of_ble_eq_true rfl) rfl rfl rfl (Nat.le_of_ble_eq_true rfl),
   by intros; exact eq_ld rfl rfl,
   by intros; exact eq_cv rfl (Nat.le_of_ble_eq_true rfl) rfl rfl rfl (Nat.le_of_ble_eq_true rfl),
   by intros; exact eq_ic0 rfl,
   by intros; exact eq_push rfl,
   by intros; exact eq_rr rfl,
   by intros; exact eq_ld rfl rfl,
   by intros; exact eq_ld rfl rfl,
   by intros; exact eq_ld rfl rfl,
   by intros; exact eq_push rfl,
   by intros; exact eq_i2 (o := mx_add) rfl,
   by intros; exact eq_iald rfl,
   by intros; exact eq_ld rfl rfl,
   by intros; exact eq_ld rfl rfl,
   by intros; exact eq_push rfl,
   by intros; exact eq_i2 (o := mx_add) rfl,
   by intros; exact eq_iald rfl,
   by intros; exact eq_ld rfl rfl,
   by intros; exact eq_ld rfl rfl,
   by intros; exact eq_push rfl,
   by intros; exact eq_i2 (o := mx_add) rfl,
   by intros; exact eq_iald rfl,
   by intros; exact eq_ld rfl rfl,
   by intros; exact eq_ld rfl rfl,
   by intros; exact eq_push rfl,
   by intros; exact eq_i2 (o := mx_add) rfl,
   by intros; exact eq_iald rfl,
   by intros; exact eq_cv rfl (Nat.le_of_ble_eq_true rfl) rfl rfl rfl (Nat.le_of_ble_eq_true rfl),
   by intros; exact eq_ld rfl rfl,
   by intros; exact eq_ld rfl rfl,
   by intros; exact eq_ld rfl rfl,
   by intros; exact eq_push rfl,
   by intros; exact eq_i2 (o := mx_add) rfl,
   by intros; exact eq_iald rfl,
   by intros; exact eq_ld rfl rfl,
   by intros; exact eq_ld rfl rfl,
   by intros; exact eq_push rfl⟩
theorem rw_L_law_13 :
  (∀ (d : Nat) (b a : Int) (l0 l1 l2 l3 : Option mx_V) (v2 v3 v4 v5 : mx_V) (S h : mx_H) (n : Int), mx_ex d 263 1313 [l0, l1, l2, l3] [(0, b), (0, a), v2, v3, v4, v5] S h n = mx_ex d 263 1314 [l0, l1, l2, l3] [(0, mx_w (a + b)), v2, v3, v4, v5] S h n) ∧
  (∀ (d : Nat) (i a : Int) (l0 l1 l2 l3 : Option mx_V) (v2 v3 v4 : mx_V) (S h : mx_H) (n : Int), mx_ex d 263 1314 [l0, l1, l2, l3] [(0, i), (2, a), v2, v3, v4] S h n = mx_gd ((S a (-2) = 20 ∨ S a (-2) = 24) ∧ 0 ≤ i ∧ i < S a (-1)) d 263 1315 [l0, l1, l2, l3] [(0, h a i), v2, v3, v4] S h n) ∧
  (∀ (d : Nat) (x : Int) (l1 l2 l3 : Option mx_V) (v0 v1 v2 v3 : mx_V) (S h : mx_H) (n : Int), mx_ex d 263 1315 [some (2, x), l1, l2, l3] [v0, v1, v2, v3] S h n = mx_ex d 263 1316 [some (2, x), l1, l2, l3] [(2, x), v0, v1, v2, v3] S h n) ∧
  (∀ (d : Nat) (x : Int) (l0 l1 l2 : Option mx_V) (v0 v1 v2 v3 v4 : mx_V) (S h : mx_H) (n : Int), mx_ex d 263 1316 [l0, l1, l2, some (0, x)] [v0, v1, v2, v3, v4] S h n = mx_ex d 263 1317 [l0, l1, l2, some (0, x)] [(0, x), v0, v1, v2, v3, v4] S h n) ∧
  (∀ (d : Nat) (l0 l1 l2 l3 : Option mx_V) (v0 v1 v2 v3 v4 v5 : mx_V) (S h : mx_H) (n : Int), mx_ex d 263 1317 [l0, l1, l2, l3] [v0, v1, v2, v3, v4, v5] S h n = mx_ex d 263 1318 [l0, l1, l2, l3] [(0, 3), v0, v1, v2, v3, v4, v5] S h n) ∧
  (∀ (d : Nat) (b a : Int) (l0 l1 l2 l3 : Option mx_V) (v2 v3 v4 v5 v6 : mx_V) (S h : mx_H) (n : Int), mx_ex d 263 1318 [l0, l1, l2, l3] [(0, b), (0, a), v2, v3, v4, v5, v6] S h n = mx_ex d 263 1319 [l0, l1, l2, l3] [(0, mx_w (a + b)), v2, v3, v4, v5, v6] S h n) ∧
  (∀ (d : Nat) (i a : Int) (l0 l1 l2 l3 : Option mx_V) (v2 v3 v4 v5 : mx_V) (S h : mx_H) (n : Int), mx_ex d 263 1319 [l0, l1, l2, l3] [(0, i), (2, a), v2, v3, v4, v5] S h n = mx_gd ((S a (-2) = 20 ∨ S a (-2) = 24) ∧ 0 ≤ i ∧ i < S a (-1)) d 263 1320 [l0, l1, l2, l3] [(0, h a i), v2, v3, v4, v5] S h n) ∧
  (∀ (d : Nat) (x : Int) (l1 l2 l3 : Option mx_V) (v0 v1 v2 v3 v4 : mx_V) (S h : mx_H) (n : Int), mx_ex d 263 1320 [some (2, x), l1, l2, l3] [v0, v1, v2, v3, v4] S h n = mx_ex d 263 1321 [some (2, x), l1, l2, l3] [(2, x), v0, v1, v2, v3, v4] S h n) ∧
  (∀ (d : Nat) (x : Int) (l0 l1 l2 : Option mx_V) (v0 v1 v2 v3 v4 v5 : mx_V) (S h : mx_H) (n : Int), mx_ex d 263 1321 [l0, l1, l2, some (0, x)] [v0, v1, v2, v3, v4, v5] S h n = mx_ex d 263 1322 [l0, l1, l2, some (0, x)] [(0, x), v0, v1, v2, v3, v4, v5] S h n) ∧
  (∀ (d : Nat) (l0 l1 l2 l3 : Option mx_V) (v0 v1 v2 v3 v4 v5 v6 : mx_V) (S h : mx_H) (n : Int), mx_ex d 263 1322 [l0, l1, l2, l3] [v0, v1, v2, v3, v4, v5, v6] S h n = mx_ex d 263 1323 [l0, l1, l2, l3] [(0, 4), v0, v1, v2, v3, v4, v5, v6] S h n) ∧
  (∀ (d : Nat) (b a : Int) (l0 l1 l2 l3 : Option mx_V) (v2 v3 v4 v5 v6 v7 : mx_V) (S h : mx_H) (n : Int), mx_ex d 263 1323 [l0, l1, l2, l3] [(0, b), (0, a), v2, v3, v4, v5, v6, v7] S h n = mx_ex d 263 1324 [l0, l1, l2, l3] [(0, mx_w (a + b)), v2, v3, v4, v5, v6, v7] S h n) ∧
  (∀ (d : Nat) (i a : Int) (l0 l1 l2 l3 : Option mx_V) (v2 v3 v4 v5 v6 : mx_V) (S h : mx_H) (n : Int), mx_ex d 263 1324 [l0, l1, l2, l3] [(0, i), (2, a), v2, v3, v4, v5, v6] S h n = mx_gd ((S a (-2) = 20 ∨ S a (-2) = 24) ∧ 0 ≤ i ∧ i < S a (-1)) d 263 1325 [l0, l1, l2, l3] [(0, h a i), v2, v3, v4, v5, v6] S h n) ∧
  (∀ (d : Nat) (x0 x1 x2 x3 a : Int) (l0 l1 l2 l3 : Option mx_V) (v5 : mx_V) (S h : mx_H) (n : Int), mx_ex (d + 1) 263 1325 [l0, l1, l2, l3] [(0, x0), (0, x1), (0, x2), (0, x3), (2, a), v5] S h n = mx_cl (S a (-2) = 13) d 228 [(2, a), (0, x3), (0, x2), (0, x1), (0, x0)] 263 1328 [l0, l1, l2, l3] [v5] S h n) ∧
  (∀ (d : Nat) (b a : Int) (l0 l1 l2 l3 : Option mx_V) (S h : mx_H) (n : Int), mx_ex d 263 1328 [l0, l1, l2, l3] [(0, b), (0, a)] S h n = mx_br (a = b) d 263 1653 1331 [l0, l1, l2, l3] [] S h n) ∧
  (∀ (d : Nat) (l0 l1 l2 l3 : Option mx_V) (S h : mx_H) (n : Int), mx_ex d 263 1331 [l0, l1, l2, l3] [] S h n = mx_ex d 263 1332 [l0, l1, l2, l3] [(0, 0)] S h n) ∧
  (∀ (d : Nat) (x : Int) (l0 l1 l2 l3 : Option mx_V) (S h : mx_H) (n : Int), mx_ex d 263 1332 [l0, l1, l2, l3] [(0, x)] S h n = mx_re (0 ≤ x ∧ x ≤ 1) (some (0, x)) S h n) ∧
  (∀ (d : Nat) (x : Int) (l0 l2 l3 : Option mx_V) (S h : mx_H) (n : Int), mx_ex d 263 1333 [l0, some (2, x), l2, l3] [] S h n = mx_ex d 263 1334 [l0, some (2, x), l2, l3] [(2, x)] S h n) ∧
  (∀ (d : Nat) (x : Int) (l1 l2 l3 : Option mx_V) (v0 : mx_V) (S h : mx_H) (n : Int), mx_ex d 263 1334 [some (2, x), l1, l2, l3] [v0] S h n = mx_ex d 263 1335 [some (2, x), l1, l2, l3] [(2, x), v0] S h n) ∧
  (∀ (d : Nat) (x : Int) (l0 l1 l2 : Option mx_V) (v0 v1 : mx_V) (S h : mx_H) (n : Int), mx_ex d 263 1335 [l0, l1, l2, some (0, x)] [v0, v1] S h n = mx_ex d 263 1336 [l0, l1, l2, some (0, x)] [(0, x), v0, v1] S h n) ∧
  (∀ (d : Nat) (l0 l1 l2 l3 : Option mx_V) (v0 v1 v2 : mx_V) (S h : mx_H) (n : Int), mx_ex d 263 1336 [l0, l1, l2, l3] [v0, v1, v2] S h n = mx_ex d 263 1337 [l0, l1, l2, l3] [(0, 1), v0, v1, v2] S h n) ∧
  (∀ (d : Nat) (b a : Int) (l0 l1 l2 l3 : Option mx_V) (v2 v3 : mx_V) (S h : mx_H) (n : Int), mx_ex d 263 1337 [l0, l1, l2, l3] [(0, b), (0, a), v2, v3] S h n = mx_ex d 263 1338 [l0, l1, l2, l3] [(0, mx_w (a + b)), v2, v3] S h n) ∧
  (∀ (d : Nat) (i a : Int) (l0 l1 l2 l3 : Option mx_V) (v2 : mx_V) (S h : mx_H) (n : Int), mx_ex d 263 1338 [l0, l1, l2, l3] [(0, i), (2, a), v2] S h n = mx_gd ((S a (-2) = 20 ∨ S a (-2) = 24) ∧ 0 ≤ i ∧ i < S a (-1)) d 263 1339 [l0, l1, l2, l3] [(0, h a i), v2] S h n) ∧
  (∀ (d : Nat) (x : Int) (l1 l2 l3 : Option mx_V) (v0 v1 : mx_V) (S h : mx_H) (n : Int), mx_ex d 263 1339 [some (2, x), l1, l2, l3] [v0, v1] S h n = mx_ex d 263 1340 [some (2, x), l1, l2, l3] [(2, x), v0, v1] S h n) ∧
  (∀ (d : Nat) (x : Int) (l0 l1 l2 : Option mx_V) (v0 v1 v2 : mx_V) (S h : mx_H) (n : Int), mx_ex d 263 1340 [l0, l1, l2, some (0, x)] [v0, v1, v2] S h n = mx_ex d 263 1341 [l0, l1, l2, some (0, x)] [(0, x), v0, v1, v2] S h n) ∧
  (∀ (d : Nat) (l0 l1 l2 l3 : Option mx_V) (v0 v1 v2 v3 : mx_V) (S h : mx_H) (n : Int), mx_ex d 263 1341 [l0, l1, l2, l3] [v0, v1, v2, v3] S h n = mx_ex d 263 1342 [l0, l1, l2, l3] [(0, 2), v0, v1, v2, v3] S h n) ∧
  (∀ (d : Nat) (b a : Int) (l0 l1 l2 l3 : Option mx_V) (v2 v3 v4 : mx_V) (S h : mx_H) (n : Int), mx_ex d 263 1342 [l0, l1, l2, l3] [(0, b), (0, a), v2, v3, v4] S h n = mx_ex d 263 1343 [l0, l1, l2, l3] [(0, mx_w (a + b)), v2, v3, v4] S h n) ∧
  (∀ (d : Nat) (i a : Int) (l0 l1 l2 l3 : Option mx_V) (v2 v3 : mx_V) (S h : mx_H) (n : Int), mx_ex d 263 1343 [l0, l1, l2, l3] [(0, i), (2, a), v2, v3] S h n = mx_gd ((S a (-2) = 20 ∨ S a (-2) = 24) ∧ 0 ≤ i ∧ i < S a (-1)) d 263 1344 [l0, l1, l2, l3] [(0, h a i), v2, v3] S h n) ∧
  (∀ (d : Nat) (x : Int) (l1 l2 l3 : Option mx_V) (v0 v1 v2 : mx_V) (S h : mx_H) (n : Int), mx_ex d 263 1344 [some (2, x), l1, l2, l3] [v0, v1, v2] S h n = mx_ex d 263 1345 [some (2, x), l1, l2, l3] [(2, x), v0, v1, v2] S h n) ∧
  (∀ (d : Nat) (x : Int) (l0 l1 l2 : Option mx_V) (v0 v1 v2 v3 : mx_V) (S h : mx_H) (n : Int), mx_ex d 263 1345 [l0, l1, l2, some (0, x)] [v0, v1, v2, v3] S h n = mx_ex d 263 1346 [l0, l1, l2, some (0, x)] [(0, x), v0, v1, v2, v3] S h n) ∧
  (∀ (d : Nat) (l0 l1 l2 l3 : Option mx_V) (v0 v1 v2 v3 v4 : mx_V) (S h : mx_H) (n : Int), mx_ex d 263 1346 [l0, l1, l2, l3] [v0, v1, v2, v3, v4] S h n = mx_ex d 263 1347 [l0, l1, l2, l3] [(0, 3), v0, v1, v2, v3, v4] S h n) ∧
  (∀ (d : Nat) (b a : Int) (l0 l1 l2 l3 : Option mx_V) (v2 v3 v4 v5 : mx_V) (S h : mx_H) (n : Int), mx_ex d 263 1347 [l0, l1, l2, l3] [(0, b), (0, a), v2, v3, v4, v5] S h n = mx_ex d 263 1348 [l0, l1, l2, l3] [(0, mx_w (a + b)), v2, v3, v4, v5] S h n) ∧
  (∀ (d : Nat) (i a : Int) (l0 l1 l2 l3 : Option mx_V) (v2 v3 v4 : mx_V) (S h : mx_H) (n : Int), mx_ex d 263 1348 [l0, l1, l2, l3] [(0, i), (2, a), v2, v3, v4] S h n = mx_gd ((S a (-2) = 20 ∨ S a (-2) = 24) ∧ 0 ≤ i ∧ i < S a (-1)) d 263 1349 [l0, l1, l2, l3] [(0, h a i), v2, v3, v4] S h n) ∧
  (∀ (d : Nat) (x0 x1 x2 a : Int) (l0 l1 l2 l3 : Option mx_V) (S h : mx_H) (n : Int), mx_ex (d + 1) 263 1349 [l0, l1, l2, l3] [(0, x0), (0, x1), (0, x2), (2, a)] S h n = mx_cl (S a (-2) = 7) d 134 [(2, a), (0, x2), (0, x1), (0, x0)] 263 1352 [l0, l1, l2, l3] [] S h n) ∧
  (∀ (d : Nat) (x : Int) (l0 l1 l3 : Option mx_V) (v0 : mx_V) (S h : mx_H) (n : Int), mx_ex d 263 1352 [l0, l1, some (2, x), l3] [v0] S h n = mx_ex d 263 1353 [l0, l1, some (2, x), l3] [(2, x), v0] S h n) ∧
  (∀ (d : Nat) (x : Int) (l1 l2 l3 : Option mx_V) (v0 v1 : mx_V) (S h : mx_H) (n : Int), mx_ex d 263 1353 [some (2, x), l1, l2, l3] [v0, v1] S h n = mx_ex d 263 1354 [some (2, x), l1, l2, l3] [(2, x), v0, v1] S h n) ∧
  (∀ (d : Nat) (x : Int) (l0 l1 l2 : Option mx_V) (v0 v1 v2 : mx_V) (S h : mx_H) (n : Int), mx_ex d 263 1354 [l0, l1, l2, some (0, x)] [v0, v1, v2] S h n = mx_ex d 263 1355 [l0, l1, l2, some (0, x)] [(0, x), v0, v1, v2] S h n) ∧
  (∀ (d : Nat) (l0 l1 l2 l3 : Option mx_V) (v0 v1 v2 v3 : mx_V) (S h : mx_H) (n : Int), mx_ex d 263 1355 [l0, l1, l2, l3] [v0, v1, v2, v3] S h n = mx_ex d 263 1356 [l0, l1, l2, l3] [(0, 1), v0, v1, v2, v3] S h n) ∧
  (∀ (d : Nat) (b a : Int) (l0 l1 l2 l3 : Option mx_V) (v2 v3 v4 : mx_V) (S h : mx_H) (n : Int), mx_ex d 263 1356 [l0, l1, l2, l3] [(0, b), (0, a), v2, v3, v4] S h n = mx_ex d 263 1357 [l0, l1, l2, l3] [(0, mx_w (a + b)), v2, v3, v4] S h n) ∧
  (∀ (d : Nat) (i a : Int) (l0 l1 l2 l3 : Option mx_V) (v2 v3 : mx_V) (S h : mx_H) (n : Int), mx_ex d 263 1357 [l0, l1, l2, l3] [(0, i), (2, a), v2, v3] S h n = mx_gd ((S a (-2) = 20 ∨ S a (-2) = 24) ∧ 0 ≤ i ∧ i < S a (-1)) d 263 1358 [l0, l1, l2, l3] [(0, h a i), v2, v3] S h n) ∧
  (∀ (d : Nat) (x : Int) (l1 l2 l3 : Option mx_V) (v0 v1 v2 : mx_V) (S h : mx_H) (n : Int), mx_ex d 263 1358 [some (2, x), l1, l2, l3] [v0, v1, v2] S h n = mx_ex d 263 1359 [some (2, x), l1, l2, l3] [(2, x), v0, v1, v2] S h n) ∧
  (∀ (d : Nat) (x : Int) (l0 l1 l2 : Option mx_V) (v0 v1 v2 v3 : mx_V) (S h : mx_H) (n : Int), mx_ex d 263 1359 [l0, l1, l2, some (0, x)] [v0, v1, v2, v3] S h n = mx_ex d 263 1360 [l0, l1, l2, some (0, x)] [(0, x), v0, v1, v2, v3] S h n) ∧
  (∀ (d : Nat) (l0 l1 l2 l3 : Option mx_V) (v0 v1 v2 v3 v4 : mx_V) (S h : mx_H) (n : Int), mx_ex d 263 1360 [l0, l1, l2, l3] [v0, v1, v2, v3, v4] S h n = mx_ex d 263 1361 [l0, l1, l2, l3] [(0, 2), v0, v1, v2, v3, v4] S h n) ∧
  (∀ (d : Nat) (b a : Int) (l0 l1 l2 l3 : Option mx_V) (v2 v3 v4 v5 : mx_V) (S h : mx_H) (n : Int), mx_ex d 263 1361 [l0, l1, l2, l3] [(0, b), (0, a), v2, v3, v4, v5] S h n = mx_ex d 263 1362 [l0, l1, l2, l3] [(0, mx_w (a + b)), v2, v3, v4, v5] S h n) ∧
  (∀ (d : Nat) (i a : Int) (l0 l1 l2 l3 : Option mx_V) (v2 v3 v4 : mx_V) (S h : mx_H) (n : Int), mx_ex d 263 1362 [l0, l1, l2, l3] [(0, i), (2, a), v2, v3, v4] S h n = mx_gd ((S a (-2) = 20 ∨ S a (-2) = 24) ∧ 0 ≤ i ∧ i < S a (-1)) d 263 1363 [l0, l1, l2, l3] [(0, h a i), v2, v3, v4] S h n) ∧
  (∀ (d : Nat) (x : Int) (l1 l2 l3 : Option mx_V) (v0 v1 v2 v3 : mx_V) (S h : mx_H) (n : Int), mx_ex d 263 1363 [some (2, x), l1, l2, l3] [v0, v1, v2, v3] S h n = mx_ex d 263 1364 [some (2, x), l1, l2, l3] [(2, x), v0, v1, v2, v3] S h n) ∧
  (∀ (d : Nat) (x : Int) (l0 l1 l2 : Option mx_V) (v0 v1 v2 v3 v4 : mx_V) (S h : mx_H) (n : Int), mx_ex d 263 1364 [l0, l1, l2, some (0, x)] [v0, v1, v2, v3, v4] S h n = mx_ex d 263 1365 [l0, l1, l2, some (0, x)] [(0, x), v0, v1, v2, v3, v4] S h n) ∧
  (∀ (d : Nat) (l0 l1 l2 l3 : Option mx_V) (v0 v1 v2 v3 v4 v5 : mx_V) (S h : mx_H) (n : Int), mx_ex d 263 1365 [l0, l1, l2, l3] [v0, v1, v2, v3, v4, v5] S h n = mx_ex d 263 1366 [l0, l1, l2, l3] [(0, 3), v0, v1, v2, v3, v4, v5] S h n) ∧
  (∀ (d : Nat) (b a : Int) (l0 l1 l2 l3 : Option mx_V) (v2 v3 v4 v5 v6 : mx_V) (S h : mx_H) (n : Int), mx_ex d 263 1366 [l0, l1, l2, l3] [(0, b), (0, a), v2, v3, v4, v5, v6] S h n = mx_ex d 263 1367 [l0, l1, l2, l3] [(0, mx_w (a + b)), v2, v3, v4, v5, v6] S h n) ∧
  (∀ (d : Nat) (i a : Int) (l0 l1 l2 l3 : Option mx_V) (v2 v3 v4 v5 : mx_V) (S h : mx_H) (n : Int), mx_ex d 263 1367 [l0, l1, l2, l3] [(0, i), (2, a), v2, v3, v4, v5] S h n = mx_gd ((S a (-2) = 20 ∨ S a (-2) = 24) ∧ 0 ≤ i ∧ i < S a (-1)) d 263 1368 [l0, l1, l2, l3] [(0, h a i), v2, v3, v4, v5] S h n) ∧
  (∀ (d : Nat) (x0 x1 x2 a : Int) (l0 l1 l2 l3 : Option mx_V) (v4 : mx_V) (S h : mx_H) (n : Int), mx_ex (d + 1) 263 1368 [l0, l1, l2, l3] [(0, x0), (0, x1), (0, x2), (2, a), v4] S h n = mx_cl (S a (-2) = 13) d 229 [(2, a), (0, x2), (0, x1), (0, x0)] 263 1371 [l0, l1, l2, l3] [v4] S h n) ∧
  (∀ (d : Nat) (b a : Int) (l0 l1 l2 l3 : Option mx_V) (S h : mx_H) (n : Int), mx_ex d 263 1371 [l0, l1, l2, l3] [(0, b), (0, a)] S h n = mx_br (a = b) d 263 1653 1374 [l0, l1, l2, l3] [] S h n) ∧
  (∀ (d : Nat) (l0 l1 l2 l3 : Option mx_V) (S h : mx_H) (n : Int), mx_ex d 263 1374 [l0, l1, l2, l3] [] S h n = mx_ex d 263 1375 [l0, l1, l2, l3] [(0, 0)] S h n) ∧
  (∀ (d : Nat) (x : Int) (l0 l1 l2 l3 : Option mx_V) (S h : mx_H) (n : Int), mx_ex d 263 1375 [l0, l1, l2, l3] [(0, x)] S h n = mx_re (0 ≤ x ∧ x ≤ 1) (some (0, x)) S h n) ∧
  (∀ (d : Nat) (x : Int) (l0 l2 l3 : Option mx_V) (S h : mx_H) (n : Int), mx_ex d 263 1376 [l0, some (2, x), l2, l3] [] S h n = mx_ex d 263 1377 [l0, some (2, x), l2, l3] [(2, x)] S h n) ∧
  (∀ (d : Nat) (x : Int) (l1 l2 l3 : Option mx_V) (v0 : mx_V) (S h : mx_H) (n : Int), mx_ex d 263 1377 [some (2, x), l1, l2, l3] [v0] S h n = mx_ex d 263 1378 [some (2, x), l1, l2, l3] [(2, x), v0] S h n) ∧
  (∀ (d : Nat) (x : Int) (l0 l1 l2 : Option mx_V) (v0 v1 : mx_V) (S h : mx_H) (n : Int), mx_ex d 263 1378 [l0, l1, l2, some (0, x)] [v0, v1] S h n = mx_ex d 263 1379 [l0, l1, l2, some (0, x)] [(0, x), v0, v1] S h n) ∧
  (∀ (d : Nat) (l0 l1 l2 l3 : Option mx_V) (v0 v1 v2 : mx_V) (S h : mx_H) (n : Int), mx_ex d 263 1379 [l0, l1, l2, l3] [v0, v1, v2] S h n = mx_ex d 263 1380 [l0, l1, l2, l3] [(0, 1), v0, v1, v2] S h n) ∧
  (∀ (d : Nat) (b a : Int) (l0 l1 l2 l3 : Option mx_V) (v2 v3 : mx_V) (S h : mx_H) (n : Int), mx_ex d 263 1380 [l0, l1, l2, l3] [(0, b), (0, a), v2, v3] S h n = mx_ex d 263 1381 [l0, l1, l2, l3] [(0, mx_w (a + b)), v2, v3] S h n) ∧
  (∀ (d : Nat) (i a : Int) (l0 l1 l2 l3 : Option mx_V) (v2 : mx_V) (S h : mx_H) (n : Int), mx_ex d 263 1381 [l0, l1, l2, l3] [(0, i), (2, a), v2] S h n = mx_gd ((S a (-2) = 20 ∨ S a (-2) = 24) ∧ 0 ≤ i ∧ i < S a (-1)) d 263 1382 [l0, l1, l2, l3] [(0, h a i), v2] S h n) ∧
  (∀ (d : Nat) (x : Int) (l1 l2 l3 : Option mx_V) (v0 v1 : mx_V) (S h : mx_H) (n : Int), mx_ex d 263 1382 [some (2, x), l1, l2, l3] [v0, v1] S h n = mx_ex d 263 1383 [some (2, x), l1, l2, l3] [(2, x), v0, v1] S h n) ∧
  (∀ (d : Nat) (x : Int) (l0 l1 l2 : Option mx_V) (v0 v1 v2 : mx_V) (S h : mx_H) (n : Int), mx_ex d 263 1383 [l0, l1, l2, some (0, x)] [v0, v1, v2] S h n = mx_ex d 263 1384 [l0, l1, l2, some (0, x)] [(0, x), v0, v1, v2] S h n) ∧
  (∀ (d : Nat) (l0 l1 l2 l3 : Option mx_V) (v0 v1 v2 v3 : mx_V) (S h : mx_H) (n : Int), mx_ex d 263 1384 [l0, l1, l2, l3] [v0, v1, v2, v3] S h n = mx_ex d 263 1385 [l0, l1, l2, l3] [(0, 2), v0, v1, v2, v3] S h n) ∧
  (∀ (d : Nat) (b a : Int) (l0 l1 l2 l3 : Option mx_V) (v2 v3 v4 : mx_V) (S h : mx_H) (n : Int), mx_ex d 263 1385 [l0, l1, l2, l3] [(0, b), (0, a), v2, v3, v4] S h n = mx_ex d 263 1386 [l0, l1, l2, l3] [(0, mx_w (a + b)), v2, v3, v4] S h n) ∧
  (∀ (d : Nat) (i a : Int) (l0 l1 l2 l3 : Option mx_V) (v2 v3 : mx_V) (S h : mx_H) (n : Int), mx_ex d 263 1386 [l0, l1, l2, l3] [(0, i), (2, a), v2, v3] S h n = mx_gd ((S a (-2) = 20 ∨ S a (-2) = 24) ∧ 0 ≤ i ∧ i < S a (-1)) d 263 1387 [l0, l1, l2, l3] [(0, h a i), v2, v3] S h n) ∧
  (∀ (d : Nat) (x : Int) (l1 l2 l3 : Option mx_V) (v0 v1 v2 : mx_V) (S h : mx_H) (n : Int), mx_ex d 263 1387 [some (2, x), l1, l2, l3] [v0, v1, v2] S h n = mx_ex d 263 1388 [some (2, x), l1, l2, l3] [(2, x), v0, v1, v2] S h n) ∧
  (∀ (d : Nat) (x : Int) (l0 l1 l2 : Option mx_V) (v0 v1 v2 v3 : mx_V) (S h : mx_H) (n : Int), mx_ex d 263 1388 [l0, l1, l2, some (0, x)] [v0, v1, v2, v3] S h n = mx_ex d 263 1389 [l0, l1, l2, some (0, x)] [(0, x), v0, v1, v2, v3] S h n) ∧
  (∀ (d : Nat) (l0 l1 l2 l3 : Option mx_V) (v0 v1 v2 v3 v4 : mx_V) (S h : mx_H) (n : Int), mx_ex d 263 1389 [l0, l1, l2, l3] [v0, v1, v2, v3, v4] S h n = mx_ex d 263 1390 [l0, l1, l2, l3] [(0, 3), v0, v1, v2, v3, v4] S h n) ∧
  (∀ (d : Nat) (b a : Int) (l0 l1 l2 l3 : Option mx_V) (v2 v3 v4 v5 : mx_V) (S h : mx_H) (n : Int), mx_ex d 263 1390 [l0, l1, l2, l3] [(0, b), (0, a), v2, v3, v4, v5] S h n = mx_ex d 263 1391 [l0, l1, l2, l3] [(0, mx_w (a + b)), v2, v3, v4, v5] S h n) ∧
  (∀ (d : Nat) (i a : Int) (l0 l1 l2 l3 : Option mx_V) (v2 v3 v4 : mx_V) (S h : mx_H) (n : Int), mx_ex d 263 1391 [l0, l1, l2, l3] [(0, i), (2, a), v2, v3, v4] S h n = mx_gd ((S a (-2) = 20 ∨ S a (-2) = 24) ∧ 0 ≤ i ∧ i < S a (-1)) d 263 1392 [l0, l1, l2, l3] [(0, h a i), v2, v3, v4] S h n) ∧
  (∀ (d : Nat) (x0 x1 x2 a : Int) (l0 l1 l2 l3 : Option mx_V) (S h : mx_H) (n : Int), mx_ex (d + 1) 263 1392 [l0, l1, l2, l3] [(0, x0), (0, x1), (0, x2), (2, a)] S h n = mx_cl (S a (-2) = 7) d 135 [(2, a), (0, x2), (0, x1), (0, x0)] 263 1395 [l0, l1, l2, l3] [] S h n) :=
  ⟨by intros; exact eq_i2 (o := mx_add) rfl,
   by intros; exact eq_iald rfl,
   by intros; exact eq_ld rfl rfl,
   by intros; exact eq_ld rfl rfl,
   by intros; exact eq_push rfl,
   by intros; exact eq_i2 (o := mx_add) rfl,
   by intros; exact eq_iald rfl,
   by intros; exact eq_ld rfl rfl,
   by intros; exact eq_ld rfl rfl,
   by intros; exact eq_push rfl,
   by intros; exact eq_i2 (o := mx_add) rfl,
   by intros; exact eq_iald rfl,
   by intros; exact eq_cv rfl (Nat.le_of_ble_eq_true rfl) rfl rfl rfl (Nat.le_of_ble_eq_true rfl),
   by intros; exact eq_ic0 rfl,
   by intros; exact eq_push rfl,
   by intros; exact eq_rr rfl,
   by intros; exact eq_ld rfl rfl,
   by intros; exact eq_ld rfl rfl,
   by intros; exact eq_ld rfl rfl,
   by intros; exact eq_push rfl,
   by intros; exact eq_i2 (o := mx_add) rfl,
   by intros; exact eq_iald rfl,
   by intros; exact eq_ld rfl rfl,
   by intros; exact eq_ld rfl rfl,
   by intros; exact eq_push rfl,
   by intros; exact eq_i2 (o := mx_add) rfl,
   by intros; exact eq_iald rfl,
   by intros; exact eq_ld rfl rfl,
   by intros; exact eq_ld rfl rfl,
   by intros; exact eq_push rfl,
   by intros; exact eq_i2 (o := mx_add) rfl,
   by intros; exact eq_iald rfl,
   by intros; exact eq_cv rfl (Nat.le_of_ble_eq_true rfl) rfl rfl rfl (Nat.le_of_ble_eq_true rfl),
   by intros; exact eq_ld rfl rfl,
   by intros; exact eq_ld rfl rfl,
   by intros; exact eq_ld rfl rfl,
   by intros; exact eq_push rfl,
   by intros; exact eq_i2 (o := mx_add) rfl,
   by intros; exact eq_iald rfl,
   by intros; exact eq_ld rfl rfl,
   by intros; exact eq_ld rfl rfl,
   by intros; exact eq_push rfl,
   by intros; exact eq_i2 (o := mx_add) rfl,
   by intros; exact eq_iald rfl,
   by intros; exact eq_ld rfl rfl,
   by intros; exact eq_ld rfl rfl,
   by intros; exact eq_push rfl,
   by intros; exact eq_i2 (o := mx_add) rfl,
   by intros; exact eq_iald rfl,
   by intros; exact eq_cv rfl (Nat.le_of_ble_eq_true rfl) rfl rfl rfl (Nat.le_of_ble_eq_true rfl),
   by intros; exact eq_ic0 rfl,
   by intros; exact eq_push rfl,
   by intros; exact eq_rr rfl,
   by intros; exact eq_ld rfl rfl,
   by intros; exact eq_ld rfl rfl,
   by intros; exact eq_ld rfl rfl,
   by intros; exact eq_push rfl,
   by intros; exact eq_i2 (o := mx_add) rfl,
   by intros; exact eq_iald rfl,
   by intros; exact eq_ld rfl rfl,
   by intros; exact eq_ld rfl rfl,
   by intros; exact eq_push rfl,
   by intros; exact eq_i2 (o := mx_add) rfl,
   by intros; exact eq_iald rfl,
   by intros; exact eq_ld rfl rfl,
   by intros; exact eq_ld rfl rfl,
   by intros; exact eq_push rfl,
   by intros; exact eq_i2 (o := mx_add) rfl,
   by intros; exact eq_iald rfl,
   by intros; exact eq_cv rfl (Nat.le_of_ble_eq_true rfl) rfl rfl rfl (Nat.le_of_ble_eq_true rfl)⟩
theorem rw_L_law_14 :
  (∀ (d : Nat) (x : Int) (l0 l1 l3 : Option mx_V) (v0 : mx_V) (S h : mx_H) (n : Int), mx_ex d 263 1395 [l0, l1, some (2, x), l3] [v0] S h n = mx_ex d 263 1396 [l0, l1, some (2, x), l3] [(2, x), v0] S h n) ∧
  (∀ (d : Nat) (x : Int) (l1 l2 l3 : Option mx_V) (v0 v1 : mx_V) (S h : mx_H) (n : Int), mx_ex d 263 1396 [some (2, x), l1, l2, l3] [v0, v1] S h n = mx_ex d 263 1397 [some (2, x), l1, l2, l3] [(2, x), v0, v1] S h n) ∧
  (∀ (d : Nat) (x : Int) (l0 l1 l2 : Option mx_V) (v0 v1 v2 : mx_V) (S h : mx_H) (n : Int), mx_ex d 263 1397 [l0, l1, l2, some (0, x)] [v0, v1, v2] S h n = mx_ex d 263 1398 [l0, l1, l2, some (0, x)] [(0, x), v0, v1, v2] S h n) ∧
  (∀ (d : Nat) (l0 l1 l2 l3 : Option mx_V) (v0 v1 v2 v3 : mx_V) (S h : mx_H) (n : Int), mx_ex d 263 1398 [l0, l1, l2, l3] [v0, v1, v2, v3] S h n = mx_ex d 263 1399 [l0, l1, l2, l3] [(0, 1), v0, v1, v2, v3] S h n) ∧
  (∀ (d : Nat) (b a : Int) (l0 l1 l2 l3 : Option mx_V) (v2 v3 v4 : mx_V) (S h : mx_H) (n : Int), mx_ex d 263 1399 [l0, l1, l2, l3] [(0, b), (0, a), v2, v3, v4] S h n = mx_ex d 263 1400 [l0, l1, l2, l3] [(0, mx_w (a + b)), v2, v3, v4] S h n) ∧
  (∀ (d : Nat) (i a : Int) (l0 l1 l2 l3 : Option mx_V) (v2 v3 : mx_V) (S h : mx_H) (n : Int), mx_ex d 263 1400 [l0, l1, l2, l3] [(0, i), (2, a), v2, v3] S h n = mx_gd ((S a (-2) = 20 ∨ S a (-2) = 24) ∧ 0 ≤ i ∧ i < S a (-1)) d 263 1401 [l0, l1, l2, l3] [(0, h a i), v2, v3] S h n) ∧
  (∀ (d : Nat) (x : Int) (l1 l2 l3 : Option mx_V) (v0 v1 v2 : mx_V) (S h : mx_H) (n : Int), mx_ex d 263 1401 [some (2, x), l1, l2, l3] [v0, v1, v2] S h n = mx_ex d 263 1402 [some (2, x), l1, l2, l3] [(2, x), v0, v1, v2] S h n) ∧
  (∀ (d : Nat) (x : Int) (l0 l1 l2 : Option mx_V) (v0 v1 v2 v3 : mx_V) (S h : mx_H) (n : Int), mx_ex d 263 1402 [l0, l1, l2, some (0, x)] [v0, v1, v2, v3] S h n = mx_ex d 263 1403 [l0, l1, l2, some (0, x)] [(0, x), v0, v1, v2, v3] S h n) ∧
  (∀ (d : Nat) (l0 l1 l2 l3 : Option mx_V) (v0 v1 v2 v3 v4 : mx_V) (S h : mx_H) (n : Int), mx_ex d 263 1403 [l0, l1, l2, l3] [v0, v1, v2, v3, v4] S h n = mx_ex d 263 1404 [l0, l1, l2, l3] [(0, 2), v0, v1, v2, v3, v4] S h n) ∧
  (∀ (d : Nat) (b a : Int) (l0 l1 l2 l3 : Option mx_V) (v2 v3 v4 v5 : mx_V) (S h : mx_H) (n : Int), mx_ex d 263 1404 [l0, l1, l2, l3] [(0, b), (0, a), v2, v3, v4, v5] S h n = mx_ex d 263 1405 [l0, l1, l2, l3] [(0, mx_w (a + b)), v2, v3, v4, v5] S h n) ∧
  (∀ (d : Nat) (i a : Int) (l0 l1 l2 l3 : Option mx_V) (v2 v3 v4 : mx_V) (S h : mx_H) (n : Int), mx_ex d 263 1405 [l0, l1, l2, l3] [(0, i), (2, a), v2, v3, v4] S h n = mx_gd ((S a (-2) = 20 ∨ S a (-2) = 24) ∧ 0 ≤ i ∧ i < S a (-1)) d 263 1406 [l0, l1, l2, l3] [(0, h a i), v2, v3, v4] S h n) ∧
  (∀ (d : Nat) (x : Int) (l1 l2 l3 : Option mx_V) (v0 v1 v2 v3 : mx_V) (S h : mx_H) (n : Int), mx_ex d 263 1406 [some (2, x), l1, l2, l3] [v0, v1, v2, v3] S h n = mx_ex d 263 1407 [some (2, x), l1, l2, l3] [(2, x), v0, v1, v2, v3] S h n) ∧
  (∀ (d : Nat) (x : Int) (l0 l1 l2 : Option mx_V) (v0 v1 v2 v3 v4 : mx_V) (S h : mx_H) (n : Int), mx_ex d 263 1407 [l0, l1, l2, some (0, x)] [v0, v1, v2, v3, v4] S h n = mx_ex d 263 1408 [l0, l1, l2, some (0, x)] [(0, x), v0, v1, v2, v3, v4] S h n) ∧
  (∀ (d : Nat) (l0 l1 l2 l3 : Option mx_V) (v0 v1 v2 v3 v4 v5 : mx_V) (S h : mx_H) (n : Int), mx_ex d 263 1408 [l0, l1, l2, l3] [v0, v1, v2, v3, v4, v5] S h n = mx_ex d 263 1409 [l0, l1, l2, l3] [(0, 3), v0, v1, v2, v3, v4, v5] S h n) ∧
  (∀ (d : Nat) (b a : Int) (l0 l1 l2 l3 : Option mx_V) (v2 v3 v4 v5 v6 : mx_V) (S h : mx_H) (n : Int), mx_ex d 263 1409 [l0, l1, l2, l3] [(0, b), (0, a), v2, v3, v4, v5, v6] S h n = mx_ex d 263 1410 [l0, l1, l2, l3] [(0, mx_w (a + b)), v2, v3, v4, v5, v6] S h n) ∧
  (∀ (d : Nat) (i a : Int) (l0 l1 l2 l3 : Option mx_V) (v2 v3 v4 v5 : mx_V) (S h : mx_H) (n : Int), mx_ex d 263 1410 [l0, l1, l2, l3] [(0, i), (2, a), v2, v3, v4, v5] S h n = mx_gd ((S a (-2) = 20 ∨ S a (-2) = 24) ∧ 0 ≤ i ∧ i < S a (-1)) d 263 1411 [l0, l1, l2, l3] [(0, h a i), v2, v3, v4, v5] S h n) ∧
  (∀ (d : Nat) (x0 x1 x2 a : Int) (l0 l1 l2 l3 : Option mx_V) (v4 : mx_V) (S h : mx_H) (n : Int), mx_ex (d + 1) 263 1411 [l0, l1, l2, l3] [(0, x0), (0, x1), (0, x2), (2, a), v4] S h n = mx_cl (S a (-2) = 13) d 231 [(2, a), (0, x2), (0, x1), (0, x0)] 263 1414 [l0, l1, l2, l3] [v4] S h n) ∧
  (∀ (d : Nat) (b a : Int) (l0 l1 l2 l3 : Option mx_V) (S h : mx_H) (n : Int), mx_ex d 263 1414 [l0, l1, l2, l3] [(0, b), (0, a)] S h n = mx_br (a = b) d 263 1653 1417 [l0, l1, l2, l3] [] S h n) ∧
  (∀ (d : Nat) (l0 l1 l2 l3 : Option mx_V) (S h : mx_H) (n : Int), mx_ex d 263 1417 [l0, l1, l2, l3] [] S h n = mx_ex d 263 1418 [l0, l1, l2, l3] [(0, 0)] S h n) ∧
  (∀ (d : Nat) (x : Int) (l0 l1 l2 l3 : Option mx_V) (S h : mx_H) (n : Int), mx_ex d 263 1418 [l0, l1, l2, l3] [(0, x)] S h n = mx_re (0 ≤ x ∧ x ≤ 1) (some (0, x)) S h n) ∧
  (∀ (d : Nat) (x : Int) (l0 l2 l3 : Option mx_V) (S h : mx_H) (n : Int), mx_ex d 263 1419 [l0, some (2, x), l2, l3] [] S h n = mx_ex d 263 1420 [l0, some (2, x), l2, l3] [(2, x)] S h n) ∧
  (∀ (d : Nat) (x : Int) (l1 l2 l3 : Option mx_V) (v0 : mx_V) (S h : mx_H) (n : Int), mx_ex d 263 1420 [some (2, x), l1, l2, l3] [v0] S h n = mx_ex d 263 1421 [some (2, x), l1, l2, l3] [(2, x), v0] S h n) ∧
  (∀ (d : Nat) (x : Int) (l0 l1 l2 : Option mx_V) (v0 v1 : mx_V) (S h : mx_H) (n : Int), mx_ex d 263 1421 [l0, l1, l2, some (0, x)] [v0, v1] S h n = mx_ex d 263 1422 [l0, l1, l2, some (0, x)] [(0, x), v0, v1] S h n) ∧
  (∀ (d : Nat) (l0 l1 l2 l3 : Option mx_V) (v0 v1 v2 : mx_V) (S h : mx_H) (n : Int), mx_ex d 263 1422 [l0, l1, l2, l3] [v0, v1, v2] S h n = mx_ex d 263 1423 [l0, l1, l2, l3] [(0, 1), v0, v1, v2] S h n) ∧
  (∀ (d : Nat) (b a : Int) (l0 l1 l2 l3 : Option mx_V) (v2 v3 : mx_V) (S h : mx_H) (n : Int), mx_ex d 263 1423 [l0, l1, l2, l3] [(0, b), (0, a), v2, v3] S h n = mx_ex d 263 1424 [l0, l1, l2, l3] [(0, mx_w (a + b)), v2, v3] S h n) ∧
  (∀ (d : Nat) (i a : Int) (l0 l1 l2 l3 : Option mx_V) (v2 : mx_V) (S h : mx_H) (n : Int), mx_ex d 263 1424 [l0, l1, l2, l3] [(0, i), (2, a), v2] S h n = mx_gd ((S a (-2) = 20 ∨ S a (-2) = 24) ∧ 0 ≤ i ∧ i < S a (-1)) d 263 1425 [l0, l1, l2, l3] [(0, h a i), v2] S h n) ∧
  (∀ (d : Nat) (x : Int) (l1 l2 l3 : Option mx_V) (v0 v1 : mx_V) (S h : mx_H) (n : Int), mx_ex d 263 1425 [some (2, x), l1, l2, l3] [v0, v1] S h n = mx_ex d 263 1426 [some (2, x), l1, l2, l3] [(2, x), v0, v1] S h n) ∧
  (∀ (d : Nat) (x : Int) (l0 l1 l2 : Option mx_V) (v0 v1 v2 : mx_V) (S h : mx_H) (n : Int), mx_ex d 263 1426 [l0, l1, l2, some (0, x)] [v0, v1, v2] S h n = mx_ex d 263 1427 [l0, l1, l2, some (0, x)] [(0, x), v0, v1, v2] S h n) ∧
  (∀ (d : Nat) (l0 l1 l2 l3 : Option mx_V) (v0 v1 v2 v3 : mx_V) (S h : mx_H) (n : Int), mx_ex d 263 1427 [l0, l1, l2, l3] [v0, v1, v2, v3] S h n = mx_ex d 263 1428 [l0, l1, l2, l3] [(0, 2), v0, v1, v2, v3] S h n) ∧
  (∀ (d : Nat) (b a : Int) (l0 l1 l2 l3 : Option mx_V) (v2 v3 v4 : mx_V) (S h : mx_H) (n : Int), mx_ex d 263 1428 [l0, l1, l2, l3] [(0, b), (0, a), v2, v3, v4] S h n = mx_ex d 263 1429 [l0, l1, l2, l3] [(0, mx_w (a + b)), v2, v3, v4] S h n) ∧
  (∀ (d : Nat) (i a : Int) (l0 l1 l2 l3 : Option mx_V) (v2 v3 : mx_V) (S h : mx_H) (n : Int), mx_ex d 263 1429 [l0, l1, l2, l3] [(0, i), (2, a), v2, v3] S h n = mx_gd ((S a (-2) = 20 ∨ S a (-2) = 24) ∧ 0 ≤ i ∧ i < S a (-1)) d 263 1430 [l0, l1, l2, l3] [(0, h a i), v2, v3] S h n) ∧
  (∀ (d : Nat) (x : Int) (l1 l2 l3 : Option mx_V) (v0 v1 v2 : mx_V) (S h : mx_H) (n : Int), mx_ex d 263 1430 [some (2, x), l1, l2, l3] [v0, v1, v2] S h n = mx_ex d 263 1431 [some (2, x), l1, l2, l3] [(2, x), v0, v1, v2] S h n) ∧
  (∀ (d : Nat) (x : Int) (l0 l1 l2 : Option mx_V) (v0 v1 v2 v3 : mx_V) (S h : mx_H) (n : Int), mx_ex d 263 1431 [l0, l1, l2, some (0, x)] [v0, v1, v2, v3] S h n = mx_ex d 263 1432 [l0, l1, l2, some (0, x)] [(0, x), v0, v1, v2, v3] S h n) ∧
  (∀ (d : Nat) (l0 l1 l2 l3 : Option mx_V) (v0 v1 v2 v3 v4 : mx_V) (S h : mx_H) (n : Int), mx_ex d 263 1432 [l0, l1, l2, l3] [v0, v1, v2, v3, v4] S h n = mx_ex d 263 1433 [l0, l1, l2, l3] [(0, 3), v0, v1, v2, v3, v4] S h n) ∧
  (∀ (d : Nat) (b a : Int) (l0 l1 l2 l3 : Option mx_V) (v2 v3 v4 v5 : mx_V) (S h : mx_H) (n : Int), mx_ex d 263 1433 [l0, l1, l2, l3] [(0, b), (0, a), v2, v3, v4, v5] S h n = mx_ex d 263 1434 [l0, l1, l2, l3] [(0, mx_w (a + b)), v2, v3, v4, v5] S h n) ∧
  (∀ (d : Nat) (i a : Int) (l0 l1 l2 l3 : Option mx_V) (v2 v3 v4 : mx_V) (S h : mx_H) (n : Int), mx_ex d 263 1434 [l0, l1, l2, l3] [(0, i), (2, a), v2, v3, v4] S h n = mx_gd ((S a (-2) = 20 ∨ S a (-2) = 24) ∧ 0 ≤ i ∧ i < S a (-1)) d 263 1435 [l0, l1, l2, l3] [(0, h a i), v2, v3, v4] S h n) ∧
  (∀ (d : Nat) (x0 x1 x2 a : Int) (l0 l1 l2 l3 : Option mx_V) (S h : mx_H) (n : Int), mx_ex (d + 1) 263 1435 [l0, l1, l2, l3] [(0, x0), (0, x1), (0, x2), (2, a)] S h n = mx_cl (S a (-2) = 7) d 136 [(2, a), (0, x2), (0, x1), (0, x0)] 263 1438 [l0, l1, l2, l3] [] S h n) ∧
  (∀ (d : Nat) (x : Int) (l0 l1 l3 : Option mx_V) (v0 : mx_V) (S h : mx_H) (n : Int), mx_ex d 263 1438 [l0, l1, some (2, x), l3] [v0] S h n = mx_ex d 263 1439 [l0, l1, some (2, x), l3] [(2, x), v0] S h n) ∧
  (∀ (d : Nat) (x : Int) (l1 l2 l3 : Option mx_V) (v0 v1 : mx_V) (S h : mx_H) (n : Int), mx_ex d 263 1439 [some (2, x), l1, l2, l3] [v0, v1] S h n = mx_ex d 263 1440 [some (2, x), l1, l2, l3] [(2, x), v0, v1] S h n) ∧
  (∀ (d : Nat) (x : Int) (l0 l1 l2 : Option mx_V) (v0 v1 v2 : mx_V) (S h : mx_H) (n : Int), mx_ex d 263 1440 [l0, l1, l2, some (0, x)] [v0, v1, v2] S h n = mx_ex d 263 1441 [l0, l1, l2, some (0, x)] [(0, x), v0, v1, v2] S h n) ∧
  (∀ (d : Nat) (l0 l1 l2 l3 : Option mx_V) (v0 v1 v2 v3 : mx_V) (S h : mx_H) (n : Int), mx_ex d 263 1441 [l0, l1, l2, l3] [v0, v1, v2, v3] S h n = mx_ex d 263 1442 [l0, l1, l2, l3] [(0, 1), v0, v1, v2, v3] S h n) ∧
  (∀ (d : Nat) (b a : Int) (l0 l1 l2 l3 : Option mx_V) (v2 v3 v4 : mx_V) (S h : mx_H) (n : Int), mx_ex d 263 1442 [l0, l1, l2, l3] [(0, b), (0, a), v2, v3, v4] S h n = mx_ex d 263 1443 [l0, l1, l2, l3] [(0, mx_w (a + b)), v2, v3, v4] S h n) ∧
  (∀ (d : Nat) (i a : Int) (l0 l1 l2 l3 : Option mx_V) (v2 v3 : mx_V) (S h : mx_H) (n : Int), mx_ex d 263 1443 [l0, l1, l2, l3] [(0, i), (2, a), v2, v3] S h n = mx_gd ((S a (-2) = 20 ∨ S a (-2) = 24) ∧ 0 ≤ i ∧ i < S a (-1)) d 263 1444 [l0, l1, l2, l3] [(0, h a i), v2, v3] S h n) ∧
  (∀ (d : Nat) (x : Int) (l1 l2 l3 : Option mx_V) (v0 v1 v2 : mx_V) (S h : mx_H) (n : Int), mx_ex d 263 1444 [some (2, x), l1, l2, l3] [v0, v1, v2] S h n = mx_ex d 263 1445 [some (2, x), l1, l2, l3] [(2, x), v0, v1, v2] S h n) ∧
  (∀ (d : Nat) (x : Int) (l0 l1 l2 : Option mx_V) (v0 v1 v2 v3 : mx_V) (S h : mx_H) (n : Int), mx_ex d 263 1445 [l0, l1, l2, some (0, x)] [v0, v1, v2, v3] S h n = mx_ex d 263 1446 [l0, l1, l2, some (0, x)] [(0, x), v0, v1, v2, v3] S h n) ∧
  (∀ (d : Nat) (l0 l1 l2 l3 : Option mx_V) (v0 v1 v2 v3 v4 : mx_V) (S h : mx_H) (n : Int), mx_ex d 263 1446 [l0, l1, l2, l3] [v0, v1, v2, v3, v4] S h n = mx_ex d 263 1447 [l0, l1, l2, l3] [(0, 2), v0, v1, v2, v3, v4] S h n) ∧
  (∀ (d : Nat) (b a : Int) (l0 l1 l2 l3 : Option mx_V) (v2 v3 v4 v5 : mx_V) (S h : mx_H) (n : Int), mx_ex d 263 1447 [l0, l1, l2, l3] [(0, b), (0, a), v2, v3, v4, v5] S h n = mx_ex d 263 1448 [l0, l1, l2, l3] [(0, mx_w (a + b)), v2, v3, v4, v5] S h n) ∧
  (∀ (d : Nat) (i a : Int) (l0 l1 l2 l3 : Option mx_V) (v2 v3 v4 : mx_V) (S h : mx_H) (n : Int), mx_ex d 263 1448 [l0, l1, l2, l3] [(0, i), (2, a), v2, v3, v4] S h n = mx_gd ((S a (-2) = 20 ∨ S a (-2) = 24) ∧ 0 ≤ i ∧ i < S a (-1)) d 263 1449 [l0, l1, l2, l3] [(0, h a i), v2, v3, v4] S h n) ∧
  (∀ (d : Nat) (x : Int) (l1 l2 l3 : Option mx_V) (v0 v1 v2 v3 : mx_V) (S h : mx_H) (n : Int), mx_ex d 263 1449 [some (2, x), l1, l2, l3] [v0, v1, v2, v3] S h n = mx_ex d 263 1450 [some (2, x), l1, l2, l3] [(2, x), v0, v1, v2, v3] S h n) ∧
  (∀ (d : Nat) (x : Int) (l0 l1 l2 : Option mx_V) (v0 v1 v2 v3 v4 : mx_V) (S h : mx_H) (n : Int), mx_ex d 263 1450 [l0, l1, l2, some (0, x)] [v0, v1, v2, v3, v4] S h n = mx_ex d 263 1451 [l0, l1, l2, some (0, x)] [(0, x), v0, v1, v2, v3, v4] S h n) ∧
  (∀ (d : Nat) (l0 l1 l2 l3 : Option mx_V) (v0 v1 v2 v3 v4 v5 : mx_V) (S h : mx_H) (n : Int), mx_ex d 263 1451 [l0, l1, l2, l3] [v0, v1, v2, v3, v4, v5] S h n = mx_ex d 263 1452 [l0, l1, l2, l3] [(0, 3), v0, v1, v2, v3, v4, v5] S h n) ∧
  (∀ (d : Nat) (b a : Int) (l0 l1 l2 l3 : Option mx_V) (v2 v3 v4 v5 v6 : mx_V) (S h : mx_H) (n : Int), mx_ex d 263 1452 [l0, l1, l2, l3] [(0, b), (0, a), v2, v3, v4, v5, v6] S h n = mx_ex d 263 1453 [l0, l1, l2, l3] [(0, mx_w (a + b)), v2, v3, v4, v5, v6] S h n) ∧
  (∀ (d : Nat) (i a : Int) (l0 l1 l2 l3 : Option mx_V) (v2 v3 v4 v5 : mx_V) (S h : mx_H) (n : Int), mx_ex d 263 1453 [l0, l1, l2, l3] [(0, i), (2, a), v2, v3, v4, v5] S h n = mx_gd ((S a (-2) = 20 ∨ S a (-2) = 24) ∧ 0 ≤ i ∧ i < S a (-1)) d 263 1454 [l0, l1, l2, l3] [(0, h a i), v2, v3, v4, v5] S h n) ∧
  (∀ (d : Nat) (x0 x1 x2 a : Int) (l0 l1 l2 l3 : Option mx_V) (v4 : mx_V) (S h : mx_H) (n : Int), mx_ex (d + 1) 263 1454 [l0, l1, l2, l3] [(0, x0), (0, x1), (0, x2), (2, a), v4] S h n = mx_cl (S a (-2) = 13) d 232 [(2, a), (0, x2), (0, x1), (0, x0)] 263 1457 [l0, l1, l2, l3] [v4] S h n) ∧
  (∀ (d : Nat) (b a : Int) (l0 l1 l2 l3 : Option mx_V) (S h : mx_H) (n : Int), mx_ex d 263 1457 [l0, l1, l2, l3] [(0, b), (0, a)] S h n = mx_br (a = b) d 263 1653 1460 [l0, l1, l2, l3] [] S h n) ∧
  (∀ (d : Nat) (l0 l1 l2 l3 : Option mx_V) (S h : mx_H) (n : Int), mx_ex d 263 1460 [l0, l1, l2, l3] [] S h n = mx_ex d 263 1461 [l0, l1, l2, l3] [(0, 0)] S h n) ∧
  (∀ (d : Nat) (x : Int) (l0 l1 l2 l3 : Option mx_V) (S h : mx_H) (n : Int), mx_ex d 263 1461 [l0, l1, l2, l3] [(0, x)] S h n = mx_re (0 ≤ x ∧ x ≤ 1) (some (0, x)) S h n) ∧
  (∀ (d : Nat) (x : Int) (l0 l2 l3 : Option mx_V) (S h : mx_H) (n : Int), mx_ex d 263 1462 [l0, some (2, x), l2, l3] [] S h n = mx_ex d 263 1463 [l0, some (2, x), l2, l3] [(2, x)] S h n) ∧
  (∀ (d : Nat) (x : Int) (l1 l2 l3 : Option mx_V) (v0 : mx_V) (S h : mx_H) (n : Int), mx_ex d 263 1463 [some (2, x), l1, l2, l3] [v0] S h n = mx_ex d 263 1464 [some (2, x), l1, l2, l3] [(2, x), v0] S h n) ∧
  (∀ (d : Nat) (x : Int) (l0 l1 l2 : Option mx_V) (v0 v1 : mx_V) (S h : mx_H) (n : Int), mx_ex d 263 1464 [l0, l1, l2, some (0, x)] [v0, v1] S h n = mx_ex d 263 1465 [l0, l1, l2, some (0, x)] [(0, x), v0, v1] S h n) ∧
  (∀ (d : Nat) (l0 l1 l2 l3 : Option mx_V) (v0 v1 v2 : mx_V) (S h : mx_H) (n : Int), mx_ex d 263 1465 [l0, l1, l2, l3] [v0, v1, v2] S h n = mx_ex d 263 1466 [l0, l1, l2, l3] [(0, 1), v0, v1, v2] S h n) ∧
  (∀ (d : Nat) (b a : Int) (l0 l1 l2 l3 : Option mx_V) (v2 v3 : mx_V) (S h : mx_H) (n : Int), mx_ex d 263 1466 [l0, l1, l2, l3] [(0, b), (0, a), v2, v3] S h n = mx_ex d 263 1467 [l0, l1, l2, l3] [(0, mx_w (a + b)), v2, v3] S h n) ∧
  (∀ (d : Nat) (i a : Int) (l0 l1 l2 l3 : Option mx_V) (v2 : mx_V) (S h : mx_H) (n : Int), mx_ex d 263 1467 [l0, l1, l2, l3] [(0, i), (2, a), v2] S h n = mx_gd ((S a (-2) = 20 ∨ S a (-2) = 24) ∧ 0 ≤ i ∧ i < S a (-1)) d 263 1468 [l0, l1, l2, l3] [(0, h a i), v2] S h n) ∧
  (∀ (d : Nat) (x : Int) (l1 l2 l3 : Option mx_V) (v0 v1 : mx_V) (S h : mx_H) (n : Int), mx_ex d 263 1468 [some (2, x), l1, l2, l3] [v0, v1] S h n = mx_ex d 263 1469 [some (2, x), l1, l2, l3] [(2, x), v0, v1] S h n) ∧
  (∀ (d : Nat) (x : Int) (l0 l1 l2 : Option mx_V) (v0 v1 v2 : mx_V) (S h : mx_H) (n : Int), mx_ex d 263 1469 [l0, l1, l2, some (0, x)] [v0, v1, v2] S h n = mx_ex d 263 1470 [l0, l1, l2, some (0, x)] [(0, x), v0, v1, v2] S h n) ∧
  (∀ (d : Nat) (l0 l1 l2 l3 : Option mx_V) (v0 v1 v2 v3 : mx_V) (S h : mx_H) (n : Int), mx_ex d 263 1470 [l0, l1, l2, l3] [v0, v1, v2, v3] S h n = mx_ex d 263 1471 [l0, l1, l2, l3] [(0, 2), v0, v1, v2, v3] S h n) ∧
  (∀ (d : Nat) (b a : Int) (l0 l1 l2 l3 : Option mx_V) (v2 v3 v4 : mx_V) (S h : mx_H) (n : Int), mx_ex d 263 1471 [l0, l1, l2, l3] [(0, b), (0, a), v2, v3, v4] S h n = mx_ex d 263 1472 [l0, l1, l2, l3] [(0, mx_w (a + b)), v2, v3, v4] S h n) ∧
  (∀ (d : Nat) (i a : Int) (l0 l1 l2 l3 : Option mx_V) (v2 v3 : mx_V) (S h : mx_H) (n : Int), mx_ex d 263 1472 [l0, l1, l2, l3] [(0, i), (2, a), v2, v3] S h n = mx_gd ((S a (-2) = 20 ∨ S a (-2) = 24) ∧ 0 ≤ i ∧ i < S a (-1)) d 263 1473 [l0, l1, l2, l3] [(0, h a i), v2, v3] S h n) ∧
  (∀ (d : Nat) (x : Int) (l1 l2 l3 : Option mx_V) (v0 v1 v2 : mx_V) (S h : mx_H) (n : Int), mx_ex d 263 1473 [some (2, x), l1, l2, l3] [v0, v1, v2] S h n = mx_ex d 263 1474 [some (2, x), l1, l2, l3] [(2, x), v0, v1, v2] S h n) ∧
  (∀ (d : Nat) (x : Int) (l0 l1 l2 : Option mx_V) (v0 v1 v2 v3 : mx_V) (S h : mx_H) (n : Int), mx_ex d 263 1474 [l0, l1, l2, some (0, x)] [v0, v1, v2, v3] S h n = mx_ex d 263 1475 [l0, l1, l2, some (0, x)] [(0, x), v0, v1, v2, v3] S h n) :=
  ⟨by intros; exact eq_ld rfl rfl,
   by intros; exact eq_ld rfl rfl,
   by intros; exact eq_ld rfl rfl,
   by intros; exact eq_push rfl,
   by intros; exact eq_i2 (o := mx_add) rfl,
   by intros; exact eq_iald rfl,
   by intros; exact eq_ld rfl rfl,
   by intros; exact eq_ld rfl rfl,
   by intros; exact eq_push rfl,
   by intros; exact eq_i2 (o := mx_add) rfl,
   by intros; exact eq_iald rfl,
   by intros; exact eq_ld rfl rfl,
   by intros; exact eq_ld rfl rfl,
   by intros; exact eq_push rfl,
   by intros; exact eq_i2 (o := mx_add) rfl,
   by intros; exact eq_iald rfl,
   by intros; exact eq_cv rfl (Nat.le_of_ble_eq_true rfl) rfl rfl rfl (Nat.le_of_ble_eq_true rfl),
   by intros; exact eq_ic0 rfl,
   by intros; exact eq_push rfl,
   by intros; exact eq_rr rfl,
   by intros; exact eq_ld rfl rfl,
   by intros; exact eq_ld rfl rfl,
   by intros; exact eq_ld rfl rfl,
   by intros; exact eq_push rfl,
   by intros; exact eq_i2 (o := mx_add) rfl,
   by intros; exact eq_iald rfl,
   by intros; exact eq_ld rfl rfl,
   by intros; exact eq_ld rfl rfl,
   by intros; exact eq_push rfl,
   by intros; exact eq_i2 (o := mx_add) rfl,
   by intros; exact eq_iald rfl,
   by intros; exact eq_ld rfl rfl,
   by intros; exact eq_ld rfl rfl,
   by intros; exact eq_push rfl,
   by intros; exact eq_i2 (o := mx_add) rfl,
   by intros; exact eq_iald rfl,
   by intros; exact eq_cv rfl (Nat.le_of_ble_eq_true rfl) rfl rfl rfl (Nat.le_of_ble_eq_true rfl),
   by intros; exact eq_ld rfl rfl,
   by intros; exact eq_ld rfl rfl,
   by intros; exact eq_ld rfl rfl,
   by intros; exact eq_push rfl,
   by intros; exact eq_i2 (o := mx_add) rfl,
   by intros; exact eq_iald rfl,
   by intros; exact eq_ld rfl rfl,
   by intros; exact eq_ld rfl rfl,
   by intros; exact eq_push rfl,
   by intros; exact eq_i2 (o := mx_add) rfl,
   by intros; exact eq_iald rfl,
   by intros; exact eq_ld rfl rfl,
   by intros; exact eq_ld rfl rfl,
   by intros; exact eq_push rfl,
   by intros; exact eq_i2 (o := mx_add) rfl,
   by intros; exact eq_iald rfl,
   by intros; exact eq_cv rfl (Nat.le_of_ble_eq_true rfl) rfl rfl rfl (Nat.le_of_ble_eq_true rfl),
   by intros; exact eq_ic0 rfl,
   by intros; exact eq_push rfl,
   by intros; exact eq_rr rfl,
   by intros; exact eq_ld rfl rfl,
   by intros; exact eq_ld rfl rfl,
   by intros; exact eq_ld rfl rfl,
   by intros; exact eq_push rfl,
   by intros; exact eq_i2 (o := mx_add) rfl,
   by intros; exact eq_iald rfl,
   by intros; exact eq_ld rfl rfl,
   by intros; exact eq_ld rfl rfl,
   by intros; exact eq_push rfl,
   by intros; exact eq_i2 (o := mx_add) rfl,
   by intros; exact eq_iald rfl,
   by intros; exact eq_ld rfl rfl,
   by intros; exact eq_ld rfl rfl⟩
theorem rw_L_law_15 :
  (∀ (d : Nat) (l0 l1 l2 l3 : Option mx_V) (v0 v1 v2 v3 v4 : mx_V) (S h : mx_H) (n : Int), mx_ex d 263 1475 [l0, l1, l2, l3] [v0, v1, v2, v3, v4] S h n = mx_ex d 263 1476 [l0, l1, l2, l3] [(0, 3), v0, v1, v2, v3, v4] S h n) ∧
  (∀ (d : Nat) (b a : Int) (l0 l1 l2 l3 : Option mx_V) (v2 v3 v4 v5 : mx_V) (S h : mx_H) (n : Int), mx_ex d 263 1476 [l0, l1, l2, l3] [(0, b), (0, a), v2, v3, v4, v5] S h n = mx_ex d 263 1477 [l0, l1, l2, l3] [(0, mx_w (a + b)), v2, v3, v4, v5] S h n) ∧
  (∀ (d : Nat) (i a : Int) (l0 l1 l2 l3 : Option mx_V) (v2 v3 v4 : mx_V) (S h : mx_H) (n : Int), mx_ex d 263 1477 [l0, l1, l2, l3] [(0, i), (2, a), v2, v3, v4] S h n = mx_gd ((S a (-2) = 20 ∨ S a (-2) = 24) ∧ 0 ≤ i ∧ i < S a (-1)) d 263 1478 [l0, l1, l2, l3] [(0, h a i), v2, v3, v4] S h n) ∧
  (∀ (d : Nat) (x0 x1 x2 a : Int) (l0 l1 l2 l3 : Option mx_V) (S h : mx_H) (n : Int), mx_ex (d + 1) 263 1478 [l0, l1, l2, l3] [(0, x0), (0, x1), (0, x2), (2, a)] S h n = mx_cl (S a (-2) = 7) d 137 [(2, a), (0, x2), (0, x1), (0, x0)] 263 1481 [l0, l1, l2, l3] [] S h n) ∧
  (∀ (d : Nat) (x : Int) (l0 l1 l3 : Option mx_V) (v0 : mx_V) (S h : mx_H) (n : Int), mx_ex d 263 1481 [l0, l1, some (2, x), l3] [v0] S h n = mx_ex d 263 1482 [l0, l1, some (2, x), l3] [(2, x), v0] S h n) ∧
  (∀ (d : Nat) (x : Int) (l1 l2 l3 : Option mx_V) (v0 v1 : mx_V) (S h : mx_H) (n : Int), mx_ex d 263 1482 [some (2, x), l1, l2, l3] [v0, v1] S h n = mx_ex d 263 1483 [some (2, x), l1, l2, l3] [(2, x), v0, v1] S h n) ∧
  (∀ (d : Nat) (x : Int) (l0 l1 l2 : Option mx_V) (v0 v1 v2 : mx_V) (S h : mx_H) (n : Int), mx_ex d 263 1483 [l0, l1, l2, some (0, x)] [v0, v1, v2] S h n = mx_ex d 263 1484 [l0, l1, l2, some (0, x)] [(0, x), v0, v1, v2] S h n) ∧
  (∀ (d : Nat) (l0 l1 l2 l3 : Option mx_V) (v0 v1 v2 v3 : mx_V) (S h : mx_H) (n : Int), mx_ex d 263 1484 [l0, l1, l2, l3] [v0, v1, v2, v3] S h n = mx_ex d 263 1485 [l0, l1, l2, l3] [(0, 1), v0, v1, v2, v3] S h n) ∧
  (∀ (d : Nat) (b a : Int) (l0 l1 l2 l3 : Option mx_V) (v2 v3 v4 : mx_V) (S h : mx_H) (n : Int), mx_ex d 263 1485 [l0, l1, l2, l3] [(0, b), (0, a), v2, v3, v4] S h n = mx_ex d 263 1486 [l0, l1, l2, l3] [(0, mx_w (a + b)), v2, v3, v4] S h n) ∧
  (∀ (d : Nat) (i a : Int) (l0 l1 l2 l3 : Option mx_V) (v2 v3 : mx_V) (S h : mx_H) (n : Int), mx_ex d 263 1486 [l0, l1, l2, l3] [(0, i), (2, a), v2, v3] S h n = mx_gd ((S a (-2) = 20 ∨ S a (-2) = 24) ∧ 0 ≤ i ∧ i < S a (-1)) d 263 1487 [l0, l1, l2, l3] [(0, h a i), v2, v3] S h n) ∧
  (∀ (d : Nat) (x : Int) (l1 l2 l3 : Option mx_V) (v0 v1 v2 : mx_V) (S h : mx_H) (n : Int), mx_ex d 263 1487 [some (2, x), l1, l2, l3] [v0, v1, v2] S h n = mx_ex d 263 1488 [some (2, x), l1, l2, l3] [(2, x), v0, v1, v2] S h n) ∧
  (∀ (d : Nat) (x : Int) (l0 l1 l2 : Option mx_V) (v0 v1 v2 v3 : mx_V) (S h : mx_H) (n : Int), mx_ex d 263 1488 [l0, l1, l2, some (0, x)] [v0, v1, v2, v3] S h n = mx_ex d 263 1489 [l0, l1, l2, some (0, x)] [(0, x), v0, v1, v2, v3] S h n) ∧
  (∀ (d : Nat) (l0 l1 l2 l3 : Option mx_V) (v0 v1 v2 v3 v4 : mx_V) (S h : mx_H) (n : Int), mx_ex d 263 1489 [l0, l1, l2, l3] [v0, v1, v2, v3, v4] S h n = mx_ex d 263 1490 [l0, l1, l2, l3] [(0, 2), v0, v1, v2, v3, v4] S h n) ∧
  (∀ (d : Nat) (b a : Int) (l0 l1 l2 l3 : Option mx_V) (v2 v3 v4 v5 : mx_V) (S h : mx_H) (n : Int), mx_ex d 263 1490 [l0, l1, l2, l3] [(0, b), (0, a), v2, v3, v4, v5] S h n = mx_ex d 263 1491 [l0, l1, l2, l3] [(0, mx_w (a + b)), v2, v3, v4, v5] S h n) ∧
  (∀ (d : Nat) (i a : Int) (l0 l1 l2 l3 : Option mx_V) (v2 v3 v4 : mx_V) (S h : mx_H) (n : Int), mx_ex d 263 1491 [l0, l1, l2, l3] [(0, i), (2, a), v2, v3, v4] S h n = mx_gd ((S a (-2) = 20 ∨ S a (-2) = 24) ∧ 0 ≤ i ∧ i < S a (-1)) d 263 1492 [l0, l1, l2, l3] [(0, h a i), v2, v3, v4] S h n) ∧
  (∀ (d : Nat) (x : Int) (l1 l2 l3 : Option mx_V) (v0 v1 v2 v3 : mx_V) (S h : mx_H) (n : Int), mx_ex d 263 1492 [some (2, x), l1, l2, l3] [v0, v1, v2, v3] S h n = mx_ex d 263 1493 [some (2, x), l1, l2, l3] [(2, x), v0, v1, v2, v3] S h n) ∧
  (∀ (d : Nat) (x : Int) (l0 l1 l2 : Option mx_V) (v0 v1 v2 v3 v4 : mx_V) (S h : mx_H) (n : Int), mx_ex d 263 1493 [l0, l1, l2, some (0, x)] [v0, v1, v2, v3, v4] S h n = mx_ex d 263 1494 [l0, l1, l2, some (0, x)] [(0, x), v0, v1, v2, v3, v4] S h n) ∧
  (∀ (d : Nat) (l0 l1 l2 l3 : Option mx_V) (v0 v1 v2 v3 v4 v5 : mx_V) (S h : mx_H) (n : Int), mx_ex d 263 1494 [l0, l1, l2, l3] [v0, v1, v2, v3, v4, v5] S h n = mx_ex d 263 1495 [l0, l1, l2, l3] [(0, 3), v0, v1, v2, v3, v4, v5] S h n) ∧
  (∀ (d : Nat) (b a : Int) (l0 l1 l2 l3 : Option mx_V) (v2 v3 v4 v5 v6 : mx_V) (S h : mx_H) (n : Int), mx_ex d 263 1495 [l0, l1, l2, l3] [(0, b), (0, a), v2, v3, v4, v5, v6] S h n = mx_ex d 263 1496 [l0, l1, l2, l3] [(0, mx_w (a + b)), v2, v3, v4, v5, v6] S h n) ∧
  (∀ (d : Nat) (i a : Int) (l0 l1 l2 l3 : Option mx_V) (v2 v3 v4 v5 : mx_V) (S h : mx_H) (n : Int), mx_ex d 263 1496 [l0, l1, l2, l3] [(0, i), (2, a), v2, v3, v4, v5] S h n = mx_gd ((S a (-2) = 20 ∨ S a (-2) = 24) ∧ 0 ≤ i ∧ i < S a (-1)) d 263 1497 [l0, l1, l2, l3] [(0, h a i), v2, v3, v4, v5] S h n) ∧
  (∀ (d : Nat) (x0 x1 x2 a : Int) (l0 l1 l2 l3 : Option mx_V) (v4 : mx_V) (S h : mx_H) (n : Int), mx_ex (d + 1) 263 1497 [l0, l1, l2, l3] [(0, x0), (0, x1), (0, x2), (2, a), v4] S h n = mx_cl (S a (-2) = 13) d 234 [(2, a), (0, x2), (0, x1), (0, x0)] 263 1500 [l0, l1, l2, l3] [v4] S h n) ∧
  (∀ (d : Nat) (b a : Int) (l0 l1 l2 l3 : Option mx_V) (S h : mx_H) (n : Int), mx_ex d 263 1500 [l0, l1, l2, l3] [(0, b), (0, a)] S h n = mx_br (a = b) d 263 1653 1503 [l0, l1, l2, l3] [] S h n) ∧
  (∀ (d : Nat) (l0 l1 l2 l3 : Option mx_V) (S h : mx_H) (n : Int), mx_ex d 263 1503 [l0, l1, l2, l3] [] S h n = mx_ex d 263 1504 [l0, l1, l2, l3] [(0, 0)] S h n) ∧
  (∀ (d : Nat) (x : Int) (l0 l1 l2 l3 : Option mx_V) (S h : mx_H) (n : Int), mx_ex d 263 1504 [l0, l1, l2, l3] [(0, x)] S h n = mx_re (0 ≤ x ∧ x ≤ 1) (some (0, x)) S h n) ∧
  (∀ (d : Nat) (x : Int) (l0 l2 l3 : Option mx_V) (S h : mx_H) (n : Int), mx_ex d 263 1505 [l0, some (2, x), l2, l3] [] S h n = mx_ex d 263 1506 [l0, some (2, x), l2, l3] [(2, x)] S h n) ∧
  (∀ (d : Nat) (x : Int) (l1 l2 l3 : Option mx_V) (v0 : mx_V) (S h : mx_H) (n : Int), mx_ex d 263 1506 [some (2, x), l1, l2, l3] [v0] S h n = mx_ex d 263 1507 [some (2, x), l1, l2, l3] [(2, x), v0] S h n) ∧
  (∀ (d : Nat) (x : Int) (l0 l1 l2 : Option mx_V) (v0 v1 : mx_V) (S h : mx_H) (n : Int), mx_ex d 263 1507 [l0, l1, l2, some (0, x)] [v0, v1] S h n = mx_ex d 263 1508 [l0, l1, l2, some (0, x)] [(0, x), v0, v1] S h n) ∧
  (∀ (d : Nat) (l0 l1 l2 l3 : Option mx_V) (v0 v1 v2 : mx_V) (S h : mx_H) (n : Int), mx_ex d 263 1508 [l0, l1, l2, l3] [v0, v1, v2] S h n = mx_ex d 263 1509 [l0, l1, l2, l3] [(0, 1), v0, v1, v2] S h n) ∧
  (∀ (d : Nat) (b a : Int) (l0 l1 l2 l3 : Option mx_V) (v2 v3 : mx_V) (S h : mx_H) (n : Int), mx_ex d 263 1509 [l0, l1, l2, l3] [(0, b), (0, a), v2, v3] S h n = mx_ex d 263 1510 [l0, l1, l2, l3] [(0, mx_w (a + b)), v2, v3] S h n) ∧
  (∀ (d : Nat) (i a : Int) (l0 l1 l2 l3 : Option mx_V) (v2 : mx_V) (S h : mx_H) (n : Int), mx_ex d 263 1510 [l0, l1, l2, l3] [(0, i), (2, a), v2] S h n = mx_gd ((S a (-2) = 20 ∨ S a (-2) = 24) ∧ 0 ≤ i ∧ i < S a (-1)) d 263 1511 [l0, l1, l2, l3] [(0, h a i), v2] S h n) ∧
  (∀ (d : Nat) (x : Int) (l1 l2 l3 : Option mx_V) (v0 v1 : mx_V) (S h : mx_H) (n : Int), mx_ex d 263 1511 [some (2, x), l1, l2, l3] [v0, v1] S h n = mx_ex d 263 1512 [some (2, x), l1, l2, l3] [(2, x), v0, v1] S h n) ∧
  (∀ (d : Nat) (x : Int) (l0 l1 l2 : Option mx_V) (v0 v1 v2 : mx_V) (S h : mx_H) (n : Int), mx_ex d 263 1512 [l0, l1, l2, some (0, x)] [v0, v1, v2] S h n = mx_ex d 263 1513 [l0, l1, l2, some (0, x)] [(0, x), v0, v1, v2] S h n) ∧
  (∀ (d : Nat) (l0 l1 l2 l3 : Option mx_V) (v0 v1 v2 v3 : mx_V) (S h : mx_H) (n : Int), mx_ex d 263 1513 [l0, l1, l2, l3] [v0, v1, v2, v3] S h n = mx_ex d 263 1514 [l0, l1, l2, l3] [(0, 2), v0, v1, v2, v3] S h n) ∧
  (∀ (d : Nat) (b a : Int) (l0 l1 l2 l3 : Option mx_V) (v2 v3 v4 : mx_V) (S h : mx_H) (n : Int), mx_ex d 263 1514 [l0, l1, l2, l3] [(0, b), (0, a), v2, v3, v4] S h n = mx_ex d 263 1515 [l0, l1, l2, l3] [(0, mx_w (a + b)), v2, v3, v4] S h n) ∧
  (∀ (d : Nat) (i a : Int) (l0 l1 l2 l3 : Option mx_V) (v2 v3 : mx_V) (S h : mx_H) (n : Int), mx_ex d 263 1515 [l0, l1, l2, l3] [(0, i), (2, a), v2, v3] S h n = mx_gd ((S a (-2) = 20 ∨ S a (-2) = 24) ∧ 0 ≤ i ∧ i < S a (-1)) d 263 1516 [l0, l1, l2, l3] [(0, h a i), v2, v3] S h n) ∧
  (∀ (d : Nat) (x0 x1 a : Int) (l0 l1 l2 l3 : Option mx_V) (S h : mx_H) (n : Int), mx_ex (d + 1) 263 1516 [l0, l1, l2, l3] [(0, x0), (0, x1), (2, a)] S h n = mx_cl (S a (-2) = 7) d 138 [(2, a), (0, x1), (0, x0)] 263 1519 [l0, l1, l2, l3] [] S h n) ∧
  (∀ (d : Nat) (x : Int) (l0 l1 l3 : Option mx_V) (v0 : mx_V) (S h : mx_H) (n : Int), mx_ex d 263 1519 [l0, l1, some (2, x), l3] [v0] S h n = mx_ex d 263 1520 [l0, l1, some (2, x), l3] [(2, x), v0] S h n) ∧
  (∀ (d : Nat) (x : Int) (l1 l2 l3 : Option mx_V) (v0 v1 : mx_V) (S h : mx_H) (n : Int), mx_ex d 263 1520 [some (2, x), l1, l2, l3] [v0, v1] S h n = mx_ex d 263 1521 [some (2, x), l1, l2, l3] [(2, x), v0, v1] S h n) ∧
  (∀ (d : Nat) (x : Int) (l0 l1 l2 : Option mx_V) (v0 v1 v2 : mx_V) (S h : mx_H) (n : Int), mx_ex d 263 1521 [l0, l1, l2, some (0, x)] [v0, v1, v2] S h n = mx_ex d 263 1522 [l0, l1, l2, some (0, x)] [(0, x), v0, v1, v2] S h n) ∧
  (∀ (d : Nat) (l0 l1 l2 l3 : Option mx_V) (v0 v1 v2 v3 : mx_V) (S h : mx_H) (n : Int), mx_ex d 263 1522 [l0, l1, l2, l3] [v0, v1, v2, v3] S h n = mx_ex d 263 1523 [l0, l1, l2, l3] [(0, 1), v0, v1, v2, v3] S h n) ∧
  (∀ (d : Nat) (b a : Int) (l0 l1 l2 l3 : Option mx_V) (v2 v3 v4 : mx_V) (S h : mx_H) (n : Int), mx_ex d 263 1523 [l0, l1, l2, l3] [(0, b), (0, a), v2, v3, v4] S h n = mx_ex d 263 1524 [l0, l1, l2, l3] [(0, mx_w (a + b)), v2, v3, v4] S h n) ∧
  (∀ (d : Nat) (i a : Int) (l0 l1 l2 l3 : Option mx_V) (v2 v3 : mx_V) (S h : mx_H) (n : Int), mx_ex d 263 1524 [l0, l1, l2, l3] [(0, i), (2, a), v2, v3] S h n = mx_gd ((S a (-2) = 20 ∨ S a (-2) = 24) ∧ 0 ≤ i ∧ i < S a (-1)) d 263 1525 [l0, l1, l2, l3] [(0, h a i), v2, v3] S h n) ∧
  (∀ (d : Nat) (x : Int) (l1 l2 l3 : Option mx_V) (v0 v1 v2 : mx_V) (S h : mx_H) (n : Int), mx_ex d 263 1525 [some (2, x), l1, l2, l3] [v0, v1, v2] S h n = mx_ex d 263 1526 [some (2, x), l1, l2, l3] [(2, x), v0, v1, v2] S h n) ∧
  (∀ (d : Nat) (x : Int) (l0 l1 l2 : Option mx_V) (v0 v1 v2 v3 : mx_V) (S h : mx_H) (n : Int), mx_ex d 263 1526 [l0, l1, l2, some (0, x)] [v0, v1, v2, v3] S h n = mx_ex d 263 1527 [l0, l1, l2, some (0, x)] [(0, x), v0, v1, v2, v3] S h n) ∧
  (∀ (d : Nat) (l0 l1 l2 l3 : Option mx_V) (v0 v1 v2 v3 v4 : mx_V) (S h : mx_H) (n : Int), mx_ex d 263 1527 [l0, l1, l2, l3] [v0, v1, v2, v3, v4] S h n = mx_ex d 263 1528 [l0, l1, l2, l3] [(0, 2), v0, v1, v2, v3, v4] S h n) ∧
  (∀ (d : Nat) (b a : Int) (l0 l1 l2 l3 : Option mx_V) (v2 v3 v4 v5 : mx_V) (S h : mx_H) (n : Int), mx_ex d 263 1528 [l0, l1, l2, l3] [(0, b), (0, a), v2, v3, v4, v5] S h n = mx_ex d 263 1529 [l0, l1, l2, l3] [(0, mx_w (a + b)), v2, v3, v4, v5] S h n) ∧
  (∀ (d : Nat) (i a : Int) (l0 l1 l2 l3 : Option mx_V) (v2 v3 v4 : mx_V) (S h : mx_H) (n : Int), mx_ex d 263 1529 [l0, l1, l2, l3] [(0, i), (2, a), v2, v3, v4] S h n = mx_gd ((S a (-2) = 20 ∨ S a (-2) = 24) ∧ 0 ≤ i ∧ i < S a (-1)) d 263 1530 [l0, l1, l2, l3] [(0, h a i), v2, v3, v4] S h n) ∧
  (∀ (d : Nat) (x0 x1 a : Int) (l0 l1 l2 l3 : Option mx_V) (v3 : mx_V) (S h : mx_H) (n : Int), mx_ex (d + 1) 263 1530 [l0, l1, l2, l3] [(0, x0), (0, x1), (2, a), v3] S h n = mx_cl (S a (-2) = 13) d 237 [(2, a), (0, x1), (0, x0)] 263 1533 [l0, l1, l2, l3] [v3] S h n) ∧
  (∀ (d : Nat) (b a : Int) (l0 l1 l2 l3 : Option mx_V) (S h : mx_H) (n : Int), mx_ex d 263 1533 [l0, l1, l2, l3] [(0, b), (0, a)] S h n = mx_br (a = b) d 263 1653 1536 [l0, l1, l2, l3] [] S h n) ∧
  (∀ (d : Nat) (l0 l1 l2 l3 : Option mx_V) (S h : mx_H) (n : Int), mx_ex d 263 1536 [l0, l1, l2, l3] [] S h n = mx_ex d 263 1537 [l0, l1, l2, l3] [(0, 0)] S h n) ∧
  (∀ (d : Nat) (x : Int) (l0 l1 l2 l3 : Option mx_V) (S h : mx_H) (n : Int), mx_ex d 263 1537 [l0, l1, l2, l3] [(0, x)] S h n = mx_re (0 ≤ x ∧ x ≤ 1) (some (0, x)) S h n) ∧
  (∀ (d : Nat) (x : Int) (l0 l2 l3 : Option mx_V) (S h : mx_H) (n : Int), mx_ex d 263 1538 [l0, some (2, x), l2, l3] [] S h n = mx_ex d 263 1539 [l0, some (2, x), l2, l3] [(2, x)] S h n) ∧
  (∀ (d : Nat) (x : Int) (l1 l2 l3 : Option mx_V) (v0 : mx_V) (S h : mx_H) (n : Int), mx_ex d 263 1539 [some (2, x), l1, l2, l3] [v0] S h n = mx_ex d 263 1540 [some (2, x), l1, l2, l3] [(2, x), v0] S h n) ∧
  (∀ (d : Nat) (x : Int) (l0 l1 l2 : Option mx_V) (v0 v1 : mx_V) (S h : mx_H) (n : Int), mx_ex d 263 1540 [l0, l1, l2, some (0, x)] [v0, v1] S h n = mx_ex d 263 1541 [l0, l1, l2, some (0, x)] [(0, x), v0, v1] S h n) ∧
  (∀ (d : Nat) (l0 l1 l2 l3 : Option mx_V) (v0 v1 v2 : mx_V) (S h : mx_H) (n : Int), mx_ex d 263 1541 [l0, l1, l2, l3] [v0, v1, v2] S h n = mx_ex d 263 1542 [l0, l1, l2, l3] [(0, 1), v0, v1, v2] S h n) ∧
  (∀ (d : Nat) (b a : Int) (l0 l1 l2 l3 : Option mx_V) (v2 v3 : mx_V) (S h : mx_H) (n : Int), mx_ex d 263 1542 [l0, l1, l2, l3] [(0, b), (0, a), v2, v3] S h n = mx_ex d 263 1543 [l0, l1, l2, l3] [(0, mx_w (a + b)), v2, v3] S h n) ∧
  (∀ (d : Nat) (i a : Int) (l0 l1 l2 l3 : Option mx_V) (v2 : mx_V) (S h : mx_H) (n : Int), mx_ex d 263 1543 [l0, l1, l2, l3] [(0, i), (2, a), v2] S h n = mx_gd ((S a (-2) = 20 ∨ S a (-2) = 24) ∧ 0 ≤ i ∧ i < S a (-1)) d 263 1544 [l0, l1, l2, l3] [(0, h a i), v2] S h n) ∧
  (∀ (d : Nat) (x : Int) (l1 l2 l3 : Option mx_V) (v0 v1 : mx_V) (S h : mx_H) (n : Int), mx_ex d 263 1544 [some (2, x), l1, l2, l3] [v0, v1] S h n = mx_ex d 263 1545 [some (2, x), l1, l2, l3] [(2, x), v0, v1] S h n) ∧
  (∀ (d : Nat) (x : Int) (l0 l1 l2 : Option mx_V) (v0 v1 v2 : mx_V) (S h : mx_H) (n : Int), mx_ex d 263 1545 [l0, l1, l2, some (0, x)] [v0, v1, v2] S h n = mx_ex d 263 1546 [l0, l1, l2, some (0, x)] [(0, x), v0, v1, v2] S h n) ∧
  (∀ (d : Nat) (l0 l1 l2 l3 : Option mx_V) (v0 v1 v2 v3 : mx_V) (S h : mx_H) (n : Int), mx_ex d 263 1546 [l0, l1, l2, l3] [v0, v1, v2, v3] S h n = mx_ex d 263 1547 [l0, l1, l2, l3] [(0, 2), v0, v1, v2, v3] S h n) ∧
  (∀ (d : Nat) (b a : Int) (l0 l1 l2 l3 : Option mx_V) (v2 v3 v4 : mx_V) (S h : mx_H) (n : Int), mx_ex d 263 1547 [l0, l1, l2, l3] [(0, b), (0, a), v2, v3, v4] S h n = mx_ex d 263 1548 [l0, l1, l2, l3] [(0, mx_w (a + b)), v2, v3, v4] S h n) ∧
  (∀ (d : Nat) (i a : Int) (l0 l1 l2 l3 : Option mx_V) (v2 v3 : mx_V) (S h : mx_H) (n : Int), mx_ex d 263 1548 [l0, l1, l2, l3] [(0, i), (2, a), v2, v3] S h n = mx_gd ((S a (-2) = 20 ∨ S a (-2) = 24) ∧ 0 ≤ i ∧ i < S a (-1)) d 263 1549 [l0, l1, l2, l3] [(0, h a i), v2, v3] S h n) ∧
  (∀ (d : Nat) (x : Int) (l1 l2 l3 : Option mx_V) (v0 v1 v2 : mx_V) (S h : mx_H) (n : Int), mx_ex d 263 1549 [some (2, x), l1, l2, l3] [v0, v1, v2] S h n = mx_ex d 263 1550 [some (2, x), l1, l2, l3] [(2, x), v0, v1, v2] S h n) ∧
  (∀ (d : Nat) (x : Int) (l0 l1 l2 : Option mx_V) (v0 v1 v2 v3 : mx_V) (S h : mx_H) (n : Int), mx_ex d 263 1550 [l0, l1, l2, some (0, x)] [v0, v1, v2, v3] S h n = mx_ex d 263 1551 [l0, l1, l2, some (0, x)] [(0, x), v0, v1, v2, v3] S h n) ∧
  (∀ (d : Nat) (l0 l1 l2 l3 : Option mx_V) (v0 v1 v2 v3 v4 : mx_V) (S h : mx_H) (n : Int), mx_ex d 263 1551 [l0, l1, l2, l3] [v0, v1, v2, v3, v4] S h n = mx_ex d 263 1552 [l0, l1, l2, l3] [(0, 3), v0, v1, v2, v3, v4] S h n) ∧
  (∀ (d : Nat) (b a : Int) (l0 l1 l2 l3 : Option mx_V) (v2 v3 v4 v5 : mx_V) (S h : mx_H) (n : Int), mx_ex d 263 1552 [l0, l1, l2, l3] [(0, b), (0, a), v2, v3, v4, v5] S h n = mx_ex d 263 1553 [l0, l1, l2, l3] [(0, mx_w (a + b)), v2, v3, v4, v5] S h n) ∧
  (∀ (d : Nat) (i a : Int) (l0 l1 l2 l3 : Option mx_V) (v2 v3 v4 : mx_V) (S h : mx_H) (n : Int), mx_ex d 263 1553 [l0, l1, l2, l3] [(0, i), (2, a), v2, v3, v4] S h n = mx_gd ((S a (-2) = 20 ∨ S a (-2) = 24) ∧ 0 ≤ i ∧ i < S a (-1)) d 263 1554 [l0, l1, l2, l3] [(0, h a i), v2, v3, v4] S h n) ∧
  (∀ (d : Nat) (x0 x1 x2 a : Int) (l0 l1 l2 l3 : Option mx_V) (S h : mx_H) (n : Int), mx_ex (d + 1) 263 1554 [l0, l1, l2, l3] [(0, x0), (0, x1), (0, x2), (2, a)] S h n = mx_cl (S a (-2) = 7) d 139 [(2, a), (0, x2), (0, x1), (0, x0)] 263 1557 [l0, l1, l2, l3] [] S h n) ∧
  (∀ (d : Nat) (x : Int) (l0 l1 l3 : Option mx_V) (v0 : mx_V) (S h : mx_H) (n : Int), mx_ex d 263 1557 [l0, l1, some (2, x), l3] [v0] S h n = mx_ex d 263 1558 [l0, l1, some (2, x), l3] [(2, x), v0] S h n) ∧
  (∀ (d : Nat) (x : Int) (l1 l2 l3 : Option mx_V) (v0 v1 : mx_V) (S h : mx_H) (n : Int), mx_ex d 263 1558 [some (2, x), l1, l2, l3] [v0, v1] S h n = mx_ex d 263 1559 [some (2, x), l1, l2, l3] [(2, x), v0, v1] S h n) :=
  ⟨by intros; exact eq_push rfl,
   by intros; exact eq_i2 (o := mx_add) rfl,
   by intros; exact eq_iald rfl,
   by intros; exact eq_cv rfl (Nat.le_of_ble_eq_true rfl) rfl rfl rfl (Nat.le_of_ble_eq_true rfl),
   by intros; exact eq_ld rfl rfl,
   by intros; exact eq_ld rfl rfl,
   by intros; exact eq_ld rfl rfl,
   by intros; exact eq_push rfl,
   by intros; exact eq_i2 (o := mx_add) rfl,
   by intros; exact eq_iald rfl,
   by intros; exact eq_ld rfl rfl,
   by intros; exact eq_ld rfl rfl,
   by intros; exact eq_push rfl,
   by intros; exact eq_i2 (o := mx_add) rfl,
   by intros; exact eq_iald rfl,
   by intros; exact eq_ld rfl rfl,
   by intros; exact eq_ld rfl rfl,
   by intros; exact eq_push rfl,
   by intros; exact eq_i2 (o := mx_add) rfl,
   by intros; exact eq_iald rfl,
   by intros; exact eq_cv rfl (Nat.le_of_ble_eq_true rfl) rfl rfl rfl (Nat.le_of_ble_eq_true rfl),
   by intros; exact eq_ic0 rfl,
   by intros; exact eq_push rfl,
   by intros; exact eq_rr rfl,
   by intros; exact eq_ld rfl rfl,
   by intros; exact eq_ld rfl rfl,
   by intros; exact eq_ld rfl rfl,
   by intros; exact eq_push rfl,
   by intros; exact eq_i2 (o := mx_add) rfl,
   by intros; exact eq_iald rfl,
   by intros; exact eq_ld rfl rfl,
   by intros; exact eq_ld rfl rfl,
   by intros; exact eq_push rfl,
   by intros; exact eq_i2 (o := mx_add) rfl,
   by intros; exact eq_iald rfl,
   by intros; exact eq_cv rfl (Nat.le_of_ble_eq_true rfl) rfl rfl rfl (Nat.le_of_ble_eq_true rfl),
   by intros; exact eq_ld rfl rfl,
   by intros; exact eq_ld rfl rfl,
   by intros; exact eq_ld rfl rfl,
   by intros; exact eq_push rfl,
   by intros; exact eq_i2 (o := mx_add) rfl,
   by intros; exact eq_iald rfl,
   by intros; exact eq_ld rfl rfl,
   by intros; exact eq_ld rfl rfl,
   by intros; exact eq_push rfl,
   by intros; exact eq_i2 (o := mx_add) rfl,
   by intros; exact eq_iald rfl,
   by intros; exact eq_cv rfl (Nat.le_of_ble_eq_true rfl) rfl rfl rfl (Nat.le_of_ble_eq_true rfl),
   by intros; exact eq_ic0 rfl,
   by intros; exact eq_push rfl,
   by intros; exact eq_rr rfl,
   by intros; exact eq_ld rfl rfl,
   by intros; exact eq_ld rfl rfl,
   by intros; exact eq_ld rfl rfl,
   by intros; exact eq_push rfl,
   by intros; exact eq_i2 (o := mx_add) rfl,
   by intros; exact eq_iald rfl,
   by intros; exact eq_ld rfl rfl,
   by intros; exact eq_ld rfl rfl,
   by intros; exact eq_push rfl,
   by intros; exact eq_i2 (o := mx_add) rfl,
   by intros; exact eq_iald rfl,
   by intros; exact eq_ld rfl rfl,
   by intros; exact eq_ld rfl rfl,
   by intros; exact eq_push rfl,
   by intros; exact eq_i2 (o := mx_add) rfl,
   by intros; exact eq_iald rfl,
   by intros; exact eq_cv rfl (Nat.le_of_ble_eq_true rfl) rfl rfl rfl (Nat.le_of_ble_eq_true rfl),
   by intros; exact eq_ld rfl rfl,
   by intros; exact eq_ld rfl rfl⟩
theorem rw_L_law_16 :
  (∀ (d : Nat) (x : Int) (l0 l1 l2 : Option mx_V) (v0 v1 v2 : mx_V) (S h : mx_H) (n : Int), mx_ex d 263 1559 [l0, l1, l2, some (0, x)] [v0, v1, v2] S h n = mx_ex d 263 1560 [l0, l1, l2, some (0, x)] [(0, x), v0, v1, v2] S h n) ∧
  (∀ (d : Nat) (l0 l1 l2 l3 : Option mx_V) (v0 v1 v2 v3 : mx_V) (S h : mx_H) (n : Int), mx_ex d 263 1560 [l0, l1, l2, l3] [v0, v1, v2, v3] S h n = mx_ex d 263 1561 [l0, l1, l2, l3] [(0, 1), v0, v1, v2, v3] S h n) ∧
  (∀ (d : Nat) (b a : Int) (l0 l1 l2 l3 : Option mx_V) (v2 v3 v4 : mx_V) (S h : mx_H) (n : Int), mx_ex d 263 1561 [l0, l1, l2, l3] [(0, b), (0, a), v2, v3, v4] S h n = mx_ex d 263 1562 [l0, l1, l2, l3] [(0, mx_w (a + b)), v2, v3, v4] S h n) ∧
  (∀ (d : Nat) (i a : Int) (l0 l1 l2 l3 : Option mx_V) (v2 v3 : mx_V) (S h : mx_H) (n : Int), mx_ex d 263 1562 [l0, l1, l2, l3] [(0, i), (2, a), v2, v3] S h n = mx_gd ((S a (-2) = 20 ∨ S a (-2) = 24) ∧ 0 ≤ i ∧ i < S a (-1)) d 263 1563 [l0, l1, l2, l3] [(0, h a i), v2, v3] S h n) ∧
  (∀ (d : Nat) (x : Int) (l1 l2 l3 : Option mx_V) (v0 v1 v2 : mx_V) (S h : mx_H) (n : Int), mx_ex d 263 1563 [some (2, x), l1, l2, l3] [v0, v1, v2] S h n = mx_ex d 263 1564 [some (2, x), l1, l2, l3] [(2, x), v0, v1, v2] S h n) ∧
  (∀ (d : Nat) (x : Int) (l0 l1 l2 : Option mx_V) (v0 v1 v2 v3 : mx_V) (S h : mx_H) (n : Int), mx_ex d 263 1564 [l0, l1, l2, some (0, x)] [v0, v1, v2, v3] S h n = mx_ex d 263 1565 [l0, l1, l2, some (0, x)] [(0, x), v0, v1, v2, v3] S h n) ∧
  (∀ (d : Nat) (l0 l1 l2 l3 : Option mx_V) (v0 v1 v2 v3 v4 : mx_V) (S h : mx_H) (n : Int), mx_ex d 263 1565 [l0, l1, l2, l3] [v0, v1, v2, v3, v4] S h n = mx_ex d 263 1566 [l0, l1, l2, l3] [(0, 2), v0, v1, v2, v3, v4] S h n) ∧
  (∀ (d : Nat) (b a : Int) (l0 l1 l2 l3 : Option mx_V) (v2 v3 v4 v5 : mx_V) (S h : mx_H) (n : Int), mx_ex d 263 1566 [l0, l1, l2, l3] [(0, b), (0, a), v2, v3, v4, v5] S h n = mx_ex d 263 1567 [l0, l1, l2, l3] [(0, mx_w (a + b)), v2, v3, v4, v5] S h n) ∧
  (∀ (d : Nat) (i a : Int) (l0 l1 l2 l3 : Option mx_V) (v2 v3 v4 : mx_V) (S h : mx_H) (n : Int), mx_ex d 263 1567 [l0, l1, l2, l3] [(0, i), (2, a), v2, v3, v4] S h n = mx_gd ((S a (-2) = 20 ∨ S a (-2) = 24) ∧ 0 ≤ i ∧ i < S a (-1)) d 263 1568 [l0, l1, l2, l3] [(0, h a i), v2, v3, v4] S h n) ∧
  (∀ (d : Nat) (x : Int) (l1 l2 l3 : Option mx_V) (v0 v1 v2 v3 : mx_V) (S h : mx_H) (n : Int), mx_ex d 263 1568 [some (2, x), l1, l2, l3] [v0, v1, v2, v3] S h n = mx_ex d 263 1569 [some (2, x), l1, l2, l3] [(2, x), v0, v1, v2, v3] S h n) ∧
  (∀ (d : Nat) (x : Int) (l0 l1 l2 : Option mx_V) (v0 v1 v2 v3 v4 : mx_V) (S h : mx_H) (n : Int), mx_ex d 263 1569 [l0, l1, l2, some (0, x)] [v0, v1, v2, v3, v4] S h n = mx_ex d 263 1570 [l0, l1, l2, some (0, x)] [(0, x), v0, v1, v2, v3, v4] S h n) ∧
  (∀ (d : Nat) (l0 l1 l2 l3 : Option mx_V) (v0 v1 v2 v3 v4 v5 : mx_V) (S h : mx_H) (n : Int), mx_ex d 263 1570 [l0, l1, l2, l3] [v0, v1, v2, v3, v4, v5] S h n = mx_ex d 263 1571 [l0, l1, l2, l3] [(0, 3), v0, v1, v2, v3, v4, v5] S h n) ∧
  (∀ (d : Nat) (b a : Int) (l0 l1 l2 l3 : Option mx_V) (v2 v3 v4 v5 v6 : mx_V) (S h : mx_H) (n : Int), mx_ex d 263 1571 [l0, l1, l2, l3] [(0, b), (0, a), v2, v3, v4, v5, v6] S h n = mx_ex d 263 1572 [l0, l1, l2, l3] [(0, mx_w (a + b)), v2, v3, v4, v5, v6] S h n) ∧
  (∀ (d : Nat) (i a : Int) (l0 l1 l2 l3 : Option mx_V) (v2 v3 v4 v5 : mx_V) (S h : mx_H) (n : Int), mx_ex d 263 1572 [l0, l1, l2, l3] [(0, i), (2, a), v2, v3, v4, v5] S h n = mx_gd ((S a (-2) = 20 ∨ S a (-2) = 24) ∧ 0 ≤ i ∧ i < S a (-1)) d 263 1573 [l0, l1, l2, l3] [(0, h a i), v2, v3, v4, v5] S h n) ∧
  (∀ (d : Nat) (x0 x1 x2 a : Int) (l0 l1 l2 l3 : Option mx_V) (v4 : mx_V) (S h : mx_H) (n : Int), mx_ex (d + 1) 263 1573 [l0, l1, l2, l3] [(0, x0), (0, x1), (0, x2), (2, a), v4] S h n = mx_cl (S a (-2) = 13) d 245 [(2, a), (0, x2), (0, x1), (0, x0)] 263 1576 [l0, l1, l2, l3] [v4] S h n) ∧
  (∀ (d : Nat) (b a : Int) (l0 l1 l2 l3 : Option mx_V) (S h : mx_H) (n : Int), mx_ex d 263 1576 [l0, l1, l2, l3] [(0, b), (0, a)] S h n = mx_br (a = b) d 263 1653 1579 [l0, l1, l2, l3] [] S h n) ∧
  (∀ (d : Nat) (l0 l1 l2 l3 : Option mx_V) (S h : mx_H) (n : Int), mx_ex d 263 1579 [l0, l1, l2, l3] [] S h n = mx_ex d 263 1580 [l0, l1, l2, l3] [(0, 0)] S h n) ∧
  (∀ (d : Nat) (x : Int) (l0 l1 l2 l3 : Option mx_V) (S h : mx_H) (n : Int), mx_ex d 263 1580 [l0, l1, l2, l3] [(0, x)] S h n = mx_re (0 ≤ x ∧ x ≤ 1) (some (0, x)) S h n) ∧
  (∀ (d : Nat) (x : Int) (l0 l2 l3 : Option mx_V) (S h : mx_H) (n : Int), mx_ex d 263 1581 [l0, some (2, x), l2, l3] [] S h n = mx_ex d 263 1582 [l0, some (2, x), l2, l3] [(2, x)] S h n) ∧
  (∀ (d : Nat) (x : Int) (l1 l2 l3 : Option mx_V) (v0 : mx_V) (S h : mx_H) (n : Int), mx_ex d 263 1582 [some (2, x), l1, l2, l3] [v0] S h n = mx_ex d 263 1583 [some (2, x), l1, l2, l3] [(2, x), v0] S h n) ∧
  (∀ (d : Nat) (x : Int) (l0 l1 l2 : Option mx_V) (v0 v1 : mx_V) (S h : mx_H) (n : Int), mx_ex d 263 1583 [l0, l1, l2, some (0, x)] [v0, v1] S h n = mx_ex d 263 1584 [l0, l1, l2, some (0, x)] [(0, x), v0, v1] S h n) ∧
  (∀ (d : Nat) (l0 l1 l2 l3 : Option mx_V) (v0 v1 v2 : mx_V) (S h : mx_H) (n : Int), mx_ex d 263 1584 [l0, l1, l2, l3] [v0, v1, v2] S h n = mx_ex d 263 1585 [l0, l1, l2, l3] [(0, 1), v0, v1, v2] S h n) ∧
  (∀ (d : Nat) (b a : Int) (l0 l1 l2 l3 : Option mx_V) (v2 v3 : mx_V) (S h : mx_H) (n : Int), mx_ex d 263 1585 [l0, l1, l2, l3] [(0, b), (0, a), v2, v3] S h n = mx_ex d 263 1586 [l0, l1, l2, l3] [(0, mx_w (a + b)), v2, v3] S h n) ∧
  (∀ (d : Nat) (i a : Int) (l0 l1 l2 l3 : Option mx_V) (v2 : mx_V) (S h : mx_H) (n : Int), mx_ex d 263 1586 [l0, l1, l2, l3] [(0, i), (2, a), v2] S h n = mx_gd ((S a (-2) = 20 ∨ S a (-2) = 24) ∧ 0 ≤ i ∧ i < S a (-1)) d 263 1587 [l0, l1, l2, l3] [(0, h a i), v2] S h n) ∧
  (∀ (d : Nat) (x0 a : Int) (l0 l1 l2 l3 : Option mx_V) (S h : mx_H) (n : Int), mx_ex (d + 1) 263 1587 [l0, l1, l2, l3] [(0, x0), (2, a)] S h n = mx_cl (S a (-2) = 7) d 140 [(2, a), (0, x0)] 263 1590 [l0, l1, l2, l3] [] S h n) ∧
  (∀ (d : Nat) (x : Int) (l0 l1 l3 : Option mx_V) (v0 : mx_V) (S h : mx_H) (n : Int), mx_ex d 263 1590 [l0, l1, some (2, x), l3] [v0] S h n = mx_ex d 263 1591 [l0, l1, some (2, x), l3] [(2, x), v0] S h n) ∧
  (∀ (d : Nat) (x : Int) (l1 l2 l3 : Option mx_V) (v0 v1 : mx_V) (S h : mx_H) (n : Int), mx_ex d 263 1591 [some (2, x), l1, l2, l3] [v0, v1] S h n = mx_ex d 263 1592 [some (2, x), l1, l2, l3] [(2, x), v0, v1] S h n) ∧
  (∀ (d : Nat) (x : Int) (l0 l1 l2 : Option mx_V) (v0 v1 v2 : mx_V) (S h : mx_H) (n : Int), mx_ex d 263 1592 [l0, l1, l2, some (0, x)] [v0, v1, v2] S h n = mx_ex d 263 1593 [l0, l1, l2, some (0, x)] [(0, x), v0, v1, v2] S h n) ∧
  (∀ (d : Nat) (l0 l1 l2 l3 : Option mx_V) (v0 v1 v2 v3 : mx_V) (S h : mx_H) (n : Int), mx_ex d 263 1593 [l0, l1, l2, l3] [v0, v1, v2, v3] S h n = mx_ex d 263 1594 [l0, l1, l2, l3] [(0, 1), v0, v1, v2, v3] S h n) ∧
  (∀ (d : Nat) (b a : Int) (l0 l1 l2 l3 : Option mx_V) (v2 v3 v4 : mx_V) (S h : mx_H) (n : Int), mx_ex d 263 1594 [l0, l1, l2, l3] [(0, b), (0, a), v2, v3, v4] S h n = mx_ex d 263 1595 [l0, l1, l2, l3] [(0, mx_w (a + b)), v2, v3, v4] S h n) ∧
  (∀ (d : Nat) (i a : Int) (l0 l1 l2 l3 : Option mx_V) (v2 v3 : mx_V) (S h : mx_H) (n : Int), mx_ex d 263 1595 [l0, l1, l2, l3] [(0, i), (2, a), v2, v3] S h n = mx_gd ((S a (-2) = 20 ∨ S a (-2) = 24) ∧ 0 ≤ i ∧ i < S a (-1)) d 263 1596 [l0, l1, l2, l3] [(0, h a i), v2, v3] S h n) ∧
  (∀ (d : Nat) (x0 a : Int) (l0 l1 l2 l3 : Option mx_V) (v2 : mx_V) (S h : mx_H) (n : Int), mx_ex (d + 1) 263 1596 [l0, l1, l2, l3] [(0, x0), (2, a), v2] S h n = mx_cl (S a (-2) = 13) d 246 [(2, a), (0, x0)] 263 1599 [l0, l1, l2, l3] [v2] S h n) ∧
  (∀ (d : Nat) (b a : Int) (l0 l1 l2 l3 : Option mx_V) (S h : mx_H) (n : Int), mx_ex d 263 1599 [l0, l1, l2, l3] [(0, b), (0, a)] S h n = mx_br (a = b) d 263 1653 1602 [l0, l1, l2, l3] [] S h n) ∧
  (∀ (d : Nat) (l0 l1 l2 l3 : Option mx_V) (S h : mx_H) (n : Int), mx_ex d 263 1602 [l0, l1, l2, l3] [] S h n = mx_ex d 263 1603 [l0, l1, l2, l3] [(0, 0)] S h n) ∧
  (∀ (d : Nat) (x : Int) (l0 l1 l2 l3 : Option mx_V) (S h : mx_H) (n : Int), mx_ex d 263 1603 [l0, l1, l2, l3] [(0, x)] S h n = mx_re (0 ≤ x ∧ x ≤ 1) (some (0, x)) S h n) ∧
  (∀ (d : Nat) (x : Int) (l0 l2 l3 : Option mx_V) (S h : mx_H) (n : Int), mx_ex d 263 1604 [l0, some (2, x), l2, l3] [] S h n = mx_ex d 263 1605 [l0, some (2, x), l2, l3] [(2, x)] S h n) ∧
  (∀ (d : Nat) (x : Int) (l1 l2 l3 : Option mx_V) (v0 : mx_V) (S h : mx_H) (n : Int), mx_ex d 263 1605 [some (2, x), l1, l2, l3] [v0] S h n = mx_ex d 263 1606 [some (2, x), l1, l2, l3] [(2, x), v0] S h n) ∧
  (∀ (d : Nat) (x : Int) (l0 l1 l2 : Option mx_V) (v0 v1 : mx_V) (S h : mx_H) (n : Int), mx_ex d 263 1606 [l0, l1, l2, some (0, x)] [v0, v1] S h n = mx_ex d 263 1607 [l0, l1, l2, some (0, x)] [(0, x), v0, v1] S h n) ∧
  (∀ (d : Nat) (l0 l1 l2 l3 : Option mx_V) (v0 v1 v2 : mx_V) (S h : mx_H) (n : Int), mx_ex d 263 1607 [l0, l1, l2, l3] [v0, v1, v2] S h n = mx_ex d 263 1608 [l0, l1, l2, l3] [(0, 1), v0, v1, v2] S h n) ∧
  (∀ (d : Nat) (b a : Int) (l0 l1 l2 l3 : Option mx_V) (v2 v3 : mx_V) (S h : mx_H) (n : Int), mx_ex d 263 1608 [l0, l1, l2, l3] [(0, b), (0, a), v2, v3] S h n = mx_ex d 263 1609 [l0, l1, l2, l3] [(0, mx_w (a + b)), v2, v3] S h n) ∧
  (∀ (d : Nat) (i a : Int) (l0 l1 l2 l3 : Option mx_V) (v2 : mx_V) (S h : mx_H) (n : Int), mx_ex d 263 1609 [l0, l1, l2, l3] [(0, i), (2, a), v2] S h n = mx_gd ((S a (-2) = 20 ∨ S a (-2) = 24) ∧ 0 ≤ i ∧ i < S a (-1)) d 263 1610 [l0, l1, l2, l3] [(0, h a i), v2] S h n) ∧
  (∀ (d : Nat) (x0 a : Int) (l0 l1 l2 l3 : Option mx_V) (S h : mx_H) (n : Int), mx_ex (d + 1) 263 1610 [l0, l1, l2, l3] [(0, x0), (2, a)] S h n = mx_cl (S a (-2) = 7) d 141 [(2, a), (0, x0)] 263 1613 [l0, l1, l2, l3] [] S h n) ∧
  (∀ (d : Nat) (x : Int) (l0 l1 l3 : Option mx_V) (v0 : mx_V) (S h : mx_H) (n : Int), mx_ex d 263 1613 [l0, l1, some (2, x), l3] [v0] S h n = mx_ex d 263 1614 [l0, l1, some (2, x), l3] [(2, x), v0] S h n) ∧
  (∀ (d : Nat) (x : Int) (l1 l2 l3 : Option mx_V) (v0 v1 : mx_V) (S h : mx_H) (n : Int), mx_ex d 263 1614 [some (2, x), l1, l2, l3] [v0, v1] S h n = mx_ex d 263 1615 [some (2, x), l1, l2, l3] [(2, x), v0, v1] S h n) ∧
  (∀ (d : Nat) (x : Int) (l0 l1 l2 : Option mx_V) (v0 v1 v2 : mx_V) (S h : mx_H) (n : Int), mx_ex d 263 1615 [l0, l1, l2, some (0, x)] [v0, v1, v2] S h n = mx_ex d 263 1616 [l0, l1, l2, some (0, x)] [(0, x), v0, v1, v2] S h n) ∧
  (∀ (d : Nat) (l0 l1 l2 l3 : Option mx_V) (v0 v1 v2 v3 : mx_V) (S h : mx_H) (n : Int), mx_ex d 263 1616 [l0, l1, l2, l3] [v0, v1, v2, v3] S h n = mx_ex d 263 1617 [l0, l1, l2, l3] [(0, 1), v0, v1, v2, v3] S h n) ∧
  (∀ (d : Nat) (b a : Int) (l0 l1 l2 l3 : Option mx_V) (v2 v3 v4 : mx_V) (S h : mx_H) (n : Int), mx_ex d 263 1617 [l0, l1, l2, l3] [(0, b), (0, a), v2, v3, v4] S h n = mx_ex d 263 1618 [l0, l1, l2, l3] [(0, mx_w (a + b)), v2, v3, v4] S h n) ∧
  (∀ (d : Nat) (i a : Int) (l0 l1 l2 l3 : Option mx_V) (v2 v3 : mx_V) (S h : mx_H) (n : Int), mx_ex d 263 1618 [l0, l1, l2, l3] [(0, i), (2, a), v2, v3] S h n = mx_gd ((S a (-2) = 20 ∨ S a (-2) = 24) ∧ 0 ≤ i ∧ i < S a (-1)) d 263 1619 [l0, l1, l2, l3] [(0, h a i), v2, v3] S h n) ∧
  (∀ (d : Nat) (x0 a : Int) (l0 l1 l2 l3 : Option mx_V) (v2 : mx_V) (S h : mx_H) (n : Int), mx_ex (d + 1) 263 1619 [l0, l1, l2, l3] [(0, x0), (2, a), v2] S h n = mx_cl (S a (-2) = 13) d 247 [(2, a), (0, x0)] 263 1622 [l0, l1, l2, l3] [v2] S h n) ∧
  (∀ (d : Nat) (b a : Int) (l0 l1 l2 l3 : Option mx_V) (S h : mx_H) (n : Int), mx_ex d 263 1622 [l0, l1, l2, l3] [(0, b), (0, a)] S h n = mx_br (a = b) d 263 1653 1625 [l0, l1, l2, l3] [] S h n) ∧
  (∀ (d : Nat) (l0 l1 l2 l3 : Option mx_V) (S h : mx_H) (n : Int), mx_ex d 263 1625 [l0, l1, l2, l3] [] S h n = mx_ex d 263 1626 [l0, l1, l2, l3] [(0, 0)] S h n) ∧
  (∀ (d : Nat) (x : Int) (l0 l1 l2 l3 : Option mx_V) (S h : mx_H) (n : Int), mx_ex d 263 1626 [l0, l1, l2, l3] [(0, x)] S h n = mx_re (0 ≤ x ∧ x ≤ 1) (some (0, x)) S h n) ∧
  (∀ (d : Nat) (x : Int) (l0 l2 l3 : Option mx_V) (S h : mx_H) (n : Int), mx_ex d 263 1627 [l0, some (2, x), l2, l3] [] S h n = mx_ex d 263 1628 [l0, some (2, x), l2, l3] [(2, x)] S h n) ∧
  (∀ (d : Nat) (a : Int) (l0 l1 l2 l3 : Option mx_V) (S h : mx_H) (n : Int), mx_ex (d + 1) 263 1628 [l0, l1, l2, l3] [(2, a)] S h n = mx_cl (S a (-2) = 7) d 142 [(2, a)] 263 1631 [l0, l1, l2, l3] [] S h n) ∧
  (∀ (d : Nat) (x : Int) (l0 l1 l3 : Option mx_V) (v0 : mx_V) (S h : mx_H) (n : Int), mx_ex d 263 1631 [l0, l1, some (2, x), l3] [v0] S h n = mx_ex d 263 1632 [l0, l1, some (2, x), l3] [(2, x), v0] S h n) ∧
  (∀ (d : Nat) (a : Int) (l0 l1 l2 l3 : Option mx_V) (v1 : mx_V) (S h : mx_H) (n : Int), mx_ex (d + 1) 263 1632 [l0, l1, l2, l3] [(2, a), v1] S h n = mx_cl (S a (-2) = 13) d 248 [(2, a)] 263 1635 [l0, l1, l2, l3] [v1] S h n) ∧
  (∀ (d : Nat) (b a : Int) (l0 l1 l2 l3 : Option mx_V) (S h : mx_H) (n : Int), mx_ex d 263 1635 [l0, l1, l2, l3] [(0, b), (0, a)] S h n = mx_br (a = b) d 263 1653 1638 [l0, l1, l2, l3] [] S h n) ∧
  (∀ (d : Nat) (l0 l1 l2 l3 : Option mx_V) (S h : mx_H) (n : Int), mx_ex d 263 1638 [l0, l1, l2, l3] [] S h n = mx_ex d 263 1639 [l0, l1, l2, l3] [(0, 0)] S h n) ∧
  (∀ (d : Nat) (x : Int) (l0 l1 l2 l3 : Option mx_V) (S h : mx_H) (n : Int), mx_ex d 263 1639 [l0, l1, l2, l3] [(0, x)] S h n = mx_re (0 ≤ x ∧ x ≤ 1) (some (0, x)) S h n) ∧
  (∀ (d : Nat) (x : Int) (l0 l2 l3 : Option mx_V) (S h : mx_H) (n : Int), mx_ex d 263 1640 [l0, some (2, x), l2, l3] [] S h n = mx_ex d 263 1641 [l0, some (2, x), l2, l3] [(2, x)] S h n) ∧
  (∀ (d : Nat) (a : Int) (l0 l1 l2 l3 : Option mx_V) (S h : mx_H) (n : Int), mx_ex (d + 1) 263 1641 [l0, l1, l2, l3] [(2, a)] S h n = mx_cl (S a (-2) = 7) d 143 [(2, a)] 263 1644 [l0, l1, l2, l3] [] S h n) ∧
  (∀ (d : Nat) (x : Int) (l0 l1 l3 : Option mx_V) (v0 : mx_V) (S h : mx_H) (n : Int), mx_ex d 263 1644 [l0, l1, some (2, x), l3] [v0] S h n = mx_ex d 263 1645 [l0, l1, some (2, x), l3] [(2, x), v0] S h n) ∧
  (∀ (d : Nat) (a : Int) (l0 l1 l2 l3 : Option mx_V) (v1 : mx_V) (S h : mx_H) (n : Int), mx_ex (d + 1) 263 1645 [l0, l1, l2, l3] [(2, a), v1] S h n = mx_cl (S a (-2) = 13) d 249 [(2, a)] 263 1648 [l0, l1, l2, l3] [v1] S h n) ∧
  (∀ (d : Nat) (b a : Int) (l0 l1 l2 l3 : Option mx_V) (S h : mx_H) (n : Int), mx_ex d 263 1648 [l0, l1, l2, l3] [(0, b), (0, a)] S h n = mx_br (a = b) d 263 1653 1651 [l0, l1, l2, l3] [] S h n) ∧
  (∀ (d : Nat) (l0 l1 l2 l3 : Option mx_V) (S h : mx_H) (n : Int), mx_ex d 263 1651 [l0, l1, l2, l3] [] S h n = mx_ex d 263 1652 [l0, l1, l2, l3] [(0, 0)] S h n) ∧
  (∀ (d : Nat) (x : Int) (l0 l1 l2 l3 : Option mx_V) (S h : mx_H) (n : Int), mx_ex d 263 1652 [l0, l1, l2, l3] [(0, x)] S h n = mx_re (0 ≤ x ∧ x ≤ 1) (some (0, x)) S h n) ∧
  (∀ (d : Nat) (x : Int) (l0 l1 l2 : Option mx_V) (S h : mx_H) (n : Int), mx_ex d 263 1653 [l0, l1, l2, some (0, x)] [] S h n = mx_ex d 263 1656 [l0, l1, mx_nl l2, some (0, mx_w (x + 6))] [] S h n) ∧
  (∀ (d : Nat) (l0 l1 l2 l3 : Option mx_V) (S h : mx_H) (n : Int), mx_ex d 263 1656 [l0, l1, l2, l3] [] S h n = mx_ex d 263 18 [l0, l1, l2, l3] [] S h n) ∧
  (∀ (d : Nat) (l0 l1 l2 l3 : Option mx_V) (S h : mx_H) (n : Int), mx_ex d 263 1659 [l0, l1, l2, l3] [] S h n = mx_ex d 263 1660 [l0, l1, l2, l3] [(0, 1)] S h n) ∧
  (∀ (d : Nat) (x : Int) (l0 l1 l2 l3 : Option mx_V) (S h : mx_H) (n : Int), mx_ex d 263 1660 [l0, l1, l2, l3] [(0, x)] S h n = mx_re (0 ≤ x ∧ x ≤ 1) (some (0, x)) S h n) :=
  ⟨by intros; exact eq_ld rfl rfl,
   by intros; exact eq_push rfl,
   by intros; exact eq_i2 (o := mx_add) rfl,
   by intros; exact eq_iald rfl,
   by intros; exact eq_ld rfl rfl,
   by intros; exact eq_ld rfl rfl,
   by intros; exact eq_push rfl,
   by intros; exact eq_i2 (o := mx_add) rfl,
   by intros; exact eq_iald rfl,
   by intros; exact eq_ld rfl rfl,
   by intros; exact eq_ld rfl rfl,
   by intros; exact eq_push rfl,
   by intros; exact eq_i2 (o := mx_add) rfl,
   by intros; exact eq_iald rfl,
   by intros; exact eq_cv rfl (Nat.le_of_ble_eq_true rfl) rfl rfl rfl (Nat.le_of_ble_eq_true rfl),
   by intros; exact eq_ic0 rfl,
   by intros; exact eq_push rfl,
   by intros; exact eq_rr rfl,
   by intros; exact eq_ld rfl rfl,
   by intros; exact eq_ld rfl rfl,
   by intros; exact eq_ld rfl rfl,
   by intros; exact eq_push rfl,
   by intros; exact eq_i2 (o := mx_add) rfl,
   by intros; exact eq_iald rfl,
   by intros; exact eq_cv rfl (Nat.le_of_ble_eq_true rfl) rfl rfl rfl (Nat.le_of_ble_eq_true rfl),
   by intros; exact eq_ld rfl rfl,
   by intros; exact eq_ld rfl rfl,
   by intros; exact eq_ld rfl rfl,
   by intros; exact eq_push rfl,
   by intros; exact eq_i2 (o := mx_add) rfl,
   by intros; exact eq_iald rfl,
   by intros; exact eq_cv rfl (Nat.le_of_ble_eq_true rfl) rfl rfl rfl (Nat.le_of_ble_eq_true rfl),
   by intros; exact eq_ic0 rfl,
   by intros; exact eq_push rfl,
   by intros; exact eq_rr rfl,
   by intros; exact eq_ld rfl rfl,
   by intros; exact eq_ld rfl rfl,
   by intros; exact eq_ld rfl rfl,
   by intros; exact eq_push rfl,
   by intros; exact eq_i2 (o := mx_add) rfl,
   by intros; exact eq_iald rfl,
   by intros; exact eq_cv rfl (Nat.le_of_ble_eq_true rfl) rfl rfl rfl (Nat.le_of_ble_eq_true rfl),
   by intros; exact eq_ld rfl rfl,
   by intros; exact eq_ld rfl rfl,
   by intros; exact eq_ld rfl rfl,
   by intros; exact eq_push rfl,
   by intros; exact eq_i2 (o := mx_add) rfl,
   by intros; exact eq_iald rfl,
   by intros; exact eq_cv rfl (Nat.le_of_ble_eq_true rfl) rfl rfl rfl (Nat.le_of_ble_eq_true rfl),
   by intros; exact eq_ic0 rfl,
   by intros; exact eq_push rfl,
   by intros; exact eq_rr rfl,
   by intros; exact eq_ld rfl rfl,
   by intros; exact eq_cv rfl (Nat.le_of_ble_eq_true rfl) rfl rfl rfl (Nat.le_of_ble_eq_true rfl),
   by intros; exact eq_ld rfl rfl,
   by intros; exact eq_cv rfl (Nat.le_of_ble_eq_true rfl) rfl rfl rfl (Nat.le_of_ble_eq_true rfl),
   by intros; exact eq_ic0 rfl,
   by intros; exact eq_push rfl,
   by intros; exact eq_rr rfl,
   by intros; exact eq_ld rfl rfl,
   by intros; exact eq_cv rfl (Nat.le_of_ble_eq_true rfl) rfl rfl rfl (Nat.le_of_ble_eq_true rfl),
   by intros; exact eq_ld rfl rfl,
   by intros; exact eq_cv rfl (Nat.le_of_ble_eq_true rfl) rfl rfl rfl (Nat.le_of_ble_eq_true rfl),
   by intros; exact eq_ic0 rfl,
   by intros; exact eq_push rfl,
   by intros; exact eq_rr rfl,
   by intros; exact eq_inc rfl rfl rfl,
   by intros; exact eq_go rfl,
   by intros; exact eq_push rfl,
   by intros; exact eq_rr rfl⟩
