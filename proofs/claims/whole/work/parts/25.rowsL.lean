/-! PRINTED (gen_rows.py): a row an instruction -/
theorem rw_L_law :
  (∀ (d : Nat) (a0 : Int) (S h : mx_H) (n : Int), mx_M d 256 [(2, a0)] S h n = mx_ex d 256 0 [some (2, a0), none, none, none] [] S h n) ∧
  (∀ (d : Nat) (l0 l1 l2 l3 : Option mx_V) (S h : mx_H) (n : Int), mx_ex d 256 0 [l0, l1, l2, l3] [] S h n = mx_ex d 256 3 [l0, l1, l2, l3] [(2, n)] (mx_t S n 7 0) (mx_z h n) (n + 1)) ∧
  (∀ (d : Nat) (a : Int) (l0 l1 l2 l3 : Option mx_V) (S h : mx_H) (n : Int), mx_ex d 256 3 [l0, l1, l2, l3] [(2, a)] S h n = mx_ex d 256 4 [l0, l1, l2, l3] [(2, a), (2, a)] S h n) ∧
  (∀ (d : Nat) (a : Int) (l0 l1 l2 l3 : Option mx_V) (v1 : mx_V) (S h : mx_H) (n : Int), mx_ex (d + 1) 256 4 [l0, l1, l2, l3] [(2, a), v1] S h n = mx_cl (7 ≤ S a (-2) ∧ S a (-2) ≤ 7) d 100 [(2, a)] 256 7 [l0, l1, l2, l3] [v1] S h n) ∧
  (∀ (d : Nat) (x : Int) (l0 l1 l2 l3 : Option mx_V) (S h : mx_H) (n : Int), mx_ex d 256 7 [l0, l1, l2, l3] [(2, x)] S h n = mx_ex d 256 8 [mx_nl l0, some (2, x), l2, l3] [] S h n) ∧
  (∀ (d : Nat) (l0 l1 l2 l3 : Option mx_V) (S h : mx_H) (n : Int), mx_ex d 256 8 [l0, l1, l2, l3] [] S h n = mx_ex d 256 11 [l0, l1, l2, l3] [(2, n)] (mx_t S n 13 0) (mx_z h n) (n + 1)) ∧
  (∀ (d : Nat) (a : Int) (l0 l1 l2 l3 : Option mx_V) (S h : mx_H) (n : Int), mx_ex d 256 11 [l0, l1, l2, l3] [(2, a)] S h n = mx_ex d 256 12 [l0, l1, l2, l3] [(2, a), (2, a)] S h n) ∧
  (∀ (d : Nat) (a : Int) (l0 l1 l2 l3 : Option mx_V) (v1 : mx_V) (S h : mx_H) (n : Int), mx_ex (d + 1) 256 12 [l0, l1, l2, l3] [(2, a), v1] S h n = mx_cl (13 ≤ S a (-2) ∧ S a (-2) ≤ 13) d 156 [(2, a)] 256 15 [l0, l1, l2, l3] [v1] S h n) ∧
  (∀ (d : Nat) (x : Int) (l0 l1 l2 l3 : Option mx_V) (S h : mx_H) (n : Int), mx_ex d 256 15 [l0, l1, l2, l3] [(2, x)] S h n = mx_ex d 256 16 [l0, mx_nl l1, some (2, x), l3] [] S h n) ∧
  (∀ (d : Nat) (l0 l1 l2 l3 : Option mx_V) (S h : mx_H) (n : Int), mx_ex d 256 16 [l0, l1, l2, l3] [] S h n = mx_ex d 256 17 [l0, l1, l2, l3] [(0, 0)] S h n) ∧
  (∀ (d : Nat) (x : Int) (l0 l1 l2 l3 : Option mx_V) (S h : mx_H) (n : Int), mx_ex d 256 17 [l0, l1, l2, l3] [(0, x)] S h n = mx_ex d 256 18 [l0, l1, mx_nl l2, some (0, x)] [] S h n) ∧
  (∀ (d : Nat) (x : Int) (l0 l1 l2 : Option mx_V) (S h : mx_H) (n : Int), mx_ex d 256 18 [l0, l1, l2, some (0, x)] [] S h n = mx_ex d 256 19 [l0, l1, l2, some (0, x)] [(0, x)] S h n) ∧
  (∀ (d : Nat) (x : Int) (l1 l2 l3 : Option mx_V) (v0 : mx_V) (S h : mx_H) (n : Int), mx_ex d 256 19 [some (2, x), l1, l2, l3] [v0] S h n = mx_ex d 256 20 [some (2, x), l1, l2, l3] [(2, x), v0] S h n) ∧
  (∀ (d : Nat) (a : Int) (l0 l1 l2 l3 : Option mx_V) (v1 : mx_V) (S h : mx_H) (n : Int), mx_ex d 256 20 [l0, l1, l2, l3] [(2, a), v1] S h n = mx_gd (20 ≤ S a (-2) ∧ S a (-2) ≤ 24) d 256 21 [l0, l1, l2, l3] [(0, S a (-1)), v1] S h n) ∧
  (∀ (d : Nat) (l0 l1 l2 l3 : Option mx_V) (v0 v1 : mx_V) (S h : mx_H) (n : Int), mx_ex d 256 21 [l0, l1, l2, l3] [v0, v1] S h n = mx_ex d 256 23 [l0, l1, l2, l3] [(0, 6), v0, v1] S h n) ∧
  (∀ (d : Nat) (b a : Int) (l0 l1 l2 l3 : Option mx_V) (v2 : mx_V) (S h : mx_H) (n : Int), mx_ex d 256 23 [l0, l1, l2, l3] [(0, b), (0, a), v2] S h n = mx_ex d 256 24 [l0, l1, l2, l3] [(0, mx_w (a - b)), v2] S h n) ∧
  (∀ (d : Nat) (b a : Int) (l0 l1 l2 l3 : Option mx_V) (S h : mx_H) (n : Int), mx_ex d 256 24 [l0, l1, l2, l3] [(0, b), (0, a)] S h n = mx_br (b < a) d 256 1659 27 [l0, l1, l2, l3] [] S h n) ∧
  (∀ (d : Nat) (x : Int) (l1 l2 l3 : Option mx_V) (S h : mx_H) (n : Int), mx_ex d 256 27 [some (2, x), l1, l2, l3] [] S h n = mx_ex d 256 28 [some (2, x), l1, l2, l3] [(2, x)] S h n) ∧
  (∀ (d : Nat) (x : Int) (l0 l1 l2 : Option mx_V) (v0 : mx_V) (S h : mx_H) (n : Int), mx_ex d 256 28 [l0, l1, l2, some (0, x)] [v0] S h n = mx_ex d 256 29 [l0, l1, l2, some (0, x)] [(0, x), v0] S h n) ∧
  (∀ (d : Nat) (i a : Int) (l0 l1 l2 l3 : Option mx_V) (S h : mx_H) (n : Int), mx_ex d 256 29 [l0, l1, l2, l3] [(0, i), (2, a)] S h n = mx_gd ((S a (-2) = 20 ∨ S a (-2) = 24) ∧ 0 ≤ i ∧ i < S a (-1)) d 256 30 [l0, l1, l2, l3] [(0, h a i)] S h n) ∧
  (∀ (d : Nat) (l0 l1 l2 l3 : Option mx_V) (v0 : mx_V) (S h : mx_H) (n : Int), mx_ex d 256 30 [l0, l1, l2, l3] [v0] S h n = mx_ex d 256 32 [l0, l1, l2, l3] [(0, 63), v0] S h n) ∧
  (∀ (d : Nat) (b a : Int) (l0 l1 l2 l3 : Option mx_V) (S h : mx_H) (n : Int), mx_ex d 256 32 [l0, l1, l2, l3] [(0, b), (0, a)] S h n = mx_ex d 256 33 [l0, l1, l2, l3] [(0, mx_and a b)] S h n) ∧
  (∀ (d : Nat) (a : Int) (l0 l1 l2 l3 : Option mx_V) (S h : mx_H) (n : Int), mx_ex d 256 33 [l0, l1, l2, l3] [(0, a)] S h n = mx_sw a [(0, 220), (1, 283), (2, 296), (3, 339), (4, 372), (5, 435), (6, 468), (7, 511), (8, 544), (9, 578), (10, 601), (11, 654), (12, 687), (13, 710), (14, 723), (15, 756), (16, 779), (17, 802), (18, 855), (19, 868), (20, 891), (21, 914), (22, 958), (23, 1001), (24, 1034), (25, 1067), (26, 1100), (27, 1123), (28, 1136), (29, 1159), (30, 1193), (31, 1267), (32, 1280), (33, 1333), (34, 1376), (35, 1419), (36, 1462), (37, 1505), (38, 1538), (39, 1581), (40, 1604), (41, 1627), (42, 1640)] d 256 1653 [l0, l1, l2, l3] [] S h n) ∧
  (∀ (d : Nat) (x : Int) (l0 l2 l3 : Option mx_V) (S h : mx_H) (n : Int), mx_ex d 256 220 [l0, some (2, x), l2, l3] [] S h n = mx_ex d 256 221 [l0, some (2, x), l2, l3] [(2, x)] S h n) ∧
  (∀ (d : Nat) (x : Int) (l1 l2 l3 : Option mx_V) (v0 : mx_V) (S h : mx_H) (n : Int), mx_ex d 256 221 [some (2, x), l1, l2, l3] [v0] S h n = mx_ex d 256 222 [some (2, x), l1, l2, l3] [(2, x), v0] S h n) ∧
  (∀ (d : Nat) (x : Int) (l0 l1 l2 : Option mx_V) (v0 v1 : mx_V) (S h : mx_H) (n : Int), mx_ex d 256 222 [l0, l1, l2, some (0, x)] [v0, v1] S h n = mx_ex d 256 223 [l0, l1, l2, some (0, x)] [(0, x), v0, v1] S h n) ∧
  (∀ (d : Nat) (l0 l1 l2 l3 : Option mx_V) (v0 v1 v2 : mx_V) (S h : mx_H) (n : Int), mx_ex d 256 223 [l0, l1, l2, l3] [v0, v1, v2] S h n = mx_ex d 256 224 [l0, l1, l2, l3] [(0, 1), v0, v1, v2] S h n) ∧
  (∀ (d : Nat) (b a : Int) (l0 l1 l2 l3 : Option mx_V) (v2 v3 : mx_V) (S h : mx_H) (n : Int), mx_ex d 256 224 [l0, l1, l2, l3] [(0, b), (0, a), v2, v3] S h n = mx_ex d 256 225 [l0, l1, l2, l3] [(0, mx_w (a + b)), v2, v3] S h n) ∧
  (∀ (d : Nat) (i a : Int) (l0 l1 l2 l3 : Option mx_V) (v2 : mx_V) (S h : mx_H) (n : Int), mx_ex d 256 225 [l0, l1, l2, l3] [(0, i), (2, a), v2] S h n = mx_gd ((S a (-2) = 20 ∨ S a (-2) = 24) ∧ 0 ≤ i ∧ i < S a (-1)) d 256 226 [l0, l1, l2, l3] [(0, h a i), v2] S h n) ∧
  (∀ (d : Nat) (a : Int) (l0 l1 l2 l3 : Option mx_V) (v1 : mx_V) (S h : mx_H) (n : Int), mx_ex d 256 226 [l0, l1, l2, l3] [(0, a), v1] S h n = mx_ex d 256 227 [l0, l1, l2, l3] [(1, a), v1] S h n) ∧
  (∀ (d : Nat) (l0 l1 l2 l3 : Option mx_V) (v0 v1 : mx_V) (S h : mx_H) (n : Int), mx_ex d 256 227 [l0, l1, l2, l3] [v0, v1] S h n = mx_ex d 256 229 [l0, l1, l2, l3] [(0, 32), v0, v1] S h n) ∧
  (∀ (d : Nat) (b a : Int) (l0 l1 l2 l3 : Option mx_V) (v2 : mx_V) (S h : mx_H) (n : Int), mx_ex d 256 229 [l0, l1, l2, l3] [(0, b), (1, a), v2] S h n = mx_ex d 256 230 [l0, l1, l2, l3] [(1, ml_shl a b), v2] S h n) ∧
  (∀ (d : Nat) (x : Int) (l1 l2 l3 : Option mx_V) (v0 v1 : mx_V) (S h : mx_H) (n : Int), mx_ex d 256 230 [some (2, x), l1, l2, l3] [v0, v1] S h n = mx_ex d 256 231 [some (2, x), l1, l2, l3] [(2, x), v0, v1] S h n) ∧
  (∀ (d : Nat) (x : Int) (l0 l1 l2 : Option mx_V) (v0 v1 v2 : mx_V) (S h : mx_H) (n : Int), mx_ex d 256 231 [l0, l1, l2, some (0, x)] [v0, v1, v2] S h n = mx_ex d 256 232 [l0, l1, l2, some (0, x)] [(0, x), v0, v1, v2] S h n) ∧
  (∀ (d : Nat) (l0 l1 l2 l3 : Option mx_V) (v0 v1 v2 v3 : mx_V) (S h : mx_H) (n : Int), mx_ex d 256 232 [l0, l1, l2, l3] [v0, v1, v2, v3] S h n = mx_ex d 256 233 [l0, l1, l2, l3] [(0, 2), v0, v1, v2, v3] S h n) ∧
  (∀ (d : Nat) (b a : Int) (l0 l1 l2 l3 : Option mx_V) (v2 v3 v4 : mx_V) (S h : mx_H) (n : Int), mx_ex d 256 233 [l0, l1, l2, l3] [(0, b), (0, a), v2, v3, v4] S h n = mx_ex d 256 234 [l0, l1, l2, l3] [(0, mx_w (a + b)), v2, v3, v4] S h n) ∧
  (∀ (d : Nat) (i a : Int) (l0 l1 l2 l3 : Option mx_V) (v2 v3 : mx_V) (S h : mx_H) (n : Int), mx_ex d 256 234 [l0, l1, l2, l3] [(0, i), (2, a), v2, v3] S h n = mx_gd ((S a (-2) = 20 ∨ S a (-2) = 24) ∧ 0 ≤ i ∧ i < S a (-1)) d 256 235 [l0, l1, l2, l3] [(0, h a i), v2, v3] S h n) ∧
  (∀ (d : Nat) (a : Int) (l0 l1 l2 l3 : Option mx_V) (v1 v2 : mx_V) (S h : mx_H) (n : Int), mx_ex d 256 235 [l0, l1, l2, l3] [(0, a), v1, v2] S h n = mx_ex d 256 236 [l0, l1, l2, l3] [(1, a), v1, v2] S h n) ∧
  (∀ (d : Nat) (l0 l1 l2 l3 : Option mx_V) (v0 v1 v2 : mx_V) (S h : mx_H) (n : Int), mx_ex d 256 236 [l0, l1, l2, l3] [v0, v1, v2] S h n = mx_ex d 256 239 [l0, l1, l2, l3] [(1, 4294967295), v0, v1, v2] S h n) ∧
  (∀ (d : Nat) (b a : Int) (l0 l1 l2 l3 : Option mx_V) (v2 v3 : mx_V) (S h : mx_H) (n : Int), mx_ex d 256 239 [l0, l1, l2, l3] [(1, b), (1, a), v2, v3] S h n = mx_ex d 256 240 [l0, l1, l2, l3] [(1, ml_and a b), v2, v3] S h n) ∧
  (∀ (d : Nat) (b a : Int) (l0 l1 l2 l3 : Option mx_V) (v2 : mx_V) (S h : mx_H) (n : Int), mx_ex d 256 240 [l0, l1, l2, l3] [(1, b), (1, a), v2] S h n = mx_ex d 256 241 [l0, l1, l2, l3] [(1, ml_or a b), v2] S h n) ∧
  (∀ (d : Nat) (x : Int) (l1 l2 l3 : Option mx_V) (v0 v1 : mx_V) (S h : mx_H) (n : Int), mx_ex d 256 241 [some (2, x), l1, l2, l3] [v0, v1] S h n = mx_ex d 256 242 [some (2, x), l1, l2, l3] [(2, x), v0, v1] S h n) ∧
  (∀ (d : Nat) (x : Int) (l0 l1 l2 : Option mx_V) (v0 v1 v2 : mx_V) (S h : mx_H) (n : Int), mx_ex d 256 242 [l0, l1, l2, some (0, x)] [v0, v1, v2] S h n = mx_ex d 256 243 [l0, l1, l2, some (0, x)] [(0, x), v0, v1, v2] S h n) ∧
  (∀ (d : Nat) (l0 l1 l2 l3 : Option mx_V) (v0 v1 v2 v3 : mx_V) (S h : mx_H) (n : Int), mx_ex d 256 243 [l0, l1, l2, l3] [v0, v1, v2, v3] S h n = mx_ex d 256 244 [l0, l1, l2, l3] [(0, 3), v0, v1, v2, v3] S h n) ∧
  (∀ (d : Nat) (b a : Int) (l0 l1 l2 l3 : Option mx_V) (v2 v3 v4 : mx_V) (S h : mx_H) (n : Int), mx_ex d 256 244 [l0, l1, l2, l3] [(0, b), (0, a), v2, v3, v4] S h n = mx_ex d 256 245 [l0, l1, l2, l3] [(0, mx_w (a + b)), v2, v3, v4] S h n) ∧
  (∀ (d : Nat) (i a : Int) (l0 l1 l2 l3 : Option mx_V) (v2 v3 : mx_V) (S h : mx_H) (n : Int), mx_ex d 256 245 [l0, l1, l2, l3] [(0, i), (2, a), v2, v3] S h n = mx_gd ((S a (-2) = 20 ∨ S a (-2) = 24) ∧ 0 ≤ i ∧ i < S a (-1)) d 256 246 [l0, l1, l2, l3] [(0, h a i), v2, v3] S h n) ∧
  (∀ (d : Nat) (a : Int) (l0 l1 l2 l3 : Option mx_V) (v0 v1 : mx_V) (S h : mx_H) (n : Int), mx_ex (d + 1) 256 246 [l0, l1, l2, l3] [v0, v1, (2, a)] S h n = mx_cl (S a (-2) = 7) d 101 [(2, a), v1, v0] 256 249 [l0, l1, l2, l3] [] S h n) ∧
  (∀ (d : Nat) (x : Int) (l0 l1 l3 : Option mx_V) (v0 : mx_V) (S h : mx_H) (n : Int), mx_ex d 256 249 [l0, l1, some (2, x), l3] [v0] S h n = mx_ex d 256 250 [l0, l1, some (2, x), l3] [(2, x), v0] S h n) ∧
  (∀ (d : Nat) (x : Int) (l1 l2 l3 : Option mx_V) (v0 v1 : mx_V) (S h : mx_H) (n : Int), mx_ex d 256 250 [some (2, x), l1, l2, l3] [v0, v1] S h n = mx_ex d 256 251 [some (2, x), l1, l2, l3] [(2, x), v0, v1] S h n) ∧
  (∀ (d : Nat) (x : Int) (l0 l1 l2 : Option mx_V) (v0 v1 v2 : mx_V) (S h : mx_H) (n : Int), mx_ex d 256 251 [l0, l1, l2, some (0, x)] [v0, v1, v2] S h n = mx_ex d 256 252 [l0, l1, l2, some (0, x)] [(0, x), v0, v1, v2] S h n) ∧
  (∀ (d : Nat) (l0 l1 l2 l3 : Option mx_V) (v0 v1 v2 v3 : mx_V) (S h : mx_H) (n : Int), mx_ex d 256 252 [l0, l1, l2, l3] [v0, v1, v2, v3] S h n = mx_ex d 256 253 [l0, l1, l2, l3] [(0, 1), v0, v1, v2, v3] S h n) ∧
  (∀ (d : Nat) (b a : Int) (l0 l1 l2 l3 : Option mx_V) (v2 v3 v4 : mx_V) (S h : mx_H) (n : Int), mx_ex d 256 253 [l0, l1, l2, l3] [(0, b), (0, a), v2, v3, v4] S h n = mx_ex d 256 254 [l0, l1, l2, l3] [(0, mx_w (a + b)), v2, v3, v4] S h n) ∧
  (∀ (d : Nat) (i a : Int) (l0 l1 l2 l3 : Option mx_V) (v2 v3 : mx_V) (S h : mx_H) (n : Int), mx_ex d 256 254 [l0, l1, l2, l3] [(0, i), (2, a), v2, v3] S h n = mx_gd ((S a (-2) = 20 ∨ S a (-2) = 24) ∧ 0 ≤ i ∧ i < S a (-1)) d 256 255 [l0, l1, l2, l3] [(0, h a i), v2, v3] S h n) ∧
  (∀ (d : Nat) (a : Int) (l0 l1 l2 l3 : Option mx_V) (v1 v2 : mx_V) (S h : mx_H) (n : Int), mx_ex d 256 255 [l0, l1, l2, l3] [(0, a), v1, v2] S h n = mx_ex d 256 256 [l0, l1, l2, l3] [(1, a), v1, v2] S h n) ∧
  (∀ (d : Nat) (l0 l1 l2 l3 : Option mx_V) (v0 v1 v2 : mx_V) (S h : mx_H) (n : Int), mx_ex d 256 256 [l0, l1, l2, l3] [v0, v1, v2] S h n = mx_ex d 256 258 [l0, l1, l2, l3] [(0, 32), v0, v1, v2] S h n) ∧
  (∀ (d : Nat) (b a : Int) (l0 l1 l2 l3 : Option mx_V) (v2 v3 : mx_V) (S h : mx_H) (n : Int), mx_ex d 256 258 [l0, l1, l2, l3] [(0, b), (1, a), v2, v3] S h n = mx_ex d 256 259 [l0, l1, l2, l3] [(1, ml_shl a b), v2, v3] S h n) ∧
  (∀ (d : Nat) (x : Int) (l1 l2 l3 : Option mx_V) (v0 v1 v2 : mx_V) (S h : mx_H) (n : Int), mx_ex d 256 259 [some (2, x), l1, l2, l3] [v0, v1, v2] S h n = mx_ex d 256 260 [some (2, x), l1, l2, l3] [(2, x), v0, v1, v2] S h n) ∧
  (∀ (d : Nat) (x : Int) (l0 l1 l2 : Option mx_V) (v0 v1 v2 v3 : mx_V) (S h : mx_H) (n : Int), mx_ex d 256 260 [l0, l1, l2, some (0, x)] [v0, v1, v2, v3] S h n = mx_ex d 256 261 [l0, l1, l2, some (0, x)] [(0, x), v0, v1, v2, v3] S h n) ∧
  (∀ (d : Nat) (l0 l1 l2 l3 : Option mx_V) (v0 v1 v2 v3 v4 : mx_V) (S h : mx_H) (n : Int), mx_ex d 256 261 [l0, l1, l2, l3] [v0, v1, v2, v3, v4] S h n = mx_ex d 256 262 [l0, l1, l2, l3] [(0, 2), v0, v1, v2, v3, v4] S h n) ∧
  (∀ (d : Nat) (b a : Int) (l0 l1 l2 l3 : Option mx_V) (v2 v3 v4 v5 : mx_V) (S h : mx_H) (n : Int), mx_ex d 256 262 [l0, l1, l2, l3] [(0, b), (0, a), v2, v3, v4, v5] S h n = mx_ex d 256 263 [l0, l1, l2, l3] [(0, mx_w (a + b)), v2, v3, v4, v5] S h n) ∧
  (∀ (d : Nat) (i a : Int) (l0 l1 l2 l3 : Option mx_V) (v2 v3 v4 : mx_V) (S h : mx_H) (n : Int), mx_ex d 256 263 [l0, l1, l2, l3] [(0, i), (2, a), v2, v3, v4] S h n = mx_gd ((S a (-2) = 20 ∨ S a (-2) = 24) ∧ 0 ≤ i ∧ i < S a (-1)) d 256 264 [l0, l1, l2, l3] [(0, h a i), v2, v3, v4] S h n) ∧
  (∀ (d : Nat) (a : Int) (l0 l1 l2 l3 : Option mx_V) (v1 v2 v3 : mx_V) (S h : mx_H) (n : Int), mx_ex d 256 264 [l0, l1, l2, l3] [(0, a), v1, v2, v3] S h n = mx_ex d 256 265 [l0, l1, l2, l3] [(1, a), v1, v2, v3] S h n) ∧
  (∀ (d : Nat) (l0 l1 l2 l3 : Option mx_V) (v0 v1 v2 v3 : mx_V) (S h : mx_H) (n : Int), mx_ex d 256 265 [l0, l1, l2, l3] [v0, v1, v2, v3] S h n = mx_ex d 256 268 [l0, l1, l2, l3] [(1, 4294967295), v0, v1, v2, v3] S h n) ∧
  (∀ (d : Nat) (b a : Int) (l0 l1 l2 l3 : Option mx_V) (v2 v3 v4 : mx_V) (S h : mx_H) (n : Int), mx_ex d 256 268 [l0, l1, l2, l3] [(1, b), (1, a), v2, v3, v4] S h n = mx_ex d 256 269 [l0, l1, l2, l3] [(1, ml_and a b), v2, v3, v4] S h n) ∧
  (∀ (d : Nat) (b a : Int) (l0 l1 l2 l3 : Option mx_V) (v2 v3 : mx_V) (S h : mx_H) (n : Int), mx_ex d 256 269 [l0, l1, l2, l3] [(1, b), (1, a), v2, v3] S h n = mx_ex d 256 270 [l0, l1, l2, l3] [(1, ml_or a b), v2, v3] S h n) ∧
  (∀ (d : Nat) (x : Int) (l1 l2 l3 : Option mx_V) (v0 v1 v2 : mx_V) (S h : mx_H) (n : Int), mx_ex d 256 270 [some (2, x), l1, l2, l3] [v0, v1, v2] S h n = mx_ex d 256 271 [some (2, x), l1, l2, l3] [(2, x), v0, v1, v2] S h n) ∧
  (∀ (d : Nat) (x : Int) (l0 l1 l2 : Option mx_V) (v0 v1 v2 v3 : mx_V) (S h : mx_H) (n : Int), mx_ex d 256 271 [l0, l1, l2, some (0, x)] [v0, v1, v2, v3] S h n = mx_ex d 256 272 [l0, l1, l2, some (0, x)] [(0, x), v0, v1, v2, v3] S h n) ∧
  (∀ (d : Nat) (l0 l1 l2 l3 : Option mx_V) (v0 v1 v2 v3 v4 : mx_V) (S h : mx_H) (n : Int), mx_ex d 256 272 [l0, l1, l2, l3] [v0, v1, v2, v3, v4] S h n = mx_ex d 256 273 [l0, l1, l2, l3] [(0, 3), v0, v1, v2, v3, v4] S h n) ∧
  (∀ (d : Nat) (b a : Int) (l0 l1 l2 l3 : Option mx_V) (v2 v3 v4 v5 : mx_V) (S h : mx_H) (n : Int), mx_ex d 256 273 [l0, l1, l2, l3] [(0, b), (0, a), v2, v3, v4, v5] S h n = mx_ex d 256 274 [l0, l1, l2, l3] [(0, mx_w (a + b)), v2, v3, v4, v5] S h n) ∧
  (∀ (d : Nat) (i a : Int) (l0 l1 l2 l3 : Option mx_V) (v2 v3 v4 : mx_V) (S h : mx_H) (n : Int), mx_ex d 256 274 [l0, l1, l2, l3] [(0, i), (2, a), v2, v3, v4] S h n = mx_gd ((S a (-2) = 20 ∨ S a (-2) = 24) ∧ 0 ≤ i ∧ i < S a (-1)) d 256 275 [l0, l1, l2, l3] [(0, h a i), v2, v3, v4] S h n) :=
  ⟨by intros; exact rfl,
   by intros; exact eq_new rfl,
   by intros; exact eq_dup rfl (by decide),
   by intros; exact eq_ci rfl rfl (Nat.le_of_ble_eq_true rfl) rfl rfl,
   by intros; exact eq_st rfl (by decide) (Nat.le_of_ble_eq_true rfl) rfl,
   by intros; exact eq_new rfl,
   by intros; exact eq_dup rfl (by decide),
   by intros; exact eq_ci rfl rfl (Nat.le_of_ble_eq_true rfl) rfl rfl,
   by intros; exact eq_st rfl (by decide) (Nat.le_of_ble_eq_true rfl) rfl,
   by intros; exact eq_push rfl,
   by intros; exact eq_st rfl (by decide) (Nat.le_of_ble_eq_true rfl) rfl,
   by intros; exact eq_ld rfl rfl,
   by intros; exact eq_ld rfl rfl,
   by intros; exact eq_alen rfl,
   by intros; exact eq_push rfl,
   by intros; exact eq_i2 (o := mx_sub) rfl,
   by intros; exact eq_ic4 rfl,
   by intros; exact eq_ld rfl rfl,
   by intros; exact eq_ld rfl rfl,
   by intros; exact eq_iald rfl,
   by intros; exact eq_push rfl,
   by intros; exact eq_i2 (o := mx_and) rfl,
   by intros; exact eq_sw rfl,
   by intros; exact eq_ld rfl rfl,
   by intros; exact eq_ld rfl rfl,
   by intros; exact eq_ld rfl rfl,
   by intros; exact eq_push rfl,
   by intros; exact eq_i2 (o := mx_add) rfl,
   by intros; exact eq_iald rfl,
   by intros; exact eq_i2l rfl,
   by intros; exact eq_push rfl,
   by intros; exact eq_ls (o := ml_shl) rfl,
   by intros; exact eq_ld rfl rfl,
   by intros; exact eq_ld rfl rfl,
   by intros; exact eq_push rfl,
   by intros; exact eq_i2 (o := mx_add) rfl,
   by intros; exact eq_iald rfl,
   by intros; exact eq_i2l rfl,
   by intros; exact eq_push rfl,
   by intros; exact eq_l2 (o := ml_and) rfl,
   by intros; exact eq_l2 (o := ml_or) rfl,
   by intros; exact eq_ld rfl rfl,
   by intros; exact eq_ld rfl rfl,
   by intros; exact eq_push rfl,
   by intros; exact eq_i2 (o := mx_add) rfl,
   by intros; exact eq_iald rfl,
   by intros; exact eq_cv rfl rfl (Nat.le_of_ble_eq_true rfl) rfl rfl,
   by intros; exact eq_ld rfl rfl,
   by intros; exact eq_ld rfl rfl,
   by intros; exact eq_ld rfl rfl,
   by intros; exact eq_push rfl,
   by intros; exact eq_i2 (o := mx_add) rfl,
   by intros; exact eq_iald rfl,
   by intros; exact eq_i2l rfl,
   by intros; exact eq_push rfl,
   by intros; exact eq_ls (o := ml_shl) rfl,
   by intros; exact eq_ld rfl rfl,
   by intros; exact eq_ld rfl rfl,
   by intros; exact eq_push rfl,
   by intros; exact eq_i2 (o := mx_add) rfl,
   by intros; exact eq_iald rfl,
   by intros; exact eq_i2l rfl,
   by intros; exact eq_push rfl,
   by intros; exact eq_l2 (o := ml_and) rfl,
   by intros; exact eq_l2 (o := ml_or) rfl,
   by intros; exact eq_ld rfl rfl,
   by intros; exact eq_ld rfl rfl,
   by intros; exact eq_push rfl,
   by intros; exact eq_i2 (o := mx_add) rfl,
   by intros; exact eq_iald rfl⟩
theorem rw_L_law_1 :
  (∀ (d : Nat) (a : Int) (l0 l1 l2 l3 : Option mx_V) (v0 v1 v3 : mx_V) (S h : mx_H) (n : Int), mx_ex (d + 1) 256 275 [l0, l1, l2, l3] [v0, v1, (2, a), v3] S h n = mx_cl (S a (-2) = 13) d 165 [(2, a), v1, v0] 256 278 [l0, l1, l2, l3] [v3] S h n) ∧
  (∀ (d : Nat) (b a : Int) (l0 l1 l2 l3 : Option mx_V) (S h : mx_H) (n : Int), mx_ex d 256 278 [l0, l1, l2, l3] [(0, b), (0, a)] S h n = mx_br (a = b) d 256 1653 281 [l0, l1, l2, l3] [] S h n) ∧
  (∀ (d : Nat) (l0 l1 l2 l3 : Option mx_V) (S h : mx_H) (n : Int), mx_ex d 256 281 [l0, l1, l2, l3] [] S h n = mx_ex d 256 282 [l0, l1, l2, l3] [(0, 0)] S h n) ∧
  (∀ (d : Nat) (x : Int) (l0 l1 l2 l3 : Option mx_V) (S h : mx_H) (n : Int), mx_ex d 256 282 [l0, l1, l2, l3] [(0, x)] S h n = mx_re (0 ≤ x ∧ x ≤ 1) (some (0, x)) S h n) ∧
  (∀ (d : Nat) (x : Int) (l0 l2 l3 : Option mx_V) (S h : mx_H) (n : Int), mx_ex d 256 283 [l0, some (2, x), l2, l3] [] S h n = mx_ex d 256 284 [l0, some (2, x), l2, l3] [(2, x)] S h n) ∧
  (∀ (d : Nat) (a : Int) (l0 l1 l2 l3 : Option mx_V) (S h : mx_H) (n : Int), mx_ex (d + 1) 256 284 [l0, l1, l2, l3] [(2, a)] S h n = mx_cl (S a (-2) = 7) d 102 [(2, a)] 256 287 [l0, l1, l2, l3] [] S h n) ∧
  (∀ (d : Nat) (x : Int) (l0 l1 l3 : Option mx_V) (v0 : mx_V) (S h : mx_H) (n : Int), mx_ex d 256 287 [l0, l1, some (2, x), l3] [v0] S h n = mx_ex d 256 288 [l0, l1, some (2, x), l3] [(2, x), v0] S h n) ∧
  (∀ (d : Nat) (a : Int) (l0 l1 l2 l3 : Option mx_V) (v1 : mx_V) (S h : mx_H) (n : Int), mx_ex (d + 1) 256 288 [l0, l1, l2, l3] [(2, a), v1] S h n = mx_cl (S a (-2) = 13) d 176 [(2, a)] 256 291 [l0, l1, l2, l3] [v1] S h n) ∧
  (∀ (d : Nat) (b a : Int) (l0 l1 l2 l3 : Option mx_V) (S h : mx_H) (n : Int), mx_ex d 256 291 [l0, l1, l2, l3] [(0, b), (0, a)] S h n = mx_br (a = b) d 256 1653 294 [l0, l1, l2, l3] [] S h n) ∧
  (∀ (d : Nat) (l0 l1 l2 l3 : Option mx_V) (S h : mx_H) (n : Int), mx_ex d 256 294 [l0, l1, l2, l3] [] S h n = mx_ex d 256 295 [l0, l1, l2, l3] [(0, 0)] S h n) ∧
  (∀ (d : Nat) (x : Int) (l0 l1 l2 l3 : Option mx_V) (S h : mx_H) (n : Int), mx_ex d 256 295 [l0, l1, l2, l3] [(0, x)] S h n = mx_re (0 ≤ x ∧ x ≤ 1) (some (0, x)) S h n) ∧
  (∀ (d : Nat) (x : Int) (l0 l2 l3 : Option mx_V) (S h : mx_H) (n : Int), mx_ex d 256 296 [l0, some (2, x), l2, l3] [] S h n = mx_ex d 256 297 [l0, some (2, x), l2, l3] [(2, x)] S h n) ∧
  (∀ (d : Nat) (x : Int) (l1 l2 l3 : Option mx_V) (v0 : mx_V) (S h : mx_H) (n : Int), mx_ex d 256 297 [some (2, x), l1, l2, l3] [v0] S h n = mx_ex d 256 298 [some (2, x), l1, l2, l3] [(2, x), v0] S h n) ∧
  (∀ (d : Nat) (x : Int) (l0 l1 l2 : Option mx_V) (v0 v1 : mx_V) (S h : mx_H) (n : Int), mx_ex d 256 298 [l0, l1, l2, some (0, x)] [v0, v1] S h n = mx_ex d 256 299 [l0, l1, l2, some (0, x)] [(0, x), v0, v1] S h n) ∧
  (∀ (d : Nat) (l0 l1 l2 l3 : Option mx_V) (v0 v1 v2 : mx_V) (S h : mx_H) (n : Int), mx_ex d 256 299 [l0, l1, l2, l3] [v0, v1, v2] S h n = mx_ex d 256 300 [l0, l1, l2, l3] [(0, 1), v0, v1, v2] S h n) ∧
  (∀ (d : Nat) (b a : Int) (l0 l1 l2 l3 : Option mx_V) (v2 v3 : mx_V) (S h : mx_H) (n : Int), mx_ex d 256 300 [l0, l1, l2, l3] [(0, b), (0, a), v2, v3] S h n = mx_ex d 256 301 [l0, l1, l2, l3] [(0, mx_w (a + b)), v2, v3] S h n) ∧
  (∀ (d : Nat) (i a : Int) (l0 l1 l2 l3 : Option mx_V) (v2 : mx_V) (S h : mx_H) (n : Int), mx_ex d 256 301 [l0, l1, l2, l3] [(0, i), (2, a), v2] S h n = mx_gd ((S a (-2) = 20 ∨ S a (-2) = 24) ∧ 0 ≤ i ∧ i < S a (-1)) d 256 302 [l0, l1, l2, l3] [(0, h a i), v2] S h n) ∧
  (∀ (d : Nat) (x : Int) (l1 l2 l3 : Option mx_V) (v0 v1 : mx_V) (S h : mx_H) (n : Int), mx_ex d 256 302 [some (2, x), l1, l2, l3] [v0, v1] S h n = mx_ex d 256 303 [some (2, x), l1, l2, l3] [(2, x), v0, v1] S h n) ∧
  (∀ (d : Nat) (x : Int) (l0 l1 l2 : Option mx_V) (v0 v1 v2 : mx_V) (S h : mx_H) (n : Int), mx_ex d 256 303 [l0, l1, l2, some (0, x)] [v0, v1, v2] S h n = mx_ex d 256 304 [l0, l1, l2, some (0, x)] [(0, x), v0, v1, v2] S h n) ∧
  (∀ (d : Nat) (l0 l1 l2 l3 : Option mx_V) (v0 v1 v2 v3 : mx_V) (S h : mx_H) (n : Int), mx_ex d 256 304 [l0, l1, l2, l3] [v0, v1, v2, v3] S h n = mx_ex d 256 305 [l0, l1, l2, l3] [(0, 2), v0, v1, v2, v3] S h n) ∧
  (∀ (d : Nat) (b a : Int) (l0 l1 l2 l3 : Option mx_V) (v2 v3 v4 : mx_V) (S h : mx_H) (n : Int), mx_ex d 256 305 [l0, l1, l2, l3] [(0, b), (0, a), v2, v3, v4] S h n = mx_ex d 256 306 [l0, l1, l2, l3] [(0, mx_w (a + b)), v2, v3, v4] S h n) ∧
  (∀ (d : Nat) (i a : Int) (l0 l1 l2 l3 : Option mx_V) (v2 v3 : mx_V) (S h : mx_H) (n : Int), mx_ex d 256 306 [l0, l1, l2, l3] [(0, i), (2, a), v2, v3] S h n = mx_gd ((S a (-2) = 20 ∨ S a (-2) = 24) ∧ 0 ≤ i ∧ i < S a (-1)) d 256 307 [l0, l1, l2, l3] [(0, h a i), v2, v3] S h n) ∧
  (∀ (d : Nat) (x : Int) (l1 l2 l3 : Option mx_V) (v0 v1 v2 : mx_V) (S h : mx_H) (n : Int), mx_ex d 256 307 [some (2, x), l1, l2, l3] [v0, v1, v2] S h n = mx_ex d 256 308 [some (2, x), l1, l2, l3] [(2, x), v0, v1, v2] S h n) ∧
  (∀ (d : Nat) (x : Int) (l0 l1 l2 : Option mx_V) (v0 v1 v2 v3 : mx_V) (S h : mx_H) (n : Int), mx_ex d 256 308 [l0, l1, l2, some (0, x)] [v0, v1, v2, v3] S h n = mx_ex d 256 309 [l0, l1, l2, some (0, x)] [(0, x), v0, v1, v2, v3] S h n) ∧
  (∀ (d : Nat) (l0 l1 l2 l3 : Option mx_V) (v0 v1 v2 v3 v4 : mx_V) (S h : mx_H) (n : Int), mx_ex d 256 309 [l0, l1, l2, l3] [v0, v1, v2, v3, v4] S h n = mx_ex d 256 310 [l0, l1, l2, l3] [(0, 3), v0, v1, v2, v3, v4] S h n) ∧
  (∀ (d : Nat) (b a : Int) (l0 l1 l2 l3 : Option mx_V) (v2 v3 v4 v5 : mx_V) (S h : mx_H) (n : Int), mx_ex d 256 310 [l0, l1, l2, l3] [(0, b), (0, a), v2, v3, v4, v5] S h n = mx_ex d 256 311 [l0, l1, l2, l3] [(0, mx_w (a + b)), v2, v3, v4, v5] S h n) ∧
  (∀ (d : Nat) (i a : Int) (l0 l1 l2 l3 : Option mx_V) (v2 v3 v4 : mx_V) (S h : mx_H) (n : Int), mx_ex d 256 311 [l0, l1, l2, l3] [(0, i), (2, a), v2, v3, v4] S h n = mx_gd ((S a (-2) = 20 ∨ S a (-2) = 24) ∧ 0 ≤ i ∧ i < S a (-1)) d 256 312 [l0, l1, l2, l3] [(0, h a i), v2, v3, v4] S h n) ∧
  (∀ (d : Nat) (a : Int) (l0 l1 l2 l3 : Option mx_V) (v0 v1 v2 : mx_V) (S h : mx_H) (n : Int), mx_ex (d + 1) 256 312 [l0, l1, l2, l3] [v0, v1, v2, (2, a)] S h n = mx_cl (S a (-2) = 7) d 103 [(2, a), v2, v1, v0] 256 315 [l0, l1, l2, l3] [] S h n) ∧
  (∀ (d : Nat) (x : Int) (l0 l1 l3 : Option mx_V) (v0 : mx_V) (S h : mx_H) (n : Int), mx_ex d 256 315 [l0, l1, some (2, x), l3] [v0] S h n = mx_ex d 256 316 [l0, l1, some (2, x), l3] [(2, x), v0] S h n) ∧
  (∀ (d : Nat) (x : Int) (l1 l2 l3 : Option mx_V) (v0 v1 : mx_V) (S h : mx_H) (n : Int), mx_ex d 256 316 [some (2, x), l1, l2, l3] [v0, v1] S h n = mx_ex d 256 317 [some (2, x), l1, l2, l3] [(2, x), v0, v1] S h n) ∧
  (∀ (d : Nat) (x : Int) (l0 l1 l2 : Option mx_V) (v0 v1 v2 : mx_V) (S h : mx_H) (n : Int), mx_ex d 256 317 [l0, l1, l2, some (0, x)] [v0, v1, v2] S h n = mx_ex d 256 318 [l0, l1, l2, some (0, x)] [(0, x), v0, v1, v2] S h n) ∧
  (∀ (d : Nat) (l0 l1 l2 l3 : Option mx_V) (v0 v1 v2 v3 : mx_V) (S h : mx_H) (n : Int), mx_ex d 256 318 [l0, l1, l2, l3] [v0, v1, v2, v3] S h n = mx_ex d 256 319 [l0, l1, l2, l3] [(0, 1), v0, v1, v2, v3] S h n) ∧
  (∀ (d : Nat) (b a : Int) (l0 l1 l2 l3 : Option mx_V) (v2 v3 v4 : mx_V) (S h : mx_H) (n : Int), mx_ex d 256 319 [l0, l1, l2, l3] [(0, b), (0, a), v2, v3, v4] S h n = mx_ex d 256 320 [l0, l1, l2, l3] [(0, mx_w (a + b)), v2, v3, v4] S h n) ∧
  (∀ (d : Nat) (i a : Int) (l0 l1 l2 l3 : Option mx_V) (v2 v3 : mx_V) (S h : mx_H) (n : Int), mx_ex d 256 320 [l0, l1, l2, l3] [(0, i), (2, a), v2, v3] S h n = mx_gd ((S a (-2) = 20 ∨ S a (-2) = 24) ∧ 0 ≤ i ∧ i < S a (-1)) d 256 321 [l0, l1, l2, l3] [(0, h a i), v2, v3] S h n) ∧
  (∀ (d : Nat) (x : Int) (l1 l2 l3 : Option mx_V) (v0 v1 v2 : mx_V) (S h : mx_H) (n : Int), mx_ex d 256 321 [some (2, x), l1, l2, l3] [v0, v1, v2] S h n = mx_ex d 256 322 [some (2, x), l1, l2, l3] [(2, x), v0, v1, v2] S h n) ∧
  (∀ (d : Nat) (x : Int) (l0 l1 l2 : Option mx_V) (v0 v1 v2 v3 : mx_V) (S h : mx_H) (n : Int), mx_ex d 256 322 [l0, l1, l2, some (0, x)] [v0, v1, v2, v3] S h n = mx_ex d 256 323 [l0, l1, l2, some (0, x)] [(0, x), v0, v1, v2, v3] S h n) ∧
  (∀ (d : Nat) (l0 l1 l2 l3 : Option mx_V) (v0 v1 v2 v3 v4 : mx_V) (S h : mx_H) (n : Int), mx_ex d 256 323 [l0, l1, l2, l3] [v0, v1, v2, v3, v4] S h n = mx_ex d 256 324 [l0, l1, l2, l3] [(0, 2), v0, v1, v2, v3, v4] S h n) ∧
  (∀ (d : Nat) (b a : Int) (l0 l1 l2 l3 : Option mx_V) (v2 v3 v4 v5 : mx_V) (S h : mx_H) (n : Int), mx_ex d 256 324 [l0, l1, l2, l3] [(0, b), (0, a), v2, v3, v4, v5] S h n = mx_ex d 256 325 [l0, l1, l2, l3] [(0, mx_w (a + b)), v2, v3, v4, v5] S h n) ∧
  (∀ (d : Nat) (i a : Int) (l0 l1 l2 l3 : Option mx_V) (v2 v3 v4 : mx_V) (S h : mx_H) (n : Int), mx_ex d 256 325 [l0, l1, l2, l3] [(0, i), (2, a), v2, v3, v4] S h n = mx_gd ((S a (-2) = 20 ∨ S a (-2) = 24) ∧ 0 ≤ i ∧ i < S a (-1)) d 256 326 [l0, l1, l2, l3] [(0, h a i), v2, v3, v4] S h n) ∧
  (∀ (d : Nat) (x : Int) (l1 l2 l3 : Option mx_V) (v0 v1 v2 v3 : mx_V) (S h : mx_H) (n : Int), mx_ex d 256 326 [some (2, x), l1, l2, l3] [v0, v1, v2, v3] S h n = mx_ex d 256 327 [some (2, x), l1, l2, l3] [(2, x), v0, v1, v2, v3] S h n) ∧
  (∀ (d : Nat) (x : Int) (l0 l1 l2 : Option mx_V) (v0 v1 v2 v3 v4 : mx_V) (S h : mx_H) (n : Int), mx_ex d 256 327 [l0, l1, l2, some (0, x)] [v0, v1, v2, v3, v4] S h n = mx_ex d 256 328 [l0, l1, l2, some (0, x)] [(0, x), v0, v1, v2, v3, v4] S h n) ∧
  (∀ (d : Nat) (l0 l1 l2 l3 : Option mx_V) (v0 v1 v2 v3 v4 v5 : mx_V) (S h : mx_H) (n : Int), mx_ex d 256 328 [l0, l1, l2, l3] [v0, v1, v2, v3, v4, v5] S h n = mx_ex d 256 329 [l0, l1, l2, l3] [(0, 3), v0, v1, v2, v3, v4, v5] S h n) ∧
  (∀ (d : Nat) (b a : Int) (l0 l1 l2 l3 : Option mx_V) (v2 v3 v4 v5 v6 : mx_V) (S h : mx_H) (n : Int), mx_ex d 256 329 [l0, l1, l2, l3] [(0, b), (0, a), v2, v3, v4, v5, v6] S h n = mx_ex d 256 330 [l0, l1, l2, l3] [(0, mx_w (a + b)), v2, v3, v4, v5, v6] S h n) ∧
  (∀ (d : Nat) (i a : Int) (l0 l1 l2 l3 : Option mx_V) (v2 v3 v4 v5 : mx_V) (S h : mx_H) (n : Int), mx_ex d 256 330 [l0, l1, l2, l3] [(0, i), (2, a), v2, v3, v4, v5] S h n = mx_gd ((S a (-2) = 20 ∨ S a (-2) = 24) ∧ 0 ≤ i ∧ i < S a (-1)) d 256 331 [l0, l1, l2, l3] [(0, h a i), v2, v3, v4, v5] S h n) ∧
  (∀ (d : Nat) (a : Int) (l0 l1 l2 l3 : Option mx_V) (v0 v1 v2 v4 : mx_V) (S h : mx_H) (n : Int), mx_ex (d + 1) 256 331 [l0, l1, l2, l3] [v0, v1, v2, (2, a), v4] S h n = mx_cl (S a (-2) = 13) d 177 [(2, a), v2, v1, v0] 256 334 [l0, l1, l2, l3] [v4] S h n) ∧
  (∀ (d : Nat) (b a : Int) (l0 l1 l2 l3 : Option mx_V) (S h : mx_H) (n : Int), mx_ex d 256 334 [l0, l1, l2, l3] [(0, b), (0, a)] S h n = mx_br (a = b) d 256 1653 337 [l0, l1, l2, l3] [] S h n) ∧
  (∀ (d : Nat) (l0 l1 l2 l3 : Option mx_V) (S h : mx_H) (n : Int), mx_ex d 256 337 [l0, l1, l2, l3] [] S h n = mx_ex d 256 338 [l0, l1, l2, l3] [(0, 0)] S h n) ∧
  (∀ (d : Nat) (x : Int) (l0 l1 l2 l3 : Option mx_V) (S h : mx_H) (n : Int), mx_ex d 256 338 [l0, l1, l2, l3] [(0, x)] S h n = mx_re (0 ≤ x ∧ x ≤ 1) (some (0, x)) S h n) ∧
  (∀ (d : Nat) (x : Int) (l0 l2 l3 : Option mx_V) (S h : mx_H) (n : Int), mx_ex d 256 339 [l0, some (2, x), l2, l3] [] S h n = mx_ex d 256 340 [l0, some (2, x), l2, l3] [(2, x)] S h n) ∧
  (∀ (d : Nat) (x : Int) (l1 l2 l3 : Option mx_V) (v0 : mx_V) (S h : mx_H) (n : Int), mx_ex d 256 340 [some (2, x), l1, l2, l3] [v0] S h n = mx_ex d 256 341 [some (2, x), l1, l2, l3] [(2, x), v0] S h n) ∧
  (∀ (d : Nat) (x : Int) (l0 l1 l2 : Option mx_V) (v0 v1 : mx_V) (S h : mx_H) (n : Int), mx_ex d 256 341 [l0, l1, l2, some (0, x)] [v0, v1] S h n = mx_ex d 256 342 [l0, l1, l2, some (0, x)] [(0, x), v0, v1] S h n) ∧
  (∀ (d : Nat) (l0 l1 l2 l3 : Option mx_V) (v0 v1 v2 : mx_V) (S h : mx_H) (n : Int), mx_ex d 256 342 [l0, l1, l2, l3] [v0, v1, v2] S h n = mx_ex d 256 343 [l0, l1, l2, l3] [(0, 1), v0, v1, v2] S h n) ∧
  (∀ (d : Nat) (b a : Int) (l0 l1 l2 l3 : Option mx_V) (v2 v3 : mx_V) (S h : mx_H) (n : Int), mx_ex d 256 343 [l0, l1, l2, l3] [(0, b), (0, a), v2, v3] S h n = mx_ex d 256 344 [l0, l1, l2, l3] [(0, mx_w (a + b)), v2, v3] S h n) ∧
  (∀ (d : Nat) (i a : Int) (l0 l1 l2 l3 : Option mx_V) (v2 : mx_V) (S h : mx_H) (n : Int), mx_ex d 256 344 [l0, l1, l2, l3] [(0, i), (2, a), v2] S h n = mx_gd ((S a (-2) = 20 ∨ S a (-2) = 24) ∧ 0 ≤ i ∧ i < S a (-1)) d 256 345 [l0, l1, l2, l3] [(0, h a i), v2] S h n) ∧
  (∀ (d : Nat) (x : Int) (l1 l2 l3 : Option mx_V) (v0 v1 : mx_V) (S h : mx_H) (n : Int), mx_ex d 256 345 [some (2, x), l1, l2, l3] [v0, v1] S h n = mx_ex d 256 346 [some (2, x), l1, l2, l3] [(2, x), v0, v1] S h n) ∧
  (∀ (d : Nat) (x : Int) (l0 l1 l2 : Option mx_V) (v0 v1 v2 : mx_V) (S h : mx_H) (n : Int), mx_ex d 256 346 [l0, l1, l2, some (0, x)] [v0, v1, v2] S h n = mx_ex d 256 347 [l0, l1, l2, some (0, x)] [(0, x), v0, v1, v2] S h n) ∧
  (∀ (d : Nat) (l0 l1 l2 l3 : Option mx_V) (v0 v1 v2 v3 : mx_V) (S h : mx_H) (n : Int), mx_ex d 256 347 [l0, l1, l2, l3] [v0, v1, v2, v3] S h n = mx_ex d 256 348 [l0, l1, l2, l3] [(0, 2), v0, v1, v2, v3] S h n) ∧
  (∀ (d : Nat) (b a : Int) (l0 l1 l2 l3 : Option mx_V) (v2 v3 v4 : mx_V) (S h : mx_H) (n : Int), mx_ex d 256 348 [l0, l1, l2, l3] [(0, b), (0, a), v2, v3, v4] S h n = mx_ex d 256 349 [l0, l1, l2, l3] [(0, mx_w (a + b)), v2, v3, v4] S h n) ∧
  (∀ (d : Nat) (i a : Int) (l0 l1 l2 l3 : Option mx_V) (v2 v3 : mx_V) (S h : mx_H) (n : Int), mx_ex d 256 349 [l0, l1, l2, l3] [(0, i), (2, a), v2, v3] S h n = mx_gd ((S a (-2) = 20 ∨ S a (-2) = 24) ∧ 0 ≤ i ∧ i < S a (-1)) d 256 350 [l0, l1, l2, l3] [(0, h a i), v2, v3] S h n) ∧
  (∀ (d : Nat) (a : Int) (l0 l1 l2 l3 : Option mx_V) (v0 v1 : mx_V) (S h : mx_H) (n : Int), mx_ex (d + 1) 256 350 [l0, l1, l2, l3] [v0, v1, (2, a)] S h n = mx_cl (S a (-2) = 7) d 104 [(2, a), v1, v0] 256 353 [l0, l1, l2, l3] [] S h n) ∧
  (∀ (d : Nat) (x : Int) (l0 l1 l3 : Option mx_V) (v0 : mx_V) (S h : mx_H) (n : Int), mx_ex d 256 353 [l0, l1, some (2, x), l3] [v0] S h n = mx_ex d 256 354 [l0, l1, some (2, x), l3] [(2, x), v0] S h n) ∧
  (∀ (d : Nat) (x : Int) (l1 l2 l3 : Option mx_V) (v0 v1 : mx_V) (S h : mx_H) (n : Int), mx_ex d 256 354 [some (2, x), l1, l2, l3] [v0, v1] S h n = mx_ex d 256 355 [some (2, x), l1, l2, l3] [(2, x), v0, v1] S h n) ∧
  (∀ (d : Nat) (x : Int) (l0 l1 l2 : Option mx_V) (v0 v1 v2 : mx_V) (S h : mx_H) (n : Int), mx_ex d 256 355 [l0, l1, l2, some (0, x)] [v0, v1, v2] S h n = mx_ex d 256 356 [l0, l1, l2, some (0, x)] [(0, x), v0, v1, v2] S h n) ∧
  (∀ (d : Nat) (l0 l1 l2 l3 : Option mx_V) (v0 v1 v2 v3 : mx_V) (S h : mx_H) (n : Int), mx_ex d 256 356 [l0, l1, l2, l3] [v0, v1, v2, v3] S h n = mx_ex d 256 357 [l0, l1, l2, l3] [(0, 1), v0, v1, v2, v3] S h n) ∧
  (∀ (d : Nat) (b a : Int) (l0 l1 l2 l3 : Option mx_V) (v2 v3 v4 : mx_V) (S h : mx_H) (n : Int), mx_ex d 256 357 [l0, l1, l2, l3] [(0, b), (0, a), v2, v3, v4] S h n = mx_ex d 256 358 [l0, l1, l2, l3] [(0, mx_w (a + b)), v2, v3, v4] S h n) ∧
  (∀ (d : Nat) (i a : Int) (l0 l1 l2 l3 : Option mx_V) (v2 v3 : mx_V) (S h : mx_H) (n : Int), mx_ex d 256 358 [l0, l1, l2, l3] [(0, i), (2, a), v2, v3] S h n = mx_gd ((S a (-2) = 20 ∨ S a (-2) = 24) ∧ 0 ≤ i ∧ i < S a (-1)) d 256 359 [l0, l1, l2, l3] [(0, h a i), v2, v3] S h n) ∧
  (∀ (d : Nat) (x : Int) (l1 l2 l3 : Option mx_V) (v0 v1 v2 : mx_V) (S h : mx_H) (n : Int), mx_ex d 256 359 [some (2, x), l1, l2, l3] [v0, v1, v2] S h n = mx_ex d 256 360 [some (2, x), l1, l2, l3] [(2, x), v0, v1, v2] S h n) ∧
  (∀ (d : Nat) (x : Int) (l0 l1 l2 : Option mx_V) (v0 v1 v2 v3 : mx_V) (S h : mx_H) (n : Int), mx_ex d 256 360 [l0, l1, l2, some (0, x)] [v0, v1, v2, v3] S h n = mx_ex d 256 361 [l0, l1, l2, some (0, x)] [(0, x), v0, v1, v2, v3] S h n) ∧
  (∀ (d : Nat) (l0 l1 l2 l3 : Option mx_V) (v0 v1 v2 v3 v4 : mx_V) (S h : mx_H) (n : Int), mx_ex d 256 361 [l0, l1, l2, l3] [v0, v1, v2, v3, v4] S h n = mx_ex d 256 362 [l0, l1, l2, l3] [(0, 2), v0, v1, v2, v3, v4] S h n) ∧
  (∀ (d : Nat) (b a : Int) (l0 l1 l2 l3 : Option mx_V) (v2 v3 v4 v5 : mx_V) (S h : mx_H) (n : Int), mx_ex d 256 362 [l0, l1, l2, l3] [(0, b), (0, a), v2, v3, v4, v5] S h n = mx_ex d 256 363 [l0, l1, l2, l3] [(0, mx_w (a + b)), v2, v3, v4, v5] S h n) :=
  ⟨by intros; exact eq_cv rfl rfl (Nat.le_of_ble_eq_true rfl) rfl rfl,
   by intros; exact eq_ic0 rfl,
   by intros; exact eq_push rfl,
   by intros; exact eq_retz rfl,
   by intros; exact eq_ld rfl rfl,
   by intros; exact eq_cv rfl rfl (Nat.le_of_ble_eq_true rfl) rfl rfl,
   by intros; exact eq_ld rfl rfl,
   by intros; exact eq_cv rfl rfl (Nat.le_of_ble_eq_true rfl) rfl rfl,
   by intros; exact eq_ic0 rfl,
   by intros; exact eq_push rfl,
   by intros; exact eq_retz rfl,
   by intros; exact eq_ld rfl rfl,
   by intros; exact eq_ld rfl rfl,
   by intros; exact eq_ld rfl rfl,
   by intros; exact eq_push rfl,
   by intros; exact eq_i2 (o := mx_add) rfl,
   by intros; exact eq_iald rfl,
   by intros; exact eq_ld rfl rfl,
   by intros; exact eq_ld rfl rfl,
   by intros; exact eq_push rfl,
   by intros; exact eq_i2 (o := mx_add) rfl,
   by intros; exact eq_iald rfl,
   by intros; exact eq_ld rfl rfl,
   by intros; exact eq_ld rfl rfl,
   by intros; exact eq_push rfl,
   by intros; exact eq_i2 (o := mx_add) rfl,
   by intros; exact eq_iald rfl,
   by intros; exact eq_cv rfl rfl (Nat.le_of_ble_eq_true rfl) rfl rfl,
   by intros; exact eq_ld rfl rfl,
   by intros; exact eq_ld rfl rfl,
   by intros; exact eq_ld rfl rfl,
   by intros; exact eq_push rfl,
   by intros; exact eq_i2 (o := mx_add) rfl,
   by intros; exact eq_iald rfl,
   by intros; exact eq_ld rfl rfl,
   by intros; exact eq_ld rfl rfl,
   by intros; exact eq_push rfl,
   by intros; exact eq_i2 (o := mx_add) rfl,
   by intros; exact eq_iald rfl,
   by intros; exact eq_ld rfl rfl,
   by intros; exact eq_ld rfl rfl,
   by intros; exact eq_push rfl,
   by intros; exact eq_i2 (o := mx_add) rfl,
   by intros; exact eq_iald rfl,
   by intros; exact eq_cv rfl rfl (Nat.le_of_ble_eq_true rfl) rfl rfl,
   by intros; exact eq_ic0 rfl,
   by intros; exact eq_push rfl,
   by intros; exact eq_retz rfl,
   by intros; exact eq_ld rfl rfl,
   by intros; exact eq_ld rfl rfl,
   by intros; exact eq_ld rfl rfl,
   by intros; exact eq_push rfl,
   by intros; exact eq_i2 (o := mx_add) rfl,
   by intros; exact eq_iald rfl,
   by intros; exact eq_ld rfl rfl,
   by intros; exact eq_ld rfl rfl,
   by intros; exact eq_push rfl,
   by intros; exact eq_i2 (o := mx_add) rfl,
   by intros; exact eq_iald rfl,
   by intros; exact eq_cv rfl rfl (Nat.le_of_ble_eq_true rfl) rfl rfl,
   by intros; exact eq_ld rfl rfl,
   by intros; exact eq_ld rfl rfl,
   by intros; exact eq_ld rfl rfl,
   by intros; exact eq_push rfl,
   by intros; exact eq_i2 (o := mx_add) rfl,
   by intros; exact eq_iald rfl,
   by intros; exact eq_ld rfl rfl,
   by intros; exact eq_ld rfl rfl,
   by intros; exact eq_push rfl,
   by intros; exact eq_i2 (o := mx_add) rfl⟩
theorem rw_L_law_2 :
  (∀ (d : Nat) (i a : Int) (l0 l1 l2 l3 : Option mx_V) (v2 v3 v4 : mx_V) (S h : mx_H) (n : Int), mx_ex d 256 363 [l0, l1, l2, l3] [(0, i), (2, a), v2, v3, v4] S h n = mx_gd ((S a (-2) = 20 ∨ S a (-2) = 24) ∧ 0 ≤ i ∧ i < S a (-1)) d 256 364 [l0, l1, l2, l3] [(0, h a i), v2, v3, v4] S h n) ∧
  (∀ (d : Nat) (a : Int) (l0 l1 l2 l3 : Option mx_V) (v0 v1 v3 : mx_V) (S h : mx_H) (n : Int), mx_ex (d + 1) 256 364 [l0, l1, l2, l3] [v0, v1, (2, a), v3] S h n = mx_cl (S a (-2) = 13) d 178 [(2, a), v1, v0] 256 367 [l0, l1, l2, l3] [v3] S h n) ∧
  (∀ (d : Nat) (b a : Int) (l0 l1 l2 l3 : Option mx_V) (S h : mx_H) (n : Int), mx_ex d 256 367 [l0, l1, l2, l3] [(0, b), (0, a)] S h n = mx_br (a = b) d 256 1653 370 [l0, l1, l2, l3] [] S h n) ∧
  (∀ (d : Nat) (l0 l1 l2 l3 : Option mx_V) (S h : mx_H) (n : Int), mx_ex d 256 370 [l0, l1, l2, l3] [] S h n = mx_ex d 256 371 [l0, l1, l2, l3] [(0, 0)] S h n) ∧
  (∀ (d : Nat) (x : Int) (l0 l1 l2 l3 : Option mx_V) (S h : mx_H) (n : Int), mx_ex d 256 371 [l0, l1, l2, l3] [(0, x)] S h n = mx_re (0 ≤ x ∧ x ≤ 1) (some (0, x)) S h n) ∧
  (∀ (d : Nat) (x : Int) (l0 l2 l3 : Option mx_V) (S h : mx_H) (n : Int), mx_ex d 256 372 [l0, some (2, x), l2, l3] [] S h n = mx_ex d 256 373 [l0, some (2, x), l2, l3] [(2, x)] S h n) ∧
  (∀ (d : Nat) (x : Int) (l1 l2 l3 : Option mx_V) (v0 : mx_V) (S h : mx_H) (n : Int), mx_ex d 256 373 [some (2, x), l1, l2, l3] [v0] S h n = mx_ex d 256 374 [some (2, x), l1, l2, l3] [(2, x), v0] S h n) ∧
  (∀ (d : Nat) (x : Int) (l0 l1 l2 : Option mx_V) (v0 v1 : mx_V) (S h : mx_H) (n : Int), mx_ex d 256 374 [l0, l1, l2, some (0, x)] [v0, v1] S h n = mx_ex d 256 375 [l0, l1, l2, some (0, x)] [(0, x), v0, v1] S h n) ∧
  (∀ (d : Nat) (l0 l1 l2 l3 : Option mx_V) (v0 v1 v2 : mx_V) (S h : mx_H) (n : Int), mx_ex d 256 375 [l0, l1, l2, l3] [v0, v1, v2] S h n = mx_ex d 256 376 [l0, l1, l2, l3] [(0, 1), v0, v1, v2] S h n) ∧
  (∀ (d : Nat) (b a : Int) (l0 l1 l2 l3 : Option mx_V) (v2 v3 : mx_V) (S h : mx_H) (n : Int), mx_ex d 256 376 [l0, l1, l2, l3] [(0, b), (0, a), v2, v3] S h n = mx_ex d 256 377 [l0, l1, l2, l3] [(0, mx_w (a + b)), v2, v3] S h n) ∧
  (∀ (d : Nat) (i a : Int) (l0 l1 l2 l3 : Option mx_V) (v2 : mx_V) (S h : mx_H) (n : Int), mx_ex d 256 377 [l0, l1, l2, l3] [(0, i), (2, a), v2] S h n = mx_gd ((S a (-2) = 20 ∨ S a (-2) = 24) ∧ 0 ≤ i ∧ i < S a (-1)) d 256 378 [l0, l1, l2, l3] [(0, h a i), v2] S h n) ∧
  (∀ (d : Nat) (x : Int) (l1 l2 l3 : Option mx_V) (v0 v1 : mx_V) (S h : mx_H) (n : Int), mx_ex d 256 378 [some (2, x), l1, l2, l3] [v0, v1] S h n = mx_ex d 256 379 [some (2, x), l1, l2, l3] [(2, x), v0, v1] S h n) ∧
  (∀ (d : Nat) (x : Int) (l0 l1 l2 : Option mx_V) (v0 v1 v2 : mx_V) (S h : mx_H) (n : Int), mx_ex d 256 379 [l0, l1, l2, some (0, x)] [v0, v1, v2] S h n = mx_ex d 256 380 [l0, l1, l2, some (0, x)] [(0, x), v0, v1, v2] S h n) ∧
  (∀ (d : Nat) (l0 l1 l2 l3 : Option mx_V) (v0 v1 v2 v3 : mx_V) (S h : mx_H) (n : Int), mx_ex d 256 380 [l0, l1, l2, l3] [v0, v1, v2, v3] S h n = mx_ex d 256 381 [l0, l1, l2, l3] [(0, 2), v0, v1, v2, v3] S h n) ∧
  (∀ (d : Nat) (b a : Int) (l0 l1 l2 l3 : Option mx_V) (v2 v3 v4 : mx_V) (S h : mx_H) (n : Int), mx_ex d 256 381 [l0, l1, l2, l3] [(0, b), (0, a), v2, v3, v4] S h n = mx_ex d 256 382 [l0, l1, l2, l3] [(0, mx_w (a + b)), v2, v3, v4] S h n) ∧
  (∀ (d : Nat) (i a : Int) (l0 l1 l2 l3 : Option mx_V) (v2 v3 : mx_V) (S h : mx_H) (n : Int), mx_ex d 256 382 [l0, l1, l2, l3] [(0, i), (2, a), v2, v3] S h n = mx_gd ((S a (-2) = 20 ∨ S a (-2) = 24) ∧ 0 ≤ i ∧ i < S a (-1)) d 256 383 [l0, l1, l2, l3] [(0, h a i), v2, v3] S h n) ∧
  (∀ (d : Nat) (x : Int) (l1 l2 l3 : Option mx_V) (v0 v1 v2 : mx_V) (S h : mx_H) (n : Int), mx_ex d 256 383 [some (2, x), l1, l2, l3] [v0, v1, v2] S h n = mx_ex d 256 384 [some (2, x), l1, l2, l3] [(2, x), v0, v1, v2] S h n) ∧
  (∀ (d : Nat) (x : Int) (l0 l1 l2 : Option mx_V) (v0 v1 v2 v3 : mx_V) (S h : mx_H) (n : Int), mx_ex d 256 384 [l0, l1, l2, some (0, x)] [v0, v1, v2, v3] S h n = mx_ex d 256 385 [l0, l1, l2, some (0, x)] [(0, x), v0, v1, v2, v3] S h n) ∧
  (∀ (d : Nat) (l0 l1 l2 l3 : Option mx_V) (v0 v1 v2 v3 v4 : mx_V) (S h : mx_H) (n : Int), mx_ex d 256 385 [l0, l1, l2, l3] [v0, v1, v2, v3, v4] S h n = mx_ex d 256 386 [l0, l1, l2, l3] [(0, 3), v0, v1, v2, v3, v4] S h n) ∧
  (∀ (d : Nat) (b a : Int) (l0 l1 l2 l3 : Option mx_V) (v2 v3 v4 v5 : mx_V) (S h : mx_H) (n : Int), mx_ex d 256 386 [l0, l1, l2, l3] [(0, b), (0, a), v2, v3, v4, v5] S h n = mx_ex d 256 387 [l0, l1, l2, l3] [(0, mx_w (a + b)), v2, v3, v4, v5] S h n) ∧
  (∀ (d : Nat) (i a : Int) (l0 l1 l2 l3 : Option mx_V) (v2 v3 v4 : mx_V) (S h : mx_H) (n : Int), mx_ex d 256 387 [l0, l1, l2, l3] [(0, i), (2, a), v2, v3, v4] S h n = mx_gd ((S a (-2) = 20 ∨ S a (-2) = 24) ∧ 0 ≤ i ∧ i < S a (-1)) d 256 388 [l0, l1, l2, l3] [(0, h a i), v2, v3, v4] S h n) ∧
  (∀ (d : Nat) (x : Int) (l1 l2 l3 : Option mx_V) (v0 v1 v2 v3 : mx_V) (S h : mx_H) (n : Int), mx_ex d 256 388 [some (2, x), l1, l2, l3] [v0, v1, v2, v3] S h n = mx_ex d 256 389 [some (2, x), l1, l2, l3] [(2, x), v0, v1, v2, v3] S h n) ∧
  (∀ (d : Nat) (x : Int) (l0 l1 l2 : Option mx_V) (v0 v1 v2 v3 v4 : mx_V) (S h : mx_H) (n : Int), mx_ex d 256 389 [l0, l1, l2, some (0, x)] [v0, v1, v2, v3, v4] S h n = mx_ex d 256 390 [l0, l1, l2, some (0, x)] [(0, x), v0, v1, v2, v3, v4] S h n) ∧
  (∀ (d : Nat) (l0 l1 l2 l3 : Option mx_V) (v0 v1 v2 v3 v4 v5 : mx_V) (S h : mx_H) (n : Int), mx_ex d 256 390 [l0, l1, l2, l3] [v0, v1, v2, v3, v4, v5] S h n = mx_ex d 256 391 [l0, l1, l2, l3] [(0, 4), v0, v1, v2, v3, v4, v5] S h n) ∧
  (∀ (d : Nat) (b a : Int) (l0 l1 l2 l3 : Option mx_V) (v2 v3 v4 v5 v6 : mx_V) (S h : mx_H) (n : Int), mx_ex d 256 391 [l0, l1, l2, l3] [(0, b), (0, a), v2, v3, v4, v5, v6] S h n = mx_ex d 256 392 [l0, l1, l2, l3] [(0, mx_w (a + b)), v2, v3, v4, v5, v6] S h n) ∧
  (∀ (d : Nat) (i a : Int) (l0 l1 l2 l3 : Option mx_V) (v2 v3 v4 v5 : mx_V) (S h : mx_H) (n : Int), mx_ex d 256 392 [l0, l1, l2, l3] [(0, i), (2, a), v2, v3, v4, v5] S h n = mx_gd ((S a (-2) = 20 ∨ S a (-2) = 24) ∧ 0 ≤ i ∧ i < S a (-1)) d 256 393 [l0, l1, l2, l3] [(0, h a i), v2, v3, v4, v5] S h n) ∧
  (∀ (d : Nat) (x : Int) (l1 l2 l3 : Option mx_V) (v0 v1 v2 v3 v4 : mx_V) (S h : mx_H) (n : Int), mx_ex d 256 393 [some (2, x), l1, l2, l3] [v0, v1, v2, v3, v4] S h n = mx_ex d 256 394 [some (2, x), l1, l2, l3] [(2, x), v0, v1, v2, v3, v4] S h n) ∧
  (∀ (d : Nat) (x : Int) (l0 l1 l2 : Option mx_V) (v0 v1 v2 v3 v4 v5 : mx_V) (S h : mx_H) (n : Int), mx_ex d 256 394 [l0, l1, l2, some (0, x)] [v0, v1, v2, v3, v4, v5] S h n = mx_ex d 256 395 [l0, l1, l2, some (0, x)] [(0, x), v0, v1, v2, v3, v4, v5] S h n) ∧
  (∀ (d : Nat) (l0 l1 l2 l3 : Option mx_V) (v0 v1 v2 v3 v4 v5 v6 : mx_V) (S h : mx_H) (n : Int), mx_ex d 256 395 [l0, l1, l2, l3] [v0, v1, v2, v3, v4, v5, v6] S h n = mx_ex d 256 396 [l0, l1, l2, l3] [(0, 5), v0, v1, v2, v3, v4, v5, v6] S h n) ∧
  (∀ (d : Nat) (b a : Int) (l0 l1 l2 l3 : Option mx_V) (v2 v3 v4 v5 v6 v7 : mx_V) (S h : mx_H) (n : Int), mx_ex d 256 396 [l0, l1, l2, l3] [(0, b), (0, a), v2, v3, v4, v5, v6, v7] S h n = mx_ex d 256 397 [l0, l1, l2, l3] [(0, mx_w (a + b)), v2, v3, v4, v5, v6, v7] S h n) ∧
  (∀ (d : Nat) (i a : Int) (l0 l1 l2 l3 : Option mx_V) (v2 v3 v4 v5 v6 : mx_V) (S h : mx_H) (n : Int), mx_ex d 256 397 [l0, l1, l2, l3] [(0, i), (2, a), v2, v3, v4, v5, v6] S h n = mx_gd ((S a (-2) = 20 ∨ S a (-2) = 24) ∧ 0 ≤ i ∧ i < S a (-1)) d 256 398 [l0, l1, l2, l3] [(0, h a i), v2, v3, v4, v5, v6] S h n) ∧
  (∀ (d : Nat) (a : Int) (l0 l1 l2 l3 : Option mx_V) (v0 v1 v2 v3 v4 : mx_V) (S h : mx_H) (n : Int), mx_ex (d + 1) 256 398 [l0, l1, l2, l3] [v0, v1, v2, v3, v4, (2, a)] S h n = mx_cl (S a (-2) = 7) d 105 [(2, a), v4, v3, v2, v1, v0] 256 401 [l0, l1, l2, l3] [] S h n) ∧
  (∀ (d : Nat) (x : Int) (l0 l1 l3 : Option mx_V) (v0 : mx_V) (S h : mx_H) (n : Int), mx_ex d 256 401 [l0, l1, some (2, x), l3] [v0] S h n = mx_ex d 256 402 [l0, l1, some (2, x), l3] [(2, x), v0] S h n) ∧
  (∀ (d : Nat) (x : Int) (l1 l2 l3 : Option mx_V) (v0 v1 : mx_V) (S h : mx_H) (n : Int), mx_ex d 256 402 [some (2, x), l1, l2, l3] [v0, v1] S h n = mx_ex d 256 403 [some (2, x), l1, l2, l3] [(2, x), v0, v1] S h n) ∧
  (∀ (d : Nat) (x : Int) (l0 l1 l2 : Option mx_V) (v0 v1 v2 : mx_V) (S h : mx_H) (n : Int), mx_ex d 256 403 [l0, l1, l2, some (0, x)] [v0, v1, v2] S h n = mx_ex d 256 404 [l0, l1, l2, some (0, x)] [(0, x), v0, v1, v2] S h n) ∧
  (∀ (d : Nat) (l0 l1 l2 l3 : Option mx_V) (v0 v1 v2 v3 : mx_V) (S h : mx_H) (n : Int), mx_ex d 256 404 [l0, l1, l2, l3] [v0, v1, v2, v3] S h n = mx_ex d 256 405 [l0, l1, l2, l3] [(0, 1), v0, v1, v2, v3] S h n) ∧
  (∀ (d : Nat) (b a : Int) (l0 l1 l2 l3 : Option mx_V) (v2 v3 v4 : mx_V) (S h : mx_H) (n : Int), mx_ex d 256 405 [l0, l1, l2, l3] [(0, b), (0, a), v2, v3, v4] S h n = mx_ex d 256 406 [l0, l1, l2, l3] [(0, mx_w (a + b)), v2, v3, v4] S h n) ∧
  (∀ (d : Nat) (i a : Int) (l0 l1 l2 l3 : Option mx_V) (v2 v3 : mx_V) (S h : mx_H) (n : Int), mx_ex d 256 406 [l0, l1, l2, l3] [(0, i), (2, a), v2, v3] S h n = mx_gd ((S a (-2) = 20 ∨ S a (-2) = 24) ∧ 0 ≤ i ∧ i < S a (-1)) d 256 407 [l0, l1, l2, l3] [(0, h a i), v2, v3] S h n) ∧
  (∀ (d : Nat) (x : Int) (l1 l2 l3 : Option mx_V) (v0 v1 v2 : mx_V) (S h : mx_H) (n : Int), mx_ex d 256 407 [some (2, x), l1, l2, l3] [v0, v1, v2] S h n = mx_ex d 256 408 [some (2, x), l1, l2, l3] [(2, x), v0, v1, v2] S h n) ∧
  (∀ (d : Nat) (x : Int) (l0 l1 l2 : Option mx_V) (v0 v1 v2 v3 : mx_V) (S h : mx_H) (n : Int), mx_ex d 256 408 [l0, l1, l2, some (0, x)] [v0, v1, v2, v3] S h n = mx_ex d 256 409 [l0, l1, l2, some (0, x)] [(0, x), v0, v1, v2, v3] S h n) ∧
  (∀ (d : Nat) (l0 l1 l2 l3 : Option mx_V) (v0 v1 v2 v3 v4 : mx_V) (S h : mx_H) (n : Int), mx_ex d 256 409 [l0, l1, l2, l3] [v0, v1, v2, v3, v4] S h n = mx_ex d 256 410 [l0, l1, l2, l3] [(0, 2), v0, v1, v2, v3, v4] S h n) ∧
  (∀ (d : Nat) (b a : Int) (l0 l1 l2 l3 : Option mx_V) (v2 v3 v4 v5 : mx_V) (S h : mx_H) (n : Int), mx_ex d 256 410 [l0, l1, l2, l3] [(0, b), (0, a), v2, v3, v4, v5] S h n = mx_ex d 256 411 [l0, l1, l2, l3] [(0, mx_w (a + b)), v2, v3, v4, v5] S h n) ∧
  (∀ (d : Nat) (i a : Int) (l0 l1 l2 l3 : Option mx_V) (v2 v3 v4 : mx_V) (S h : mx_H) (n : Int), mx_ex d 256 411 [l0, l1, l2, l3] [(0, i), (2, a), v2, v3, v4] S h n = mx_gd ((S a (-2) = 20 ∨ S a (-2) = 24) ∧ 0 ≤ i ∧ i < S a (-1)) d 256 412 [l0, l1, l2, l3] [(0, h a i), v2, v3, v4] S h n) ∧
  (∀ (d : Nat) (x : Int) (l1 l2 l3 : Option mx_V) (v0 v1 v2 v3 : mx_V) (S h : mx_H) (n : Int), mx_ex d 256 412 [some (2, x), l1, l2, l3] [v0, v1, v2, v3] S h n = mx_ex d 256 413 [some (2, x), l1, l2, l3] [(2, x), v0, v1, v2, v3] S h n) ∧
  (∀ (d : Nat) (x : Int) (l0 l1 l2 : Option mx_V) (v0 v1 v2 v3 v4 : mx_V) (S h : mx_H) (n : Int), mx_ex d 256 413 [l0, l1, l2, some (0, x)] [v0, v1, v2, v3, v4] S h n = mx_ex d 256 414 [l0, l1, l2, some (0, x)] [(0, x), v0, v1, v2, v3, v4] S h n) ∧
  (∀ (d : Nat) (l0 l1 l2 l3 : Option mx_V) (v0 v1 v2 v3 v4 v5 : mx_V) (S h : mx_H) (n : Int), mx_ex d 256 414 [l0, l1, l2, l3] [v0, v1, v2, v3, v4, v5] S h n = mx_ex d 256 415 [l0, l1, l2, l3] [(0, 3), v0, v1, v2, v3, v4, v5] S h n) ∧
  (∀ (d : Nat) (b a : Int) (l0 l1 l2 l3 : Option mx_V) (v2 v3 v4 v5 v6 : mx_V) (S h : mx_H) (n : Int), mx_ex d 256 415 [l0, l1, l2, l3] [(0, b), (0, a), v2, v3, v4, v5, v6] S h n = mx_ex d 256 416 [l0, l1, l2, l3] [(0, mx_w (a + b)), v2, v3, v4, v5, v6] S h n) ∧
  (∀ (d : Nat) (i a : Int) (l0 l1 l2 l3 : Option mx_V) (v2 v3 v4 v5 : mx_V) (S h : mx_H) (n : Int), mx_ex d 256 416 [l0, l1, l2, l3] [(0, i), (2, a), v2, v3, v4, v5] S h n = mx_gd ((S a (-2) = 20 ∨ S a (-2) = 24) ∧ 0 ≤ i ∧ i < S a (-1)) d 256 417 [l0, l1, l2, l3] [(0, h a i), v2, v3, v4, v5] S h n) ∧
  (∀ (d : Nat) (x : Int) (l1 l2 l3 : Option mx_V) (v0 v1 v2 v3 v4 : mx_V) (S h : mx_H) (n : Int), mx_ex d 256 417 [some (2, x), l1, l2, l3] [v0, v1, v2, v3, v4] S h n = mx_ex d 256 418 [some (2, x), l1, l2, l3] [(2, x), v0, v1, v2, v3, v4] S h n) ∧
  (∀ (d : Nat) (x : Int) (l0 l1 l2 : Option mx_V) (v0 v1 v2 v3 v4 v5 : mx_V) (S h : mx_H) (n : Int), mx_ex d 256 418 [l0, l1, l2, some (0, x)] [v0, v1, v2, v3, v4, v5] S h n = mx_ex d 256 419 [l0, l1, l2, some (0, x)] [(0, x), v0, v1, v2, v3, v4, v5] S h n) ∧
  (∀ (d : Nat) (l0 l1 l2 l3 : Option mx_V) (v0 v1 v2 v3 v4 v5 v6 : mx_V) (S h : mx_H) (n : Int), mx_ex d 256 419 [l0, l1, l2, l3] [v0, v1, v2, v3, v4, v5, v6] S h n = mx_ex d 256 420 [l0, l1, l2, l3] [(0, 4), v0, v1, v2, v3, v4, v5, v6] S h n) ∧
  (∀ (d : Nat) (b a : Int) (l0 l1 l2 l3 : Option mx_V) (v2 v3 v4 v5 v6 v7 : mx_V) (S h : mx_H) (n : Int), mx_ex d 256 420 [l0, l1, l2, l3] [(0, b), (0, a), v2, v3, v4, v5, v6, v7] S h n = mx_ex d 256 421 [l0, l1, l2, l3] [(0, mx_w (a + b)), v2, v3, v4, v5, v6, v7] S h n) ∧
  (∀ (d : Nat) (i a : Int) (l0 l1 l2 l3 : Option mx_V) (v2 v3 v4 v5 v6 : mx_V) (S h : mx_H) (n : Int), mx_ex d 256 421 [l0, l1, l2, l3] [(0, i), (2, a), v2, v3, v4, v5, v6] S h n = mx_gd ((S a (-2) = 20 ∨ S a (-2) = 24) ∧ 0 ≤ i ∧ i < S a (-1)) d 256 422 [l0, l1, l2, l3] [(0, h a i), v2, v3, v4, v5, v6] S h n) ∧
  (∀ (d : Nat) (x : Int) (l1 l2 l3 : Option mx_V) (v0 v1 v2 v3 v4 v5 : mx_V) (S h : mx_H) (n : Int), mx_ex d 256 422 [some (2, x), l1, l2, l3] [v0, v1, v2, v3, v4, v5] S h n = mx_ex d 256 423 [some (2, x), l1, l2, l3] [(2, x), v0, v1, v2, v3, v4, v5] S h n) ∧
  (∀ (d : Nat) (x : Int) (l0 l1 l2 : Option mx_V) (v0 v1 v2 v3 v4 v5 v6 : mx_V) (S h : mx_H) (n : Int), mx_ex d 256 423 [l0, l1, l2, some (0, x)] [v0, v1, v2, v3, v4, v5, v6] S h n = mx_ex d 256 424 [l0, l1, l2, some (0, x)] [(0, x), v0, v1, v2, v3, v4, v5, v6] S h n) ∧
  (∀ (d : Nat) (l0 l1 l2 l3 : Option mx_V) (v0 v1 v2 v3 v4 v5 v6 v7 : mx_V) (S h : mx_H) (n : Int), mx_ex d 256 424 [l0, l1, l2, l3] [v0, v1, v2, v3, v4, v5, v6, v7] S h n = mx_ex d 256 425 [l0, l1, l2, l3] [(0, 5), v0, v1, v2, v3, v4, v5, v6, v7] S h n) ∧
  (∀ (d : Nat) (b a : Int) (l0 l1 l2 l3 : Option mx_V) (v2 v3 v4 v5 v6 v7 v8 : mx_V) (S h : mx_H) (n : Int), mx_ex d 256 425 [l0, l1, l2, l3] [(0, b), (0, a), v2, v3, v4, v5, v6, v7, v8] S h n = mx_ex d 256 426 [l0, l1, l2, l3] [(0, mx_w (a + b)), v2, v3, v4, v5, v6, v7, v8] S h n) ∧
  (∀ (d : Nat) (i a : Int) (l0 l1 l2 l3 : Option mx_V) (v2 v3 v4 v5 v6 v7 : mx_V) (S h : mx_H) (n : Int), mx_ex d 256 426 [l0, l1, l2, l3] [(0, i), (2, a), v2, v3, v4, v5, v6, v7] S h n = mx_gd ((S a (-2) = 20 ∨ S a (-2) = 24) ∧ 0 ≤ i ∧ i < S a (-1)) d 256 427 [l0, l1, l2, l3] [(0, h a i), v2, v3, v4, v5, v6, v7] S h n) ∧
  (∀ (d : Nat) (a : Int) (l0 l1 l2 l3 : Option mx_V) (v0 v1 v2 v3 v4 v6 : mx_V) (S h : mx_H) (n : Int), mx_ex (d + 1) 256 427 [l0, l1, l2, l3] [v0, v1, v2, v3, v4, (2, a), v6] S h n = mx_cl (S a (-2) = 13) d 179 [(2, a), v4, v3, v2, v1, v0] 256 430 [l0, l1, l2, l3] [v6] S h n) ∧
  (∀ (d : Nat) (b a : Int) (l0 l1 l2 l3 : Option mx_V) (S h : mx_H) (n : Int), mx_ex d 256 430 [l0, l1, l2, l3] [(0, b), (0, a)] S h n = mx_br (a = b) d 256 1653 433 [l0, l1, l2, l3] [] S h n) ∧
  (∀ (d : Nat) (l0 l1 l2 l3 : Option mx_V) (S h : mx_H) (n : Int), mx_ex d 256 433 [l0, l1, l2, l3] [] S h n = mx_ex d 256 434 [l0, l1, l2, l3] [(0, 0)] S h n) ∧
  (∀ (d : Nat) (x : Int) (l0 l1 l2 l3 : Option mx_V) (S h : mx_H) (n : Int), mx_ex d 256 434 [l0, l1, l2, l3] [(0, x)] S h n = mx_re (0 ≤ x ∧ x ≤ 1) (some (0, x)) S h n) ∧
  (∀ (d : Nat) (x : Int) (l0 l2 l3 : Option mx_V) (S h : mx_H) (n : Int), mx_ex d 256 435 [l0, some (2, x), l2, l3] [] S h n = mx_ex d 256 436 [l0, some (2, x), l2, l3] [(2, x)] S h n) ∧
  (∀ (d : Nat) (x : Int) (l1 l2 l3 : Option mx_V) (v0 : mx_V) (S h : mx_H) (n : Int), mx_ex d 256 436 [some (2, x), l1, l2, l3] [v0] S h n = mx_ex d 256 437 [some (2, x), l1, l2, l3] [(2, x), v0] S h n) ∧
  (∀ (d : Nat) (x : Int) (l0 l1 l2 : Option mx_V) (v0 v1 : mx_V) (S h : mx_H) (n : Int), mx_ex d 256 437 [l0, l1, l2, some (0, x)] [v0, v1] S h n = mx_ex d 256 438 [l0, l1, l2, some (0, x)] [(0, x), v0, v1] S h n) ∧
  (∀ (d : Nat) (l0 l1 l2 l3 : Option mx_V) (v0 v1 v2 : mx_V) (S h : mx_H) (n : Int), mx_ex d 256 438 [l0, l1, l2, l3] [v0, v1, v2] S h n = mx_ex d 256 439 [l0, l1, l2, l3] [(0, 1), v0, v1, v2] S h n) ∧
  (∀ (d : Nat) (b a : Int) (l0 l1 l2 l3 : Option mx_V) (v2 v3 : mx_V) (S h : mx_H) (n : Int), mx_ex d 256 439 [l0, l1, l2, l3] [(0, b), (0, a), v2, v3] S h n = mx_ex d 256 440 [l0, l1, l2, l3] [(0, mx_w (a + b)), v2, v3] S h n) ∧
  (∀ (d : Nat) (i a : Int) (l0 l1 l2 l3 : Option mx_V) (v2 : mx_V) (S h : mx_H) (n : Int), mx_ex d 256 440 [l0, l1, l2, l3] [(0, i), (2, a), v2] S h n = mx_gd ((S a (-2) = 20 ∨ S a (-2) = 24) ∧ 0 ≤ i ∧ i < S a (-1)) d 256 441 [l0, l1, l2, l3] [(0, h a i), v2] S h n) ∧
  (∀ (d : Nat) (x : Int) (l1 l2 l3 : Option mx_V) (v0 v1 : mx_V) (S h : mx_H) (n : Int), mx_ex d 256 441 [some (2, x), l1, l2, l3] [v0, v1] S h n = mx_ex d 256 442 [some (2, x), l1, l2, l3] [(2, x), v0, v1] S h n) ∧
  (∀ (d : Nat) (x : Int) (l0 l1 l2 : Option mx_V) (v0 v1 v2 : mx_V) (S h : mx_H) (n : Int), mx_ex d 256 442 [l0, l1, l2, some (0, x)] [v0, v1, v2] S h n = mx_ex d 256 443 [l0, l1, l2, some (0, x)] [(0, x), v0, v1, v2] S h n) :=
  ⟨by intros; exact eq_iald rfl,
   by intros; exact eq_cv rfl rfl (Nat.le_of_ble_eq_true rfl) rfl rfl,
   by intros; exact eq_ic0 rfl,
   by intros; exact eq_push rfl,
   by intros; exact eq_retz rfl,
   by intros; exact eq_ld rfl rfl,
   by intros; exact eq_ld rfl rfl,
   by intros; exact eq_ld rfl rfl,
   by intros; exact eq_push rfl,
   by intros; exact eq_i2 (o := mx_add) rfl,
   by intros; exact eq_iald rfl,
   by intros; exact eq_ld rfl rfl,
   by intros; exact eq_ld rfl rfl,
   by intros; exact eq_push rfl,
   by intros; exact eq_i2 (o := mx_add) rfl,
   by intros; exact eq_iald rfl,
   by intros; exact eq_ld rfl rfl,
   by intros; exact eq_ld rfl rfl,
   by intros; exact eq_push rfl,
   by intros; exact eq_i2 (o := mx_add) rfl,
   by intros; exact eq_iald rfl,
   by intros; exact eq_ld rfl rfl,
   by intros; exact eq_ld rfl rfl,
   by intros; exact eq_push rfl,
   by intros; exact eq_i2 (o := mx_add) rfl,
   by intros; exact eq_iald rfl,
   by intros; exact eq_ld rfl rfl,
   by intros; exact eq_ld rfl rfl,
   by intros; exact eq_push rfl,
   by intros; exact eq_i2 (o := mx_add) rfl,
   by intros; exact eq_iald rfl,
   by intros; exact eq_cv rfl rfl (Nat.le_of_ble_eq_true rfl) rfl rfl,
   by intros; exact eq_ld rfl rfl,
   by intros; exact eq_ld rfl rfl,
   by intros; exact eq_ld rfl rfl,
   by intros; exact eq_push rfl,
   by intros; exact eq_i2 (o := mx_add) rfl,
   by intros; exact eq_iald rfl,
   by intros; exact eq_ld rfl rfl,
   by intros; exact eq_ld rfl rfl,
   by intros; exact eq_push rfl,
   by intros; exact eq_i2 (o := mx_add) rfl,
   by intros; exact eq_iald rfl,
   by intros; exact eq_ld rfl rfl,
   by intros; exact eq_ld rfl rfl,
   by intros; exact eq_push rfl,
   by intros; exact eq_i2 (o := mx_add) rfl,
   by intros; exact eq_iald rfl,
   by intros; exact eq_ld rfl rfl,
   by intros; exact eq_ld rfl rfl,
   by intros; exact eq_push rfl,
   by intros; exact eq_i2 (o := mx_add) rfl,
   by intros; exact eq_iald rfl,
   by intros; exact eq_ld rfl rfl,
   by intros; exact eq_ld rfl rfl,
   by intros; exact eq_push rfl,
   by intros; exact eq_i2 (o := mx_add) rfl,
   by intros; exact eq_iald rfl,
   by intros; exact eq_cv rfl rfl (Nat.le_of_ble_eq_true rfl) rfl rfl,
   by intros; exact eq_ic0 rfl,
   by intros; exact eq_push rfl,
   by intros; exact eq_retz rfl,
   by intros; exact eq_ld rfl rfl,
   by intros; exact eq_ld rfl rfl,
   by intros; exact eq_ld rfl rfl,
   by intros; exact eq_push rfl,
   by intros; exact eq_i2 (o := mx_add) rfl,
   by intros; exact eq_iald rfl,
   by intros; exact eq_ld rfl rfl,
   by intros; exact eq_ld rfl rfl⟩
theorem rw_L_law_3 :
  (∀ (d : Nat) (l0 l1 l2 l3 : Option mx_V) (v0 v1 v2 v3 : mx_V) (S h : mx_H) (n : Int), mx_ex d 256 443 [l0, l1, l2, l3] [v0, v1, v2, v3] S h n = mx_ex d 256 444 [l0, l1, l2, l3] [(0, 2), v0, v1, v2, v3] S h n) ∧
  (∀ (d : Nat) (b a : Int) (l0 l1 l2 l3 : Option mx_V) (v2 v3 v4 : mx_V) (S h : mx_H) (n : Int), mx_ex d 256 444 [l0, l1, l2, l3] [(0, b), (0, a), v2, v3, v4] S h n = mx_ex d 256 445 [l0, l1, l2, l3] [(0, mx_w (a + b)), v2, v3, v4] S h n) ∧
  (∀ (d : Nat) (i a : Int) (l0 l1 l2 l3 : Option mx_V) (v2 v3 : mx_V) (S h : mx_H) (n : Int), mx_ex d 256 445 [l0, l1, l2, l3] [(0, i), (2, a), v2, v3] S h n = mx_gd ((S a (-2) = 20 ∨ S a (-2) = 24) ∧ 0 ≤ i ∧ i < S a (-1)) d 256 446 [l0, l1, l2, l3] [(0, h a i), v2, v3] S h n) ∧
  (∀ (d : Nat) (a : Int) (l0 l1 l2 l3 : Option mx_V) (v0 v1 : mx_V) (S h : mx_H) (n : Int), mx_ex (d + 1) 256 446 [l0, l1, l2, l3] [v0, v1, (2, a)] S h n = mx_cl (S a (-2) = 7) d 106 [(2, a), v1, v0] 256 449 [l0, l1, l2, l3] [] S h n) ∧
  (∀ (d : Nat) (x : Int) (l0 l1 l3 : Option mx_V) (v0 : mx_V) (S h : mx_H) (n : Int), mx_ex d 256 449 [l0, l1, some (2, x), l3] [v0] S h n = mx_ex d 256 450 [l0, l1, some (2, x), l3] [(2, x), v0] S h n) ∧
  (∀ (d : Nat) (x : Int) (l1 l2 l3 : Option mx_V) (v0 v1 : mx_V) (S h : mx_H) (n : Int), mx_ex d 256 450 [some (2, x), l1, l2, l3] [v0, v1] S h n = mx_ex d 256 451 [some (2, x), l1, l2, l3] [(2, x), v0, v1] S h n) ∧
  (∀ (d : Nat) (x : Int) (l0 l1 l2 : Option mx_V) (v0 v1 v2 : mx_V) (S h : mx_H) (n : Int), mx_ex d 256 451 [l0, l1, l2, some (0, x)] [v0, v1, v2] S h n = mx_ex d 256 452 [l0, l1, l2, some (0, x)] [(0, x), v0, v1, v2] S h n) ∧
  (∀ (d : Nat) (l0 l1 l2 l3 : Option mx_V) (v0 v1 v2 v3 : mx_V) (S h : mx_H) (n : Int), mx_ex d 256 452 [l0, l1, l2, l3] [v0, v1, v2, v3] S h n = mx_ex d 256 453 [l0, l1, l2, l3] [(0, 1), v0, v1, v2, v3] S h n) ∧
  (∀ (d : Nat) (b a : Int) (l0 l1 l2 l3 : Option mx_V) (v2 v3 v4 : mx_V) (S h : mx_H) (n : Int), mx_ex d 256 453 [l0, l1, l2, l3] [(0, b), (0, a), v2, v3, v4] S h n = mx_ex d 256 454 [l0, l1, l2, l3] [(0, mx_w (a + b)), v2, v3, v4] S h n) ∧
  (∀ (d : Nat) (i a : Int) (l0 l1 l2 l3 : Option mx_V) (v2 v3 : mx_V) (S h : mx_H) (n : Int), mx_ex d 256 454 [l0, l1, l2, l3] [(0, i), (2, a), v2, v3] S h n = mx_gd ((S a (-2) = 20 ∨ S a (-2) = 24) ∧ 0 ≤ i ∧ i < S a (-1)) d 256 455 [l0, l1, l2, l3] [(0, h a i), v2, v3] S h n) ∧
  (∀ (d : Nat) (x : Int) (l1 l2 l3 : Option mx_V) (v0 v1 v2 : mx_V) (S h : mx_H) (n : Int), mx_ex d 256 455 [some (2, x), l1, l2, l3] [v0, v1, v2] S h n = mx_ex d 256 456 [some (2, x), l1, l2, l3] [(2, x), v0, v1, v2] S h n) ∧
  (∀ (d : Nat) (x : Int) (l0 l1 l2 : Option mx_V) (v0 v1 v2 v3 : mx_V) (S h : mx_H) (n : Int), mx_ex d 256 456 [l0, l1, l2, some (0, x)] [v0, v1, v2, v3] S h n = mx_ex d 256 457 [l0, l1, l2, some (0, x)] [(0, x), v0, v1, v2, v3] S h n) ∧
  (∀ (d : Nat) (l0 l1 l2 l3 : Option mx_V) (v0 v1 v2 v3 v4 : mx_V) (S h : mx_H) (n : Int), mx_ex d 256 457 [l0, l1, l2, l3] [v0, v1, v2, v3, v4] S h n = mx_ex d 256 458 [l0, l1, l2, l3] [(0, 2), v0, v1, v2, v3, v4] S h n) ∧
  (∀ (d : Nat) (b a : Int) (l0 l1 l2 l3 : Option mx_V) (v2 v3 v4 v5 : mx_V) (S h : mx_H) (n : Int), mx_ex d 256 458 [l0, l1, l2, l3] [(0, b), (0, a), v2, v3, v4, v5] S h n = mx_ex d 256 459 [l0, l1, l2, l3] [(0, mx_w (a + b)), v2, v3, v4, v5] S h n) ∧
  (∀ (d : Nat) (i a : Int) (l0 l1 l2 l3 : Option mx_V) (v2 v3 v4 : mx_V) (S h : mx_H) (n : Int), mx_ex d 256 459 [l0, l1, l2, l3] [(0, i), (2, a), v2, v3, v4] S h n = mx_gd ((S a (-2) = 20 ∨ S a (-2) = 24) ∧ 0 ≤ i ∧ i < S a (-1)) d 256 460 [l0, l1, l2, l3] [(0, h a i), v2, v3, v4] S h n) ∧
  (∀ (d : Nat) (a : Int) (l0 l1 l2 l3 : Option mx_V) (v0 v1 v3 : mx_V) (S h : mx_H) (n : Int), mx_ex (d + 1) 256 460 [l0, l1, l2, l3] [v0, v1, (2, a), v3] S h n = mx_cl (S a (-2) = 13) d 180 [(2, a), v1, v0] 256 463 [l0, l1, l2, l3] [v3] S h n) ∧
  (∀ (d : Nat) (b a : Int) (l0 l1 l2 l3 : Option mx_V) (S h : mx_H) (n : Int), mx_ex d 256 463 [l0, l1, l2, l3] [(0, b), (0, a)] S h n = mx_br (a = b) d 256 1653 466 [l0, l1, l2, l3] [] S h n) ∧
  (∀ (d : Nat) (l0 l1 l2 l3 : Option mx_V) (S h : mx_H) (n : Int), mx_ex d 256 466 [l0, l1, l2, l3] [] S h n = mx_ex d 256 467 [l0, l1, l2, l3] [(0, 0)] S h n) ∧
  (∀ (d : Nat) (x : Int) (l0 l1 l2 l3 : Option mx_V) (S h : mx_H) (n : Int), mx_ex d 256 467 [l0, l1, l2, l3] [(0, x)] S h n = mx_re (0 ≤ x ∧ x ≤ 1) (some (0, x)) S h n) ∧
  (∀ (d : Nat) (x : Int) (l0 l2 l3 : Option mx_V) (S h : mx_H) (n : Int), mx_ex d 256 468 [l0, some (2, x), l2, l3] [] S h n = mx_ex d 256 469 [l0, some (2, x), l2, l3] [(2, x)] S h n) ∧
  (∀ (d : Nat) (x : Int) (l1 l2 l3 : Option mx_V) (v0 : mx_V) (S h : mx_H) (n : Int), mx_ex d 256 469 [some (2, x), l1, l2, l3] [v0] S h n = mx_ex d 256 470 [some (2, x), l1, l2, l3] [(2, x), v0] S h n) ∧
  (∀ (d : Nat) (x : Int) (l0 l1 l2 : Option mx_V) (v0 v1 : mx_V) (S h : mx_H) (n : Int), mx_ex d 256 470 [l0, l1, l2, some (0, x)] [v0, v1] S h n = mx_ex d 256 471 [l0, l1, l2, some (0, x)] [(0, x), v0, v1] S h n) ∧
  (∀ (d : Nat) (l0 l1 l2 l3 : Option mx_V) (v0 v1 v2 : mx_V) (S h : mx_H) (n : Int), mx_ex d 256 471 [l0, l1, l2, l3] [v0, v1, v2] S h n = mx_ex d 256 472 [l0, l1, l2, l3] [(0, 1), v0, v1, v2] S h n) ∧
  (∀ (d : Nat) (b a : Int) (l0 l1 l2 l3 : Option mx_V) (v2 v3 : mx_V) (S h : mx_H) (n : Int), mx_ex d 256 472 [l0, l1, l2, l3] [(0, b), (0, a), v2, v3] S h n = mx_ex d 256 473 [l0, l1, l2, l3] [(0, mx_w (a + b)), v2, v3] S h n) ∧
  (∀ (d : Nat) (i a : Int) (l0 l1 l2 l3 : Option mx_V) (v2 : mx_V) (S h : mx_H) (n : Int), mx_ex d 256 473 [l0, l1, l2, l3] [(0, i), (2, a), v2] S h n = mx_gd ((S a (-2) = 20 ∨ S a (-2) = 24) ∧ 0 ≤ i ∧ i < S a (-1)) d 256 474 [l0, l1, l2, l3] [(0, h a i), v2] S h n) ∧
  (∀ (d : Nat) (x : Int) (l1 l2 l3 : Option mx_V) (v0 v1 : mx_V) (S h : mx_H) (n : Int), mx_ex d 256 474 [some (2, x), l1, l2, l3] [v0, v1] S h n = mx_ex d 256 475 [some (2, x), l1, l2, l3] [(2, x), v0, v1] S h n) ∧
  (∀ (d : Nat) (x : Int) (l0 l1 l2 : Option mx_V) (v0 v1 v2 : mx_V) (S h : mx_H) (n : Int), mx_ex d 256 475 [l0, l1, l2, some (0, x)] [v0, v1, v2] S h n = mx_ex d 256 476 [l0, l1, l2, some (0, x)] [(0, x), v0, v1, v2] S h n) ∧
  (∀ (d : Nat) (l0 l1 l2 l3 : Option mx_V) (v0 v1 v2 v3 : mx_V) (S h : mx_H) (n : Int), mx_ex d 256 476 [l0, l1, l2, l3] [v0, v1, v2, v3] S h n = mx_ex d 256 477 [l0, l1, l2, l3] [(0, 2), v0, v1, v2, v3] S h n) ∧
  (∀ (d : Nat) (b a : Int) (l0 l1 l2 l3 : Option mx_V) (v2 v3 v4 : mx_V) (S h : mx_H) (n : Int), mx_ex d 256 477 [l0, l1, l2, l3] [(0, b), (0, a), v2, v3, v4] S h n = mx_ex d 256 478 [l0, l1, l2, l3] [(0, mx_w (a + b)), v2, v3, v4] S h n) ∧
  (∀ (d : Nat) (i a : Int) (l0 l1 l2 l3 : Option mx_V) (v2 v3 : mx_V) (S h : mx_H) (n : Int), mx_ex d 256 478 [l0, l1, l2, l3] [(0, i), (2, a), v2, v3] S h n = mx_gd ((S a (-2) = 20 ∨ S a (-2) = 24) ∧ 0 ≤ i ∧ i < S a (-1)) d 256 479 [l0, l1, l2, l3] [(0, h a i), v2, v3] S h n) ∧
  (∀ (d : Nat) (x : Int) (l1 l2 l3 : Option mx_V) (v0 v1 v2 : mx_V) (S h : mx_H) (n : Int), mx_ex d 256 479 [some (2, x), l1, l2, l3] [v0, v1, v2] S h n = mx_ex d 256 480 [some (2, x), l1, l2, l3] [(2, x), v0, v1, v2] S h n) ∧
  (∀ (d : Nat) (x : Int) (l0 l1 l2 : Option mx_V) (v0 v1 v2 v3 : mx_V) (S h : mx_H) (n : Int), mx_ex d 256 480 [l0, l1, l2, some (0, x)] [v0, v1, v2, v3] S h n = mx_ex d 256 481 [l0, l1, l2, some (0, x)] [(0, x), v0, v1, v2, v3] S h n) ∧
  (∀ (d : Nat) (l0 l1 l2 l3 : Option mx_V) (v0 v1 v2 v3 v4 : mx_V) (S h : mx_H) (n : Int), mx_ex d 256 481 [l0, l1, l2, l3] [v0, v1, v2, v3, v4] S h n = mx_ex d 256 482 [l0, l1, l2, l3] [(0, 3), v0, v1, v2, v3, v4] S h n) ∧
  (∀ (d : Nat) (b a : Int) (l0 l1 l2 l3 : Option mx_V) (v2 v3 v4 v5 : mx_V) (S h : mx_H) (n : Int), mx_ex d 256 482 [l0, l1, l2, l3] [(0, b), (0, a), v2, v3, v4, v5] S h n = mx_ex d 256 483 [l0, l1, l2, l3] [(0, mx_w (a + b)), v2, v3, v4, v5] S h n) ∧
  (∀ (d : Nat) (i a : Int) (l0 l1 l2 l3 : Option mx_V) (v2 v3 v4 : mx_V) (S h : mx_H) (n : Int), mx_ex d 256 483 [l0, l1, l2, l3] [(0, i), (2, a), v2, v3, v4] S h n = mx_gd ((S a (-2) = 20 ∨ S a (-2) = 24) ∧ 0 ≤ i ∧ i < S a (-1)) d 256 484 [l0, l1, l2, l3] [(0, h a i), v2, v3, v4] S h n) ∧
  (∀ (d : Nat) (a : Int) (l0 l1 l2 l3 : Option mx_V) (v0 v1 v2 : mx_V) (S h : mx_H) (n : Int), mx_ex (d + 1) 256 484 [l0, l1, l2, l3] [v0, v1, v2, (2, a)] S h n = mx_cl (S a (-2) = 7) d 107 [(2, a), v2, v1, v0] 256 487 [l0, l1, l2, l3] [] S h n) ∧
  (∀ (d : Nat) (x : Int) (l0 l1 l3 : Option mx_V) (v0 : mx_V) (S h : mx_H) (n : Int), mx_ex d 256 487 [l0, l1, some (2, x), l3] [v0] S h n = mx_ex d 256 488 [l0, l1, some (2, x), l3] [(2, x), v0] S h n) ∧
  (∀ (d : Nat) (x : Int) (l1 l2 l3 : Option mx_V) (v0 v1 : mx_V) (S h : mx_H) (n : Int), mx_ex d 256 488 [some (2, x), l1, l2, l3] [v0, v1] S h n = mx_ex d 256 489 [some (2, x), l1, l2, l3] [(2, x), v0, v1] S h n) ∧
  (∀ (d : Nat) (x : Int) (l0 l1 l2 : Option mx_V) (v0 v1 v2 : mx_V) (S h : mx_H) (n : Int), mx_ex d 256 489 [l0, l1, l2, some (0, x)] [v0, v1, v2] S h n = mx_ex d 256 490 [l0, l1, l2, some (0, x)] [(0, x), v0, v1, v2] S h n) ∧
  (∀ (d : Nat) (l0 l1 l2 l3 : Option mx_V) (v0 v1 v2 v3 : mx_V) (S h : mx_H) (n : Int), mx_ex d 256 490 [l0, l1, l2, l3] [v0, v1, v2, v3] S h n = mx_ex d 256 491 [l0, l1, l2, l3] [(0, 1), v0, v1, v2, v3] S h n) ∧
  (∀ (d : Nat) (b a : Int) (l0 l1 l2 l3 : Option mx_V) (v2 v3 v4 : mx_V) (S h : mx_H) (n : Int), mx_ex d 256 491 [l0, l1, l2, l3] [(0, b), (0, a), v2, v3, v4] S h n = mx_ex d 256 492 [l0, l1, l2, l3] [(0, mx_w (a + b)), v2, v3, v4] S h n) ∧
  (∀ (d : Nat) (i a : Int) (l0 l1 l2 l3 : Option mx_V) (v2 v3 : mx_V) (S h : mx_H) (n : Int), mx_ex d 256 492 [l0, l1, l2, l3] [(0, i), (2, a), v2, v3] S h n = mx_gd ((S a (-2) = 20 ∨ S a (-2) = 24) ∧ 0 ≤ i ∧ i < S a (-1)) d 256 493 [l0, l1, l2, l3] [(0, h a i), v2, v3] S h n) ∧
  (∀ (d : Nat) (x : Int) (l1 l2 l3 : Option mx_V) (v0 v1 v2 : mx_V) (S h : mx_H) (n : Int), mx_ex d 256 493 [some (2, x), l1, l2, l3] [v0, v1, v2] S h n = mx_ex d 256 494 [some (2, x), l1, l2, l3] [(2, x), v0, v1, v2] S h n) ∧
  (∀ (d : Nat) (x : Int) (l0 l1 l2 : Option mx_V) (v0 v1 v2 v3 : mx_V) (S h : mx_H) (n : Int), mx_ex d 256 494 [l0, l1, l2, some (0, x)] [v0, v1, v2, v3] S h n = mx_ex d 256 495 [l0, l1, l2, some (0, x)] [(0, x), v0, v1, v2, v3] S h n) ∧
  (∀ (d : Nat) (l0 l1 l2 l3 : Option mx_V) (v0 v1 v2 v3 v4 : mx_V) (S h : mx_H) (n : Int), mx_ex d 256 495 [l0, l1, l2, l3] [v0, v1, v2, v3, v4] S h n = mx_ex d 256 496 [l0, l1, l2, l3] [(0, 2), v0, v1, v2, v3, v4] S h n) ∧
  (∀ (d : Nat) (b a : Int) (l0 l1 l2 l3 : Option mx_V) (v2 v3 v4 v5 : mx_V) (S h : mx_H) (n : Int), mx_ex d 256 496 [l0, l1, l2, l3] [(0, b), (0, a), v2, v3, v4, v5] S h n = mx_ex d 256 497 [l0, l1, l2, l3] [(0, mx_w (a + b)), v2, v3, v4, v5] S h n) ∧
  (∀ (d : Nat) (i a : Int) (l0 l1 l2 l3 : Option mx_V) (v2 v3 v4 : mx_V) (S h : mx_H) (n : Int), mx_ex d 256 497 [l0, l1, l2, l3] [(0, i), (2, a), v2, v3, v4] S h n = mx_gd ((S a (-2) = 20 ∨ S a (-2) = 24) ∧ 0 ≤ i ∧ i < S a (-1)) d 256 498 [l0, l1, l2, l3] [(0, h a i), v2, v3, v4] S h n) ∧
  (∀ (d : Nat) (x : Int) (l1 l2 l3 : Option mx_V) (v0 v1 v2 v3 : mx_V) (S h : mx_H) (n : Int), mx_ex d 256 498 [some (2, x), l1, l2, l3] [v0, v1, v2, v3] S h n = mx_ex d 256 499 [some (2, x), l1, l2, l3] [(2, x), v0, v1, v2, v3] S h n) ∧
  (∀ (d : Nat) (x : Int) (l0 l1 l2 : Option mx_V) (v0 v1 v2 v3 v4 : mx_V) (S h : mx_H) (n : Int), mx_ex d 256 499 [l0, l1, l2, some (0, x)] [v0, v1, v2, v3, v4] S h n = mx_ex d 256 500 [l0, l1, l2, some (0, x)] [(0, x), v0, v1, v2, v3, v4] S h n) ∧
  (∀ (d : Nat) (l0 l1 l2 l3 : Option mx_V) (v0 v1 v2 v3 v4 v5 : mx_V) (S h : mx_H) (n : Int), mx_ex d 256 500 [l0, l1, l2, l3] [v0, v1, v2, v3, v4, v5] S h n = mx_ex d 256 501 [l0, l1, l2, l3] [(0, 3), v0, v1, v2, v3, v4, v5] S h n) ∧
  (∀ (d : Nat) (b a : Int) (l0 l1 l2 l3 : Option mx_V) (v2 v3 v4 v5 v6 : mx_V) (S h : mx_H) (n : Int), mx_ex d 256 501 [l0, l1, l2, l3] [(0, b), (0, a), v2, v3, v4, v5, v6] S h n = mx_ex d 256 502 [l0, l1, l2, l3] [(0, mx_w (a + b)), v2, v3, v4, v5, v6] S h n) ∧
  (∀ (d : Nat) (i a : Int) (l0 l1 l2 l3 : Option mx_V) (v2 v3 v4 v5 : mx_V) (S h : mx_H) (n : Int), mx_ex d 256 502 [l0, l1, l2, l3] [(0, i), (2, a), v2, v3, v4, v5] S h n = mx_gd ((S a (-2) = 20 ∨ S a (-2) = 24) ∧ 0 ≤ i ∧ i < S a (-1)) d 256 503 [l0, l1, l2, l3] [(0, h a i), v2, v3, v4, v5] S h n) ∧
  (∀ (d : Nat) (a : Int) (l0 l1 l2 l3 : Option mx_V) (v0 v1 v2 v4 : mx_V) (S h : mx_H) (n : Int), mx_ex (d + 1) 256 503 [l0, l1, l2, l3] [v0, v1, v2, (2, a), v4] S h n = mx_cl (S a (-2) = 13) d 182 [(2, a), v2, v1, v0] 256 506 [l0, l1, l2, l3] [v4] S h n) ∧
  (∀ (d : Nat) (b a : Int) (l0 l1 l2 l3 : Option mx_V) (S h : mx_H) (n : Int), mx_ex d 256 506 [l0, l1, l2, l3] [(0, b), (0, a)] S h n = mx_br (a = b) d 256 1653 509 [l0, l1, l2, l3] [] S h n) ∧
  (∀ (d : Nat) (l0 l1 l2 l3 : Option mx_V) (S h : mx_H) (n : Int), mx_ex d 256 509 [l0, l1, l2, l3] [] S h n = mx_ex d 256 510 [l0, l1, l2, l3] [(0, 0)] S h n) ∧
  (∀ (d : Nat) (x : Int) (l0 l1 l2 l3 : Option mx_V) (S h : mx_H) (n : Int), mx_ex d 256 510 [l0, l1, l2, l3] [(0, x)] S h n = mx_re (0 ≤ x ∧ x ≤ 1) (some (0, x)) S h n) ∧
  (∀ (d : Nat) (x : Int) (l0 l2 l3 : Option mx_V) (S h : mx_H) (n : Int), mx_ex d 256 511 [l0, some (2, x), l2, l3] [] S h n = mx_ex d 256 512 [l0, some (2, x), l2, l3] [(2, x)] S h n) ∧
  (∀ (d : Nat) (x : Int) (l1 l2 l3 : Option mx_V) (v0 : mx_V) (S h : mx_H) (n : Int), mx_ex d 256 512 [some (2, x), l1, l2, l3] [v0] S h n = mx_ex d 256 513 [some (2, x), l1, l2, l3] [(2, x), v0] S h n) ∧
  (∀ (d : Nat) (x : Int) (l0 l1 l2 : Option mx_V) (v0 v1 : mx_V) (S h : mx_H) (n : Int), mx_ex d 256 513 [l0, l1, l2, some (0, x)] [v0, v1] S h n = mx_ex d 256 514 [l0, l1, l2, some (0, x)] [(0, x), v0, v1] S h n) ∧
  (∀ (d : Nat) (l0 l1 l2 l3 : Option mx_V) (v0 v1 v2 : mx_V) (S h : mx_H) (n : Int), mx_ex d 256 514 [l0, l1, l2, l3] [v0, v1, v2] S h n = mx_ex d 256 515 [l0, l1, l2, l3] [(0, 1), v0, v1, v2] S h n) ∧
  (∀ (d : Nat) (b a : Int) (l0 l1 l2 l3 : Option mx_V) (v2 v3 : mx_V) (S h : mx_H) (n : Int), mx_ex d 256 515 [l0, l1, l2, l3] [(0, b), (0, a), v2, v3] S h n = mx_ex d 256 516 [l0, l1, l2, l3] [(0, mx_w (a + b)), v2, v3] S h n) ∧
  (∀ (d : Nat) (i a : Int) (l0 l1 l2 l3 : Option mx_V) (v2 : mx_V) (S h : mx_H) (n : Int), mx_ex d 256 516 [l0, l1, l2, l3] [(0, i), (2, a), v2] S h n = mx_gd ((S a (-2) = 20 ∨ S a (-2) = 24) ∧ 0 ≤ i ∧ i < S a (-1)) d 256 517 [l0, l1, l2, l3] [(0, h a i), v2] S h n) ∧
  (∀ (d : Nat) (x : Int) (l1 l2 l3 : Option mx_V) (v0 v1 : mx_V) (S h : mx_H) (n : Int), mx_ex d 256 517 [some (2, x), l1, l2, l3] [v0, v1] S h n = mx_ex d 256 518 [some (2, x), l1, l2, l3] [(2, x), v0, v1] S h n) ∧
  (∀ (d : Nat) (x : Int) (l0 l1 l2 : Option mx_V) (v0 v1 v2 : mx_V) (S h : mx_H) (n : Int), mx_ex d 256 518 [l0, l1, l2, some (0, x)] [v0, v1, v2] S h n = mx_ex d 256 519 [l0, l1, l2, some (0, x)] [(0, x), v0, v1, v2] S h n) ∧
  (∀ (d : Nat) (l0 l1 l2 l3 : Option mx_V) (v0 v1 v2 v3 : mx_V) (S h : mx_H) (n : Int), mx_ex d 256 519 [l0, l1, l2, l3] [v0, v1, v2, v3] S h n = mx_ex d 256 520 [l0, l1, l2, l3] [(0, 2), v0, v1, v2, v3] S h n) ∧
  (∀ (d : Nat) (b a : Int) (l0 l1 l2 l3 : Option mx_V) (v2 v3 v4 : mx_V) (S h : mx_H) (n : Int), mx_ex d 256 520 [l0, l1, l2, l3] [(0, b), (0, a), v2, v3, v4] S h n = mx_ex d 256 521 [l0, l1, l2, l3] [(0, mx_w (a + b)), v2, v3, v4] S h n) ∧
  (∀ (d : Nat) (i a : Int) (l0 l1 l2 l3 : Option mx_V) (v2 v3 : mx_V) (S h : mx_H) (n : Int), mx_ex d 256 521 [l0, l1, l2, l3] [(0, i), (2, a), v2, v3] S h n = mx_gd ((S a (-2) = 20 ∨ S a (-2) = 24) ∧ 0 ≤ i ∧ i < S a (-1)) d 256 522 [l0, l1, l2, l3] [(0, h a i), v2, v3] S h n) ∧
  (∀ (d : Nat) (a : Int) (l0 l1 l2 l3 : Option mx_V) (v0 v1 : mx_V) (S h : mx_H) (n : Int), mx_ex (d + 1) 256 522 [l0, l1, l2, l3] [v0, v1, (2, a)] S h n = mx_cl (S a (-2) = 7) d 108 [(2, a), v1, v0] 256 525 [l0, l1, l2, l3] [] S h n) ∧
  (∀ (d : Nat) (x : Int) (l0 l1 l3 : Option mx_V) (v0 : mx_V) (S h : mx_H) (n : Int), mx_ex d 256 525 [l0, l1, some (2, x), l3] [v0] S h n = mx_ex d 256 526 [l0, l1, some (2, x), l3] [(2, x), v0] S h n) ∧
  (∀ (d : Nat) (x : Int) (l1 l2 l3 : Option mx_V) (v0 v1 : mx_V) (S h : mx_H) (n : Int), mx_ex d 256 526 [some (2, x), l1, l2, l3] [v0, v1] S h n = mx_ex d 256 527 [some (2, x), l1, l2, l3] [(2, x), v0, v1] S h n) :=
  ⟨by intros; exact eq_push rfl,
   by intros; exact eq_i2 (o := mx_add) rfl,
   by intros; exact eq_iald rfl,
   by intros; exact eq_cv rfl rfl (Nat.le_of_ble_eq_true rfl) rfl rfl,
   by intros; exact eq_ld rfl rfl,
   by intros; exact eq_ld rfl rfl,
   by intros; exact eq_ld rfl rfl,
   by intros; exact eq_push rfl,
   by intros; exact eq_i2 (o := mx_add) rfl,
   by intros; exact eq_iald rfl,
   by intros; exact eq_ld rfl rfl,
   by intros; exact eq_ld rfl rfl,
   by intros; exact eq_push rfl,
   by intros; exact eq_i2 (o := mx_add) rfl,
   by intros; exact eq_iald rfl,
   by intros; exact eq_cv rfl rfl (Nat.le_of_ble_eq_true rfl) rfl rfl,
   by intros; exact eq_ic0 rfl,
   by intros; exact eq_push rfl,
   by intros; exact eq_retz rfl,
   by intros; exact eq_ld rfl rfl,
   by intros; exact eq_ld rfl rfl,
   by intros; exact eq_ld rfl rfl,
   by intros; exact eq_push rfl,
   by intros; exact eq_i2 (o := mx_add) rfl,
   by intros; exact eq_iald rfl,
   by intros; exact eq_ld rfl rfl,
   by intros; exact eq_ld rfl rfl,
   by intros; exact eq_push rfl,
   by intros; exact eq_i2 (o := mx_add) rfl,
   by intros; exact eq_iald rfl,
   by intros; exact eq_ld rfl rfl,
   by intros; exact eq_ld rfl rfl,
   by intros; exact eq_push rfl,
   by intros; exact eq_i2 (o := mx_add) rfl,
   by intros; exact eq_iald rfl,
   by intros; exact eq_cv rfl rfl (Nat.le_of_ble_eq_true rfl) rfl rfl,
   by intros; exact eq_ld rfl rfl,
   by intros; exact eq_ld rfl rfl,
   by intros; exact eq_ld rfl rfl,
   by intros; exact eq_push rfl,
   by intros; exact eq_i2 (o := mx_add) rfl,
   by intros; exact eq_iald rfl,
   by intros; exact eq_ld rfl rfl,
   by intros; exact eq_ld rfl rfl,
   by intros; exact eq_push rfl,
   by intros; exact eq_i2 (o := mx_add) rfl,
   by intros; exact eq_iald rfl,
   by intros; exact eq_ld rfl rfl,
   by intros; exact eq_ld rfl rfl,
   by intros; exact eq_push rfl,
   by intros; exact eq_i2 (o := mx_add) rfl,
   by intros; exact eq_iald rfl,
   by intros; exact eq_cv rfl rfl (Nat.le_of_ble_eq_true rfl) rfl rfl,
   by intros; exact eq_ic0 rfl,
   by intros; exact eq_push rfl,
   by intros; exact eq_retz rfl,
   by intros; exact eq_ld rfl rfl,
   by intros; exact eq_ld rfl rfl,
   by intros; exact eq_ld rfl rfl,
   by intros; exact eq_push rfl,
   by intros; exact eq_i2 (o := mx_add) rfl,
   by intros; exact eq_iald rfl,
   by intros; exact eq_ld rfl rfl,
   by intros; exact eq_ld rfl rfl,
   by intros; exact eq_push rfl,
   by intros; exact eq_i2 (o := mx_add) rfl,
   by intros; exact eq_iald rfl,
   by intros; exact eq_cv rfl rfl (Nat.le_of_ble_eq_true rfl) rfl rfl,
   by intros; exact eq_ld rfl rfl,
   by intros; exact eq_ld rfl rfl⟩
theorem rw_L_law_4 :
  (∀ (d : Nat) (x : Int) (l0 l1 l2 : Option mx_V) (v0 v1 v2 : mx_V) (S h : mx_H) (n : Int), mx_ex d 256 527 [l0, l1, l2, some (0, x)] [v0, v1, v2] S h n = mx_ex d 256 528 [l0, l1, l2, some (0, x)] [(0, x), v0, v1, v2] S h n) ∧
  (∀ (d : Nat) (l0 l1 l2 l3 : Option mx_V) (v0 v1 v2 v3 : mx_V) (S h : mx_H) (n : Int), mx_ex d 256 528 [l0, l1, l2, l3] [v0, v1, v2, v3] S h n = mx_ex d 256 529 [l0, l1, l2, l3] [(0, 1), v0, v1, v2, v3] S h n) ∧
  (∀ (d : Nat) (b a : Int) (l0 l1 l2 l3 : Option mx_V) (v2 v3 v4 : mx_V) (S h : mx_H) (n : Int), mx_ex d 256 529 [l0, l1, l2, l3] [(0, b), (0, a), v2, v3, v4] S h n = mx_ex d 256 530 [l0, l1, l2, l3] [(0, mx_w (a + b)), v2, v3, v4] S h n) ∧
  (∀ (d : Nat) (i a : Int) (l0 l1 l2 l3 : Option mx_V) (v2 v3 : mx_V) (S h : mx_H) (n : Int), mx_ex d 256 530 [l0, l1, l2, l3] [(0, i), (2, a), v2, v3] S h n = mx_gd ((S a (-2) = 20 ∨ S a (-2) = 24) ∧ 0 ≤ i ∧ i < S a (-1)) d 256 531 [l0, l1, l2, l3] [(0, h a i), v2, v3] S h n) ∧
  (∀ (d : Nat) (x : Int) (l1 l2 l3 : Option mx_V) (v0 v1 v2 : mx_V) (S h : mx_H) (n : Int), mx_ex d 256 531 [some (2, x), l1, l2, l3] [v0, v1, v2] S h n = mx_ex d 256 532 [some (2, x), l1, l2, l3] [(2, x), v0, v1, v2] S h n) ∧
  (∀ (d : Nat) (x : Int) (l0 l1 l2 : Option mx_V) (v0 v1 v2 v3 : mx_V) (S h : mx_H) (n : Int), mx_ex d 256 532 [l0, l1, l2, some (0, x)] [v0, v1, v2, v3] S h n = mx_ex d 256 533 [l0, l1, l2, some (0, x)] [(0, x), v0, v1, v2, v3] S h n) ∧
  (∀ (d : Nat) (l0 l1 l2 l3 : Option mx_V) (v0 v1 v2 v3 v4 : mx_V) (S h : mx_H) (n : Int), mx_ex d 256 533 [l0, l1, l2, l3] [v0, v1, v2, v3, v4] S h n = mx_ex d 256 534 [l0, l1, l2, l3] [(0, 2), v0, v1, v2, v3, v4] S h n) ∧
  (∀ (d : Nat) (b a : Int) (l0 l1 l2 l3 : Option mx_V) (v2 v3 v4 v5 : mx_V) (S h : mx_H) (n : Int), mx_ex d 256 534 [l0, l1, l2, l3] [(0, b), (0, a), v2, v3, v4, v5] S h n = mx_ex d 256 535 [l0, l1, l2, l3] [(0, mx_w (a + b)), v2, v3, v4, v5] S h n) ∧
  (∀ (d : Nat) (i a : Int) (l0 l1 l2 l3 : Option mx_V) (v2 v3 v4 : mx_V) (S h : mx_H) (n : Int), mx_ex d 256 535 [l0, l1, l2, l3] [(0, i), (2, a), v2, v3, v4] S h n = mx_gd ((S a (-2) = 20 ∨ S a (-2) = 24) ∧ 0 ≤ i ∧ i < S a (-1)) d 256 536 [l0, l1, l2, l3] [(0, h a i), v2, v3, v4] S h n) ∧
  (∀ (d : Nat) (a : Int) (l0 l1 l2 l3 : Option mx_V) (v0 v1 v3 : mx_V) (S h : mx_H) (n : Int), mx_ex (d + 1) 256 536 [l0, l1, l2, l3] [v0, v1, (2, a), v3] S h n = mx_cl (S a (-2) = 13) d 183 [(2, a), v1, v0] 256 539 [l0, l1, l2, l3] [v3] S h n) ∧
  (∀ (d : Nat) (b a : Int) (l0 l1 l2 l3 : Option mx_V) (S h : mx_H) (n : Int), mx_ex d 256 539 [l0, l1, l2, l3] [(0, b), (0, a)] S h n = mx_br (a = b) d 256 1653 542 [l0, l1, l2, l3] [] S h n) ∧
  (∀ (d : Nat) (l0 l1 l2 l3 : Option mx_V) (S h : mx_H) (n : Int), mx_ex d 256 542 [l0, l1, l2, l3] [] S h n = mx_ex d 256 543 [l0, l1, l2, l3] [(0, 0)] S h n) ∧
  (∀ (d : Nat) (x : Int) (l0 l1 l2 l3 : Option mx_V) (S h : mx_H) (n : Int), mx_ex d 256 543 [l0, l1, l2, l3] [(0, x)] S h n = mx_re (0 ≤ x ∧ x ≤ 1) (some (0, x)) S h n) ∧
  (∀ (d : Nat) (x : Int) (l0 l2 l3 : Option mx_V) (S h : mx_H) (n : Int), mx_ex d 256 544 [l0, some (2, x), l2, l3] [] S h n = mx_ex d 256 545 [l0, some (2, x), l2, l3] [(2, x)] S h n) ∧
  (∀ (d : Nat) (x : Int) (l1 l2 l3 : Option mx_V) (v0 : mx_V) (S h : mx_H) (n : Int), mx_ex d 256 545 [some (2, x), l1, l2, l3] [v0] S h n = mx_ex d 256 546 [some (2, x), l1, l2, l3] [(2, x), v0] S h n) ∧
  (∀ (d : Nat) (x : Int) (l0 l1 l2 : Option mx_V) (v0 v1 : mx_V) (S h : mx_H) (n : Int), mx_ex d 256 546 [l0, l1, l2, some (0, x)] [v0, v1] S h n = mx_ex d 256 547 [l0, l1, l2, some (0, x)] [(0, x), v0, v1] S h n) ∧
  (∀ (d : Nat) (l0 l1 l2 l3 : Option mx_V) (v0 v1 v2 : mx_V) (S h : mx_H) (n : Int), mx_ex d 256 547 [l0, l1, l2, l3] [v0, v1, v2] S h n = mx_ex d 256 548 [l0, l1, l2, l3] [(0, 1), v0, v1, v2] S h n) ∧
  (∀ (d : Nat) (b a : Int) (l0 l1 l2 l3 : Option mx_V) (v2 v3 : mx_V) (S h : mx_H) (n : Int), mx_ex d 256 548 [l0, l1, l2, l3] [(0, b), (0, a), v2, v3] S h n = mx_ex d 256 549 [l0, l1, l2, l3] [(0, mx_w (a + b)), v2, v3] S h n) ∧
  (∀ (d : Nat) (i a : Int) (l0 l1 l2 l3 : Option mx_V) (v2 : mx_V) (S h : mx_H) (n : Int), mx_ex d 256 549 [l0, l1, l2, l3] [(0, i), (2, a), v2] S h n = mx_gd ((S a (-2) = 20 ∨ S a (-2) = 24) ∧ 0 ≤ i ∧ i < S a (-1)) d 256 550 [l0, l1, l2, l3] [(0, h a i), v2] S h n) ∧
  (∀ (d : Nat) (x : Int) (l1 l2 l3 : Option mx_V) (v0 v1 : mx_V) (S h : mx_H) (n : Int), mx_ex d 256 550 [some (2, x), l1, l2, l3] [v0, v1] S h n = mx_ex d 256 551 [some (2, x), l1, l2, l3] [(2, x), v0, v1] S h n) ∧
  (∀ (d : Nat) (x : Int) (l0 l1 l2 : Option mx_V) (v0 v1 v2 : mx_V) (S h : mx_H) (n : Int), mx_ex d 256 551 [l0, l1, l2, some (0, x)] [v0, v1, v2] S h n = mx_ex d 256 552 [l0, l1, l2, some (0, x)] [(0, x), v0, v1, v2] S h n) ∧
  (∀ (d : Nat) (l0 l1 l2 l3 : Option mx_V) (v0 v1 v2 v3 : mx_V) (S h : mx_H) (n : Int), mx_ex d 256 552 [l0, l1, l2, l3] [v0, v1, v2, v3] S h n = mx_ex d 256 553 [l0, l1, l2, l3] [(0, 2), v0, v1, v2, v3] S h n) ∧
  (∀ (d : Nat) (b a : Int) (l0 l1 l2 l3 : Option mx_V) (v2 v3 v4 : mx_V) (S h : mx_H) (n : Int), mx_ex d 256 553 [l0, l1, l2, l3] [(0, b), (0, a), v2, v3, v4] S h n = mx_ex d 256 554 [l0, l1, l2, l3] [(0, mx_w (a + b)), v2, v3, v4] S h n) ∧
  (∀ (d : Nat) (i a : Int) (l0 l1 l2 l3 : Option mx_V) (v2 v3 : mx_V) (S h : mx_H) (n : Int), mx_ex d 256 554 [l0, l1, l2, l3] [(0, i), (2, a), v2, v3] S h n = mx_gd ((S a (-2) = 20 ∨ S a (-2) = 24) ∧ 0 ≤ i ∧ i < S a (-1)) d 256 555 [l0, l1, l2, l3] [(0, h a i), v2, v3] S h n) ∧
  (∀ (d : Nat) (a : Int) (l0 l1 l2 l3 : Option mx_V) (v0 v1 : mx_V) (S h : mx_H) (n : Int), mx_ex (d + 1) 256 555 [l0, l1, l2, l3] [v0, v1, (2, a)] S h n = mx_cl (S a (-2) = 7) d 109 [(2, a), v1, v0] 256 558 [l0, l1, l2, l3] [] S h n) ∧
  (∀ (d : Nat) (x : Int) (l0 l1 l3 : Option mx_V) (v0 : mx_V) (S h : mx_H) (n : Int), mx_ex d 256 558 [l0, l1, some (2, x), l3] [v0] S h n = mx_ex d 256 559 [l0, l1, some (2, x), l3] [(2, x), v0] S h n) ∧
  (∀ (d : Nat) (x : Int) (l1 l2 l3 : Option mx_V) (v0 v1 : mx_V) (S h : mx_H) (n : Int), mx_ex d 256 559 [some (2, x), l1, l2, l3] [v0, v1] S h n = mx_ex d 256 560 [some (2, x), l1, l2, l3] [(2, x), v0, v1] S h n) ∧
  (∀ (d : Nat) (x : Int) (l0 l1 l2 : Option mx_V) (v0 v1 v2 : mx_V) (S h : mx_H) (n : Int), mx_ex d 256 560 [l0, l1, l2, some (0, x)] [v0, v1, v2] S h n = mx_ex d 256 561 [l0, l1, l2, some (0, x)] [(0, x), v0, v1, v2] S h n) ∧
  (∀ (d : Nat) (l0 l1 l2 l3 : Option mx_V) (v0 v1 v2 v3 : mx_V) (S h : mx_H) (n : Int), mx_ex d 256 561 [l0, l1, l2, l3] [v0, v1, v2, v3] S h n = mx_ex d 256 562 [l0, l1, l2, l3] [(0, 1), v0, v1, v2, v3] S h n) ∧
  (∀ (d : Nat) (b a : Int) (l0 l1 l2 l3 : Option mx_V) (v2 v3 v4 : mx_V) (S h : mx_H) (n : Int), mx_ex d 256 562 [l0, l1, l2, l3] [(0, b), (0, a), v2, v3, v4] S h n = mx_ex d 256 563 [l0, l1, l2, l3] [(0, mx_w (a + b)), v2, v3, v4] S h n) ∧
  (∀ (d : Nat) (i a : Int) (l0 l1 l2 l3 : Option mx_V) (v2 v3 : mx_V) (S h : mx_H) (n : Int), mx_ex d 256 563 [l0, l1, l2, l3] [(0, i), (2, a), v2, v3] S h n = mx_gd ((S a (-2) = 20 ∨ S a (-2) = 24) ∧ 0 ≤ i ∧ i < S a (-1)) d 256 564 [l0, l1, l2, l3] [(0, h a i), v2, v3] S h n) ∧
  (∀ (d : Nat) (x : Int) (l1 l2 l3 : Option mx_V) (v0 v1 v2 : mx_V) (S h : mx_H) (n : Int), mx_ex d 256 564 [some (2, x), l1, l2, l3] [v0, v1, v2] S h n = mx_ex d 256 565 [some (2, x), l1, l2, l3] [(2, x), v0, v1, v2] S h n) ∧
  (∀ (d : Nat) (x : Int) (l0 l1 l2 : Option mx_V) (v0 v1 v2 v3 : mx_V) (S h : mx_H) (n : Int), mx_ex d 256 565 [l0, l1, l2, some (0, x)] [v0, v1, v2, v3] S h n = mx_ex d 256 566 [l0, l1, l2, some (0, x)] [(0, x), v0, v1, v2, v3] S h n) ∧
  (∀ (d : Nat) (l0 l1 l2 l3 : Option mx_V) (v0 v1 v2 v3 v4 : mx_V) (S h : mx_H) (n : Int), mx_ex d 256 566 [l0, l1, l2, l3] [v0, v1, v2, v3, v4] S h n = mx_ex d 256 567 [l0, l1, l2, l3] [(0, 2), v0, v1, v2, v3, v4] S h n) ∧
  (∀ (d : Nat) (b a : Int) (l0 l1 l2 l3 : Option mx_V) (v2 v3 v4 v5 : mx_V) (S h : mx_H) (n : Int), mx_ex d 256 567 [l0, l1, l2, l3] [(0, b), (0, a), v2, v3, v4, v5] S h n = mx_ex d 256 568 [l0, l1, l2, l3] [(0, mx_w (a + b)), v2, v3, v4, v5] S h n) ∧
  (∀ (d : Nat) (i a : Int) (l0 l1 l2 l3 : Option mx_V) (v2 v3 v4 : mx_V) (S h : mx_H) (n : Int), mx_ex d 256 568 [l0, l1, l2, l3] [(0, i), (2, a), v2, v3, v4] S h n = mx_gd ((S a (-2) = 20 ∨ S a (-2) = 24) ∧ 0 ≤ i ∧ i < S a (-1)) d 256 569 [l0, l1, l2, l3] [(0, h a i), v2, v3, v4] S h n) ∧
  (∀ (d : Nat) (a : Int) (l0 l1 l2 l3 : Option mx_V) (v0 v1 v3 : mx_V) (S h : mx_H) (n : Int), mx_ex (d + 1) 256 569 [l0, l1, l2, l3] [v0, v1, (2, a), v3] S h n = mx_cl (S a (-2) = 13) d 187 [(2, a), v1, v0] 256 572 [l0, l1, l2, l3] [v3] S h n) ∧
  (∀ (d : Nat) (b a : Int) (l0 l1 l2 l3 : Option mx_V) (S h : mx_H) (n : Int), mx_ex d 256 572 [l0, l1, l2, l3] [(1, b), (1, a)] S h n = mx_ex d 256 573 [l0, l1, l2, l3] [(0, mx_cmp a b)] S h n) ∧
  (∀ (d : Nat) (a : Int) (l0 l1 l2 l3 : Option mx_V) (S h : mx_H) (n : Int), mx_ex d 256 573 [l0, l1, l2, l3] [(0, a)] S h n = mx_br (a = 0) d 256 1653 576 [l0, l1, l2, l3] [] S h n) ∧
  (∀ (d : Nat) (l0 l1 l2 l3 : Option mx_V) (S h : mx_H) (n : Int), mx_ex d 256 576 [l0, l1, l2, l3] [] S h n = mx_ex d 256 577 [l0, l1, l2, l3] [(0, 0)] S h n) ∧
  (∀ (d : Nat) (x : Int) (l0 l1 l2 l3 : Option mx_V) (S h : mx_H) (n : Int), mx_ex d 256 577 [l0, l1, l2, l3] [(0, x)] S h n = mx_re (0 ≤ x ∧ x ≤ 1) (some (0, x)) S h n) ∧
  (∀ (d : Nat) (x : Int) (l0 l2 l3 : Option mx_V) (S h : mx_H) (n : Int), mx_ex d 256 578 [l0, some (2, x), l2, l3] [] S h n = mx_ex d 256 579 [l0, some (2, x), l2, l3] [(2, x)] S h n) ∧
  (∀ (d : Nat) (x : Int) (l1 l2 l3 : Option mx_V) (v0 : mx_V) (S h : mx_H) (n : Int), mx_ex d 256 579 [some (2, x), l1, l2, l3] [v0] S h n = mx_ex d 256 580 [some (2, x), l1, l2, l3] [(2, x), v0] S h n) ∧
  (∀ (d : Nat) (x : Int) (l0 l1 l2 : Option mx_V) (v0 v1 : mx_V) (S h : mx_H) (n : Int), mx_ex d 256 580 [l0, l1, l2, some (0, x)] [v0, v1] S h n = mx_ex d 256 581 [l0, l1, l2, some (0, x)] [(0, x), v0, v1] S h n) ∧
  (∀ (d : Nat) (l0 l1 l2 l3 : Option mx_V) (v0 v1 v2 : mx_V) (S h : mx_H) (n : Int), mx_ex d 256 581 [l0, l1, l2, l3] [v0, v1, v2] S h n = mx_ex d 256 582 [l0, l1, l2, l3] [(0, 1), v0, v1, v2] S h n) ∧
  (∀ (d : Nat) (b a : Int) (l0 l1 l2 l3 : Option mx_V) (v2 v3 : mx_V) (S h : mx_H) (n : Int), mx_ex d 256 582 [l0, l1, l2, l3] [(0, b), (0, a), v2, v3] S h n = mx_ex d 256 583 [l0, l1, l2, l3] [(0, mx_w (a + b)), v2, v3] S h n) ∧
  (∀ (d : Nat) (i a : Int) (l0 l1 l2 l3 : Option mx_V) (v2 : mx_V) (S h : mx_H) (n : Int), mx_ex d 256 583 [l0, l1, l2, l3] [(0, i), (2, a), v2] S h n = mx_gd ((S a (-2) = 20 ∨ S a (-2) = 24) ∧ 0 ≤ i ∧ i < S a (-1)) d 256 584 [l0, l1, l2, l3] [(0, h a i), v2] S h n) ∧
  (∀ (d : Nat) (a : Int) (l0 l1 l2 l3 : Option mx_V) (v0 : mx_V) (S h : mx_H) (n : Int), mx_ex (d + 1) 256 584 [l0, l1, l2, l3] [v0, (2, a)] S h n = mx_cl (S a (-2) = 7) d 110 [(2, a), v0] 256 587 [l0, l1, l2, l3] [] S h n) ∧
  (∀ (d : Nat) (x : Int) (l0 l1 l3 : Option mx_V) (v0 : mx_V) (S h : mx_H) (n : Int), mx_ex d 256 587 [l0, l1, some (2, x), l3] [v0] S h n = mx_ex d 256 588 [l0, l1, some (2, x), l3] [(2, x), v0] S h n) ∧
  (∀ (d : Nat) (x : Int) (l1 l2 l3 : Option mx_V) (v0 v1 : mx_V) (S h : mx_H) (n : Int), mx_ex d 256 588 [some (2, x), l1, l2, l3] [v0, v1] S h n = mx_ex d 256 589 [some (2, x), l1, l2, l3] [(2, x), v0, v1] S h n) ∧
  (∀ (d : Nat) (x : Int) (l0 l1 l2 : Option mx_V) (v0 v1 v2 : mx_V) (S h : mx_H) (n : Int), mx_ex d 256 589 [l0, l1, l2, some (0, x)] [v0, v1, v2] S h n = mx_ex d 256 590 [l0, l1, l2, some (0, x)] [(0, x), v0, v1, v2] S h n) ∧
  (∀ (d : Nat) (l0 l1 l2 l3 : Option mx_V) (v0 v1 v2 v3 : mx_V) (S h : mx_H) (n : Int), mx_ex d 256 590 [l0, l1, l2, l3] [v0, v1, v2, v3] S h n = mx_ex d 256 591 [l0, l1, l2, l3] [(0, 1), v0, v1, v2, v3] S h n) ∧
  (∀ (d : Nat) (b a : Int) (l0 l1 l2 l3 : Option mx_V) (v2 v3 v4 : mx_V) (S h : mx_H) (n : Int), mx_ex d 256 591 [l0, l1, l2, l3] [(0, b), (0, a), v2, v3, v4] S h n = mx_ex d 256 592 [l0, l1, l2, l3] [(0, mx_w (a + b)), v2, v3, v4] S h n) ∧
  (∀ (d : Nat) (i a : Int) (l0 l1 l2 l3 : Option mx_V) (v2 v3 : mx_V) (S h : mx_H) (n : Int), mx_ex d 256 592 [l0, l1, l2, l3] [(0, i), (2, a), v2, v3] S h n = mx_gd ((S a (-2) = 20 ∨ S a (-2) = 24) ∧ 0 ≤ i ∧ i < S a (-1)) d 256 593 [l0, l1, l2, l3] [(0, h a i), v2, v3] S h n) ∧
  (∀ (d : Nat) (a : Int) (l0 l1 l2 l3 : Option mx_V) (v0 v2 : mx_V) (S h : mx_H) (n : Int), mx_ex (d + 1) 256 593 [l0, l1, l2, l3] [v0, (2, a), v2] S h n = mx_cl (S a (-2) = 13) d 188 [(2, a), v0] 256 596 [l0, l1, l2, l3] [v2] S h n) ∧
  (∀ (d : Nat) (b a : Int) (l0 l1 l2 l3 : Option mx_V) (S h : mx_H) (n : Int), mx_ex d 256 596 [l0, l1, l2, l3] [(0, b), (0, a)] S h n = mx_br (a = b) d 256 1653 599 [l0, l1, l2, l3] [] S h n) ∧
  (∀ (d : Nat) (l0 l1 l2 l3 : Option mx_V) (S h : mx_H) (n : Int), mx_ex d 256 599 [l0, l1, l2, l3] [] S h n = mx_ex d 256 600 [l0, l1, l2, l3] [(0, 0)] S h n) ∧
  (∀ (d : Nat) (x : Int) (l0 l1 l2 l3 : Option mx_V) (S h : mx_H) (n : Int), mx_ex d 256 600 [l0, l1, l2, l3] [(0, x)] S h n = mx_re (0 ≤ x ∧ x ≤ 1) (some (0, x)) S h n) ∧
  (∀ (d : Nat) (x : Int) (l0 l2 l3 : Option mx_V) (S h : mx_H) (n : Int), mx_ex d 256 601 [l0, some (2, x), l2, l3] [] S h n = mx_ex d 256 602 [l0, some (2, x), l2, l3] [(2, x)] S h n) ∧
  (∀ (d : Nat) (x : Int) (l1 l2 l3 : Option mx_V) (v0 : mx_V) (S h : mx_H) (n : Int), mx_ex d 256 602 [some (2, x), l1, l2, l3] [v0] S h n = mx_ex d 256 603 [some (2, x), l1, l2, l3] [(2, x), v0] S h n) ∧
  (∀ (d : Nat) (x : Int) (l0 l1 l2 : Option mx_V) (v0 v1 : mx_V) (S h : mx_H) (n : Int), mx_ex d 256 603 [l0, l1, l2, some (0, x)] [v0, v1] S h n = mx_ex d 256 604 [l0, l1, l2, some (0, x)] [(0, x), v0, v1] S h n) ∧
  (∀ (d : Nat) (l0 l1 l2 l3 : Option mx_V) (v0 v1 v2 : mx_V) (S h : mx_H) (n : Int), mx_ex d 256 604 [l0, l1, l2, l3] [v0, v1, v2] S h n = mx_ex d 256 605 [l0, l1, l2, l3] [(0, 1), v0, v1, v2] S h n) ∧
  (∀ (d : Nat) (b a : Int) (l0 l1 l2 l3 : Option mx_V) (v2 v3 : mx_V) (S h : mx_H) (n : Int), mx_ex d 256 605 [l0, l1, l2, l3] [(0, b), (0, a), v2, v3] S h n = mx_ex d 256 606 [l0, l1, l2, l3] [(0, mx_w (a + b)), v2, v3] S h n) ∧
  (∀ (d : Nat) (i a : Int) (l0 l1 l2 l3 : Option mx_V) (v2 : mx_V) (S h : mx_H) (n : Int), mx_ex d 256 606 [l0, l1, l2, l3] [(0, i), (2, a), v2] S h n = mx_gd ((S a (-2) = 20 ∨ S a (-2) = 24) ∧ 0 ≤ i ∧ i < S a (-1)) d 256 607 [l0, l1, l2, l3] [(0, h a i), v2] S h n) ∧
  (∀ (d : Nat) (x : Int) (l1 l2 l3 : Option mx_V) (v0 v1 : mx_V) (S h : mx_H) (n : Int), mx_ex d 256 607 [some (2, x), l1, l2, l3] [v0, v1] S h n = mx_ex d 256 608 [some (2, x), l1, l2, l3] [(2, x), v0, v1] S h n) ∧
  (∀ (d : Nat) (x : Int) (l0 l1 l2 : Option mx_V) (v0 v1 v2 : mx_V) (S h : mx_H) (n : Int), mx_ex d 256 608 [l0, l1, l2, some (0, x)] [v0, v1, v2] S h n = mx_ex d 256 609 [l0, l1, l2, some (0, x)] [(0, x), v0, v1, v2] S h n) ∧
  (∀ (d : Nat) (l0 l1 l2 l3 : Option mx_V) (v0 v1 v2 v3 : mx_V) (S h : mx_H) (n : Int), mx_ex d 256 609 [l0, l1, l2, l3] [v0, v1, v2, v3] S h n = mx_ex d 256 610 [l0, l1, l2, l3] [(0, 2), v0, v1, v2, v3] S h n) ∧
  (∀ (d : Nat) (b a : Int) (l0 l1 l2 l3 : Option mx_V) (v2 v3 v4 : mx_V) (S h : mx_H) (n : Int), mx_ex d 256 610 [l0, l1, l2, l3] [(0, b), (0, a), v2, v3, v4] S h n = mx_ex d 256 611 [l0, l1, l2, l3] [(0, mx_w (a + b)), v2, v3, v4] S h n) ∧
  (∀ (d : Nat) (i a : Int) (l0 l1 l2 l3 : Option mx_V) (v2 v3 : mx_V) (S h : mx_H) (n : Int), mx_ex d 256 611 [l0, l1, l2, l3] [(0, i), (2, a), v2, v3] S h n = mx_gd ((S a (-2) = 20 ∨ S a (-2) = 24) ∧ 0 ≤ i ∧ i < S a (-1)) d 256 612 [l0, l1, l2, l3] [(0, h a i), v2, v3] S h n) ∧
  (∀ (d : Nat) (x : Int) (l1 l2 l3 : Option mx_V) (v0 v1 v2 : mx_V) (S h : mx_H) (n : Int), mx_ex d 256 612 [some (2, x), l1, l2, l3] [v0, v1, v2] S h n = mx_ex d 256 613 [some (2, x), l1, l2, l3] [(2, x), v0, v1, v2] S h n) :=
  ⟨by intros; exact eq_ld rfl rfl,
   by intros; exact eq_push rfl,
   by intros; exact eq_i2 (o := mx_add) rfl,
   by intros; exact eq_iald rfl,
   by intros; exact eq_ld rfl rfl,
   by intros; exact eq_ld rfl rfl,
   by intros; exact eq_push rfl,
   by intros; exact eq_i2 (o := mx_add) rfl,
   by intros; exact eq_iald rfl,
   by intros; exact eq_cv rfl rfl (Nat.le_of_ble_eq_true rfl) rfl rfl,
   by intros; exact eq_ic0 rfl,
   by intros; exact eq_push rfl,
   by intros; exact eq_retz rfl,
   by intros; exact eq_ld rfl rfl,
   by intros; exact eq_ld rfl rfl,
   by intros; exact eq_ld rfl rfl,
   by intros; exact eq_push rfl,
   by intros; exact eq_i2 (o := mx_add) rfl,
   by intros; exact eq_iald rfl,
   by intros; exact eq_ld rfl rfl,
   by intros; exact eq_ld rfl rfl,
   by intros; exact eq_push rfl,
   by intros; exact eq_i2 (o := mx_add) rfl,
   by intros; exact eq_iald rfl,
   by intros; exact eq_cv rfl rfl (Nat.le_of_ble_eq_true rfl) rfl rfl,
   by intros; exact eq_ld rfl rfl,
   by intros; exact eq_ld rfl rfl,
   by intros; exact eq_ld rfl rfl,
   by intros; exact eq_push rfl,
   by intros; exact eq_i2 (o := mx_add) rfl,
   by intros; exact eq_iald rfl,
   by intros; exact eq_ld rfl rfl,
   by intros; exact eq_ld rfl rfl,
   by intros; exact eq_push rfl,
   by intros; exact eq_i2 (o := mx_add) rfl,
   by intros; exact eq_iald rfl,
   by intros; exact eq_cv rfl rfl (Nat.le_of_ble_eq_true rfl) rfl rfl,
   by intros; exact eq_lcmp rfl,
   by intros; exact eq_if0 rfl,
   by intros; exact eq_push rfl,
   by intros; exact eq_retz rfl,
   by intros; exact eq_ld rfl rfl,
   by intros; exact eq_ld rfl rfl,
   by intros; exact eq_ld rfl rfl,
   by intros; exact eq_push rfl,
   by intros; exact eq_i2 (o := mx_add) rfl,
   by intros; exact eq_iald rfl,
   by intros; exact eq_cv rfl rfl (Nat.le_of_ble_eq_true rfl) rfl rfl,
   by intros; exact eq_ld rfl rfl,
   by intros; exact eq_ld rfl rfl,
   by intros; exact eq_ld rfl rfl,
   by intros; exact eq_push rfl,
   by intros; exact eq_i2 (o := mx_add) rfl,
   by intros; exact eq_iald rfl,
   by intros; exact eq_cv rfl rfl (Nat.le_of_ble_eq_true rfl) rfl rfl,
   by intros; exact eq_ic0 rfl,
   by intros; exact eq_push rfl,
   by intros; exact eq_retz rfl,
   by intros; exact eq_ld rfl rfl,
   by intros; exact eq_ld rfl rfl,
   by intros; exact eq_ld rfl rfl,
   by intros; exact eq_push rfl,
   by intros; exact eq_i2 (o := mx_add) rfl,
   by intros; exact eq_iald rfl,
   by intros; exact eq_ld rfl rfl,
   by intros; exact eq_ld rfl rfl,
   by intros; exact eq_push rfl,
   by intros; exact eq_i2 (o := mx_add) rfl,
   by intros; exact eq_iald rfl,
   by intros; exact eq_ld rfl rfl⟩
theorem rw_L_law_5 :
  (∀ (d : Nat) (x : Int) (l0 l1 l2 : Option mx_V) (v0 v1 v2 v3 : mx_V) (S h : mx_H) (n : Int), mx_ex d 256 613 [l0, l1, l2, some (0, x)] [v0, v1, v2, v3] S h n = mx_ex d 256 614 [l0, l1, l2, some (0, x)] [(0, x), v0, v1, v2, v3] S h n) ∧
  (∀ (d : Nat) (l0 l1 l2 l3 : Option mx_V) (v0 v1 v2 v3 v4 : mx_V) (S h : mx_H) (n : Int), mx_ex d 256 614 [l0, l1, l2, l3] [v0, v1, v2, v3, v4] S h n = mx_ex d 256 615 [l0, l1, l2, l3] [(0, 3), v0, v1, v2, v3, v4] S h n) ∧
  (∀ (d : Nat) (b a : Int) (l0 l1 l2 l3 : Option mx_V) (v2 v3 v4 v5 : mx_V) (S h : mx_H) (n : Int), mx_ex d 256 615 [l0, l1, l2, l3] [(0, b), (0, a), v2, v3, v4, v5] S h n = mx_ex d 256 616 [l0, l1, l2, l3] [(0, mx_w (a + b)), v2, v3, v4, v5] S h n) ∧
  (∀ (d : Nat) (i a : Int) (l0 l1 l2 l3 : Option mx_V) (v2 v3 v4 : mx_V) (S h : mx_H) (n : Int), mx_ex d 256 616 [l0, l1, l2, l3] [(0, i), (2, a), v2, v3, v4] S h n = mx_gd ((S a (-2) = 20 ∨ S a (-2) = 24) ∧ 0 ≤ i ∧ i < S a (-1)) d 256 617 [l0, l1, l2, l3] [(0, h a i), v2, v3, v4] S h n) ∧
  (∀ (d : Nat) (x : Int) (l1 l2 l3 : Option mx_V) (v0 v1 v2 v3 : mx_V) (S h : mx_H) (n : Int), mx_ex d 256 617 [some (2, x), l1, l2, l3] [v0, v1, v2, v3] S h n = mx_ex d 256 618 [some (2, x), l1, l2, l3] [(2, x), v0, v1, v2, v3] S h n) ∧
  (∀ (d : Nat) (x : Int) (l0 l1 l2 : Option mx_V) (v0 v1 v2 v3 v4 : mx_V) (S h : mx_H) (n : Int), mx_ex d 256 618 [l0, l1, l2, some (0, x)] [v0, v1, v2, v3, v4] S h n = mx_ex d 256 619 [l0, l1, l2, some (0, x)] [(0, x), v0, v1, v2, v3, v4] S h n) ∧
  (∀ (d : Nat) (l0 l1 l2 l3 : Option mx_V) (v0 v1 v2 v3 v4 v5 : mx_V) (S h : mx_H) (n : Int), mx_ex d 256 619 [l0, l1, l2, l3] [v0, v1, v2, v3, v4, v5] S h n = mx_ex d 256 620 [l0, l1, l2, l3] [(0, 4), v0, v1, v2, v3, v4, v5] S h n) ∧
  (∀ (d : Nat) (b a : Int) (l0 l1 l2 l3 : Option mx_V) (v2 v3 v4 v5 v6 : mx_V) (S h : mx_H) (n : Int), mx_ex d 256 620 [l0, l1, l2, l3] [(0, b), (0, a), v2, v3, v4, v5, v6] S h n = mx_ex d 256 621 [l0, l1, l2, l3] [(0, mx_w (a + b)), v2, v3, v4, v5, v6] S h n) ∧
  (∀ (d : Nat) (i a : Int) (l0 l1 l2 l3 : Option mx_V) (v2 v3 v4 v5 : mx_V) (S h : mx_H) (n : Int), mx_ex d 256 621 [l0, l1, l2, l3] [(0, i), (2, a), v2, v3, v4, v5] S h n = mx_gd ((S a (-2) = 20 ∨ S a (-2) = 24) ∧ 0 ≤ i ∧ i < S a (-1)) d 256 622 [l0, l1, l2, l3] [(0, h a i), v2, v3, v4, v5] S h n) ∧
  (∀ (d : Nat) (a : Int) (l0 l1 l2 l3 : Option mx_V) (v0 v1 v2 v3 : mx_V) (S h : mx_H) (n : Int), mx_ex (d + 1) 256 622 [l0, l1, l2, l3] [v0, v1, v2, v3, (2, a)] S h n = mx_cl (S a (-2) = 7) d 111 [(2, a), v3, v2, v1, v0] 256 625 [l0, l1, l2, l3] [] S h n) ∧
  (∀ (d : Nat) (x : Int) (l0 l1 l3 : Option mx_V) (v0 : mx_V) (S h : mx_H) (n : Int), mx_ex d 256 625 [l0, l1, some (2, x), l3] [v0] S h n = mx_ex d 256 626 [l0, l1, some (2, x), l3] [(2, x), v0] S h n) ∧
  (∀ (d : Nat) (x : Int) (l1 l2 l3 : Option mx_V) (v0 v1 : mx_V) (S h : mx_H) (n : Int), mx_ex d 256 626 [some (2, x), l1, l2, l3] [v0, v1] S h n = mx_ex d 256 627 [some (2, x), l1, l2, l3] [(2, x), v0, v1] S h n) ∧
  (∀ (d : Nat) (x : Int) (l0 l1 l2 : Option mx_V) (v0 v1 v2 : mx_V) (S h : mx_H) (n : Int), mx_ex d 256 627 [l0, l1, l2, some (0, x)] [v0, v1, v2] S h n = mx_ex d 256 628 [l0, l1, l2, some (0, x)] [(0, x), v0, v1, v2] S h n) ∧
  (∀ (d : Nat) (l0 l1 l2 l3 : Option mx_V) (v0 v1 v2 v3 : mx_V) (S h : mx_H) (n : Int), mx_ex d 256 628 [l0, l1, l2, l3] [v0, v1, v2, v3] S h n = mx_ex d 256 629 [l0, l1, l2, l3] [(0, 1), v0, v1, v2, v3] S h n) ∧
  (∀ (d : Nat) (b a : Int) (l0 l1 l2 l3 : Option mx_V) (v2 v3 v4 : mx_V) (S h : mx_H) (n : Int), mx_ex d 256 629 [l0, l1, l2, l3] [(0, b), (0, a), v2, v3, v4] S h n = mx_ex d 256 630 [l0, l1, l2, l3] [(0, mx_w (a + b)), v2, v3, v4] S h n) ∧
  (∀ (d : Nat) (i a : Int) (l0 l1 l2 l3 : Option mx_V) (v2 v3 : mx_V) (S h : mx_H) (n : Int), mx_ex d 256 630 [l0, l1, l2, l3] [(0, i), (2, a), v2, v3] S h n = mx_gd ((S a (-2) = 20 ∨ S a (-2) = 24) ∧ 0 ≤ i ∧ i < S a (-1)) d 256 631 [l0, l1, l2, l3] [(0, h a i), v2, v3] S h n) ∧
  (∀ (d : Nat) (x : Int) (l1 l2 l3 : Option mx_V) (v0 v1 v2 : mx_V) (S h : mx_H) (n : Int), mx_ex d 256 631 [some (2, x), l1, l2, l3] [v0, v1, v2] S h n = mx_ex d 256 632 [some (2, x), l1, l2, l3] [(2, x), v0, v1, v2] S h n) ∧
  (∀ (d : Nat) (x : Int) (l0 l1 l2 : Option mx_V) (v0 v1 v2 v3 : mx_V) (S h : mx_H) (n : Int), mx_ex d 256 632 [l0, l1, l2, some (0, x)] [v0, v1, v2, v3] S h n = mx_ex d 256 633 [l0, l1, l2, some (0, x)] [(0, x), v0, v1, v2, v3] S h n) ∧
  (∀ (d : Nat) (l0 l1 l2 l3 : Option mx_V) (v0 v1 v2 v3 v4 : mx_V) (S h : mx_H) (n : Int), mx_ex d 256 633 [l0, l1, l2, l3] [v0, v1, v2, v3, v4] S h n = mx_ex d 256 634 [l0, l1, l2, l3] [(0, 2), v0, v1, v2, v3, v4] S h n) ∧
  (∀ (d : Nat) (b a : Int) (l0 l1 l2 l3 : Option mx_V) (v2 v3 v4 v5 : mx_V) (S h : mx_H) (n : Int), mx_ex d 256 634 [l0, l1, l2, l3] [(0, b), (0, a), v2, v3, v4, v5] S h n = mx_ex d 256 635 [l0, l1, l2, l3] [(0, mx_w (a + b)), v2, v3, v4, v5] S h n) ∧
  (∀ (d : Nat) (i a : Int) (l0 l1 l2 l3 : Option mx_V) (v2 v3 v4 : mx_V) (S h : mx_H) (n : Int), mx_ex d 256 635 [l0, l1, l2, l3] [(0, i), (2, a), v2, v3, v4] S h n = mx_gd ((S a (-2) = 20 ∨ S a (-2) = 24) ∧ 0 ≤ i ∧ i < S a (-1)) d 256 636 [l0, l1, l2, l3] [(0, h a i), v2, v3, v4] S h n) ∧
  (∀ (d : Nat) (x : Int) (l1 l2 l3 : Option mx_V) (v0 v1 v2 v3 : mx_V) (S h : mx_H) (n : Int), mx_ex d 256 636 [some (2, x), l1, l2, l3] [v0, v1, v2, v3] S h n = mx_ex d 256 637 [some (2, x), l1, l2, l3] [(2, x), v0, v1, v2, v3] S h n) ∧
  (∀ (d : Nat) (x : Int) (l0 l1 l2 : Option mx_V) (v0 v1 v2 v3 v4 : mx_V) (S h : mx_H) (n : Int), mx_ex d 256 637 [l0, l1, l2, some (0, x)] [v0, v1, v2, v3, v4] S h n = mx_ex d 256 638 [l0, l1, l2, some (0, x)] [(0, x), v0, v1, v2, v3, v4] S h n) ∧
  (∀ (d : Nat) (l0 l1 l2 l3 : Option mx_V) (v0 v1 v2 v3 v4 v5 : mx_V) (S h : mx_H) (n : Int), mx_ex d 256 638 [l0, l1, l2, l3] [v0, v1, v2, v3, v4, v5] S h n = mx_ex d 256 639 [l0, l1, l2, l3] [(0, 3), v0, v1, v2, v3, v4, v5] S h n) ∧
  (∀ (d : Nat) (b a : Int) (l0 l1 l2 l3 : Option mx_V) (v2 v3 v4 v5 v6 : mx_V) (S h : mx_H) (n : Int), mx_ex d 256 639 [l0, l1, l2, l3] [(0, b), (0, a), v2, v3, v4, v5, v6] S h n = mx_ex d 256 640 [l0, l1, l2, l3] [(0, mx_w (a + b)), v2, v3, v4, v5, v6] S h n) ∧
  (∀ (d : Nat) (i a : Int) (l0 l1 l2 l3 : Option mx_V) (v2 v3 v4 v5 : mx_V) (S h : mx_H) (n : Int), mx_ex d 256 640 [l0, l1, l2, l3] [(0, i), (2, a), v2, v3, v4, v5] S h n = mx_gd ((S a (-2) = 20 ∨ S a (-2) = 24) ∧ 0 ≤ i ∧ i < S a (-1)) d 256 641 [l0, l1, l2, l3] [(0, h a i), v2, v3, v4, v5] S h n) ∧
  (∀ (d : Nat) (x : Int) (l1 l2 l3 : Option mx_V) (v0 v1 v2 v3 v4 : mx_V) (S h : mx_H) (n : Int), mx_ex d 256 641 [some (2, x), l1, l2, l3] [v0, v1, v2, v3, v4] S h n = mx_ex d 256 642 [some (2, x), l1, l2, l3] [(2, x), v0, v1, v2, v3, v4] S h n) ∧
  (∀ (d : Nat) (x : Int) (l0 l1 l2 : Option mx_V) (v0 v1 v2 v3 v4 v5 : mx_V) (S h : mx_H) (n : Int), mx_ex d 256 642 [l0, l1, l2, some (0, x)] [v0, v1, v2, v3, v4, v5] S h n = mx_ex d 256 643 [l0, l1, l2, some (0, x)] [(0, x), v0, v1, v2, v3, v4, v5] S h n) ∧
  (∀ (d : Nat) (l0 l1 l2 l3 : Option mx_V) (v0 v1 v2 v3 v4 v5 v6 : mx_V) (S h : mx_H) (n : Int), mx_ex d 256 643 [l0, l1, l2, l3] [v0, v1, v2, v3, v4, v5, v6] S h n = mx_ex d 256 644 [l0, l1, l2, l3] [(0, 4), v0, v1, v2, v3, v4, v5, v6] S h n) ∧
  (∀ (d : Nat) (b a : Int) (l0 l1 l2 l3 : Option mx_V) (v2 v3 v4 v5 v6 v7 : mx_V) (S h : mx_H) (n : Int), mx_ex d 256 644 [l0, l1, l2, l3] [(0, b), (0, a), v2, v3, v4, v5, v6, v7] S h n = mx_ex d 256 645 [l0, l1, l2, l3] [(0, mx_w (a + b)), v2, v3, v4, v5, v6, v7] S h n) ∧
  (∀ (d : Nat) (i a : Int) (l0 l1 l2 l3 : Option mx_V) (v2 v3 v4 v5 v6 : mx_V) (S h : mx_H) (n : Int), mx_ex d 256 645 [l0, l1, l2, l3] [(0, i), (2, a), v2, v3, v4, v5, v6] S h n = mx_gd ((S a (-2) = 20 ∨ S a (-2) = 24) ∧ 0 ≤ i ∧ i < S a (-1)) d 256 646 [l0, l1, l2, l3] [(0, h a i), v2, v3, v4, v5, v6] S h n) ∧
  (∀ (d : Nat) (a : Int) (l0 l1 l2 l3 : Option mx_V) (v0 v1 v2 v3 v5 : mx_V) (S h : mx_H) (n : Int), mx_ex (d + 1) 256 646 [l0, l1, l2, l3] [v0, v1, v2, v3, (2, a), v5] S h n = mx_cl (S a (-2) = 13) d 190 [(2, a), v3, v2, v1, v0] 256 649 [l0, l1, l2, l3] [v5] S h n) ∧
  (∀ (d : Nat) (b a : Int) (l0 l1 l2 l3 : Option mx_V) (S h : mx_H) (n : Int), mx_ex d 256 649 [l0, l1, l2, l3] [(0, b), (0, a)] S h n = mx_br (a = b) d 256 1653 652 [l0, l1, l2, l3] [] S h n) ∧
  (∀ (d : Nat) (l0 l1 l2 l3 : Option mx_V) (S h : mx_H) (n : Int), mx_ex d 256 652 [l0, l1, l2, l3] [] S h n = mx_ex d 256 653 [l0, l1, l2, l3] [(0, 0)] S h n) ∧
  (∀ (d : Nat) (x : Int) (l0 l1 l2 l3 : Option mx_V) (S h : mx_H) (n : Int), mx_ex d 256 653 [l0, l1, l2, l3] [(0, x)] S h n = mx_re (0 ≤ x ∧ x ≤ 1) (some (0, x)) S h n) ∧
  (∀ (d : Nat) (x : Int) (l0 l2 l3 : Option mx_V) (S h : mx_H) (n : Int), mx_ex d 256 654 [l0, some (2, x), l2, l3] [] S h n = mx_ex d 256 655 [l0, some (2, x), l2, l3] [(2, x)] S h n) ∧
  (∀ (d : Nat) (x : Int) (l1 l2 l3 : Option mx_V) (v0 : mx_V) (S h : mx_H) (n : Int), mx_ex d 256 655 [some (2, x), l1, l2, l3] [v0] S h n = mx_ex d 256 656 [some (2, x), l1, l2, l3] [(2, x), v0] S h n) ∧
  (∀ (d : Nat) (x : Int) (l0 l1 l2 : Option mx_V) (v0 v1 : mx_V) (S h : mx_H) (n : Int), mx_ex d 256 656 [l0, l1, l2, some (0, x)] [v0, v1] S h n = mx_ex d 256 657 [l0, l1, l2, some (0, x)] [(0, x), v0, v1] S h n) ∧
  (∀ (d : Nat) (l0 l1 l2 l3 : Option mx_V) (v0 v1 v2 : mx_V) (S h : mx_H) (n : Int), mx_ex d 256 657 [l0, l1, l2, l3] [v0, v1, v2] S h n = mx_ex d 256 658 [l0, l1, l2, l3] [(0, 1), v0, v1, v2] S h n) ∧
  (∀ (d : Nat) (b a : Int) (l0 l1 l2 l3 : Option mx_V) (v2 v3 : mx_V) (S h : mx_H) (n : Int), mx_ex d 256 658 [l0, l1, l2, l3] [(0, b), (0, a), v2, v3] S h n = mx_ex d 256 659 [l0, l1, l2, l3] [(0, mx_w (a + b)), v2, v3] S h n) ∧
  (∀ (d : Nat) (i a : Int) (l0 l1 l2 l3 : Option mx_V) (v2 : mx_V) (S h : mx_H) (n : Int), mx_ex d 256 659 [l0, l1, l2, l3] [(0, i), (2, a), v2] S h n = mx_gd ((S a (-2) = 20 ∨ S a (-2) = 24) ∧ 0 ≤ i ∧ i < S a (-1)) d 256 660 [l0, l1, l2, l3] [(0, h a i), v2] S h n) ∧
  (∀ (d : Nat) (x : Int) (l1 l2 l3 : Option mx_V) (v0 v1 : mx_V) (S h : mx_H) (n : Int), mx_ex d 256 660 [some (2, x), l1, l2, l3] [v0, v1] S h n = mx_ex d 256 661 [some (2, x), l1, l2, l3] [(2, x), v0, v1] S h n) ∧
  (∀ (d : Nat) (x : Int) (l0 l1 l2 : Option mx_V) (v0 v1 v2 : mx_V) (S h : mx_H) (n : Int), mx_ex d 256 661 [l0, l1, l2, some (0, x)] [v0, v1, v2] S h n = mx_ex d 256 662 [l0, l1, l2, some (0, x)] [(0, x), v0, v1, v2] S h n) ∧
  (∀ (d : Nat) (l0 l1 l2 l3 : Option mx_V) (v0 v1 v2 v3 : mx_V) (S h : mx_H) (n : Int), mx_ex d 256 662 [l0, l1, l2, l3] [v0, v1, v2, v3] S h n = mx_ex d 256 663 [l0, l1, l2, l3] [(0, 2), v0, v1, v2, v3] S h n) ∧
  (∀ (d : Nat) (b a : Int) (l0 l1 l2 l3 : Option mx_V) (v2 v3 v4 : mx_V) (S h : mx_H) (n : Int), mx_ex d 256 663 [l0, l1, l2, l3] [(0, b), (0, a), v2, v3, v4] S h n = mx_ex d 256 664 [l0, l1, l2, l3] [(0, mx_w (a + b)), v2, v3, v4] S h n) ∧
  (∀ (d : Nat) (i a : Int) (l0 l1 l2 l3 : Option mx_V) (v2 v3 : mx_V) (S h : mx_H) (n : Int), mx_ex d 256 664 [l0, l1, l2, l3] [(0, i), (2, a), v2, v3] S h n = mx_gd ((S a (-2) = 20 ∨ S a (-2) = 24) ∧ 0 ≤ i ∧ i < S a (-1)) d 256 665 [l0, l1, l2, l3] [(0, h a i), v2, v3] S h n) ∧
  (∀ (d : Nat) (a : Int) (l0 l1 l2 l3 : Option mx_V) (v0 v1 : mx_V) (S h : mx_H) (n : Int), mx_ex (d + 1) 256 665 [l0, l1, l2, l3] [v0, v1, (2, a)] S h n = mx_cl (S a (-2) = 7) d 112 [(2, a), v1, v0] 256 668 [l0, l1, l2, l3] [] S h n) ∧
  (∀ (d : Nat) (x : Int) (l0 l1 l3 : Option mx_V) (v0 : mx_V) (S h : mx_H) (n : Int), mx_ex d 256 668 [l0, l1, some (2, x), l3] [v0] S h n = mx_ex d 256 669 [l0, l1, some (2, x), l3] [(2, x), v0] S h n) ∧
  (∀ (d : Nat) (x : Int) (l1 l2 l3 : Option mx_V) (v0 v1 : mx_V) (S h : mx_H) (n : Int), mx_ex d 256 669 [some (2, x), l1, l2, l3] [v0, v1] S h n = mx_ex d 256 670 [some (2, x), l1, l2, l3] [(2, x), v0, v1] S h n) ∧
  (∀ (d : Nat) (x : Int) (l0 l1 l2 : Option mx_V) (v0 v1 v2 : mx_V) (S h : mx_H) (n : Int), mx_ex d 256 670 [l0, l1, l2, some (0, x)] [v0, v1, v2] S h n = mx_ex d 256 671 [l0, l1, l2, some (0, x)] [(0, x), v0, v1, v2] S h n) ∧
  (∀ (d : Nat) (l0 l1 l2 l3 : Option mx_V) (v0 v1 v2 v3 : mx_V) (S h : mx_H) (n : Int), mx_ex d 256 671 [l0, l1, l2, l3] [v0, v1, v2, v3] S h n = mx_ex d 256 672 [l0, l1, l2, l3] [(0, 1), v0, v1, v2, v3] S h n) ∧
  (∀ (d : Nat) (b a : Int) (l0 l1 l2 l3 : Option mx_V) (v2 v3 v4 : mx_V) (S h : mx_H) (n : Int), mx_ex d 256 672 [l0, l1, l2, l3] [(0, b), (0, a), v2, v3, v4] S h n = mx_ex d 256 673 [l0, l1, l2, l3] [(0, mx_w (a + b)), v2, v3, v4] S h n) ∧
  (∀ (d : Nat) (i a : Int) (l0 l1 l2 l3 : Option mx_V) (v2 v3 : mx_V) (S h : mx_H) (n : Int), mx_ex d 256 673 [l0, l1, l2, l3] [(0, i), (2, a), v2, v3] S h n = mx_gd ((S a (-2) = 20 ∨ S a (-2) = 24) ∧ 0 ≤ i ∧ i < S a (-1)) d 256 674 [l0, l1, l2, l3] [(0, h a i), v2, v3] S h n) ∧
  (∀ (d : Nat) (x : Int) (l1 l2 l3 : Option mx_V) (v0 v1 v2 : mx_V) (S h : mx_H) (n : Int), mx_ex d 256 674 [some (2, x), l1, l2, l3] [v0, v1, v2] S h n = mx_ex d 256 675 [some (2, x), l1, l2, l3] [(2, x), v0, v1, v2] S h n) ∧
  (∀ (d : Nat) (x : Int) (l0 l1 l2 : Option mx_V) (v0 v1 v2 v3 : mx_V) (S h : mx_H) (n : Int), mx_ex d 256 675 [l0, l1, l2, some (0, x)] [v0, v1, v2, v3] S h n = mx_ex d 256 676 [l0, l1, l2, some (0, x)] [(0, x), v0, v1, v2, v3] S h n) ∧
  (∀ (d : Nat) (l0 l1 l2 l3 : Option mx_V) (v0 v1 v2 v3 v4 : mx_V) (S h : mx_H) (n : Int), mx_ex d 256 676 [l0, l1, l2, l3] [v0, v1, v2, v3, v4] S h n = mx_ex d 256 677 [l0, l1, l2, l3] [(0, 2), v0, v1, v2, v3, v4] S h n) ∧
  (∀ (d : Nat) (b a : Int) (l0 l1 l2 l3 : Option mx_V) (v2 v3 v4 v5 : mx_V) (S h : mx_H) (n : Int), mx_ex d 256 677 [l0, l1, l2, l3] [(0, b), (0, a), v2, v3, v4, v5] S h n = mx_ex d 256 678 [l0, l1, l2, l3] [(0, mx_w (a + b)), v2, v3, v4, v5] S h n) ∧
  (∀ (d : Nat) (i a : Int) (l0 l1 l2 l3 : Option mx_V) (v2 v3 v4 : mx_V) (S h : mx_H) (n : Int), mx_ex d 256 678 [l0, l1, l2, l3] [(0, i), (2, a), v2, v3, v4] S h n = mx_gd ((S a (-2) = 20 ∨ S a (-2) = 24) ∧ 0 ≤ i ∧ i < S a (-1)) d 256 679 [l0, l1, l2, l3] [(0, h a i), v2, v3, v4] S h n) ∧
  (∀ (d : Nat) (a : Int) (l0 l1 l2 l3 : Option mx_V) (v0 v1 v3 : mx_V) (S h : mx_H) (n : Int), mx_ex (d + 1) 256 679 [l0, l1, l2, l3] [v0, v1, (2, a), v3] S h n = mx_cl (S a (-2) = 13) d 191 [(2, a), v1, v0] 256 682 [l0, l1, l2, l3] [v3] S h n) ∧
  (∀ (d : Nat) (b a : Int) (l0 l1 l2 l3 : Option mx_V) (S h : mx_H) (n : Int), mx_ex d 256 682 [l0, l1, l2, l3] [(0, b), (0, a)] S h n = mx_br (a = b) d 256 1653 685 [l0, l1, l2, l3] [] S h n) ∧
  (∀ (d : Nat) (l0 l1 l2 l3 : Option mx_V) (S h : mx_H) (n : Int), mx_ex d 256 685 [l0, l1, l2, l3] [] S h n = mx_ex d 256 686 [l0, l1, l2, l3] [(0, 0)] S h n) ∧
  (∀ (d : Nat) (x : Int) (l0 l1 l2 l3 : Option mx_V) (S h : mx_H) (n : Int), mx_ex d 256 686 [l0, l1, l2, l3] [(0, x)] S h n = mx_re (0 ≤ x ∧ x ≤ 1) (some (0, x)) S h n) ∧
  (∀ (d : Nat) (x : Int) (l0 l2 l3 : Option mx_V) (S h : mx_H) (n : Int), mx_ex d 256 687 [l0, some (2, x), l2, l3] [] S h n = mx_ex d 256 688 [l0, some (2, x), l2, l3] [(2, x)] S h n) ∧
  (∀ (d : Nat) (x : Int) (l1 l2 l3 : Option mx_V) (v0 : mx_V) (S h : mx_H) (n : Int), mx_ex d 256 688 [some (2, x), l1, l2, l3] [v0] S h n = mx_ex d 256 689 [some (2, x), l1, l2, l3] [(2, x), v0] S h n) ∧
  (∀ (d : Nat) (x : Int) (l0 l1 l2 : Option mx_V) (v0 v1 : mx_V) (S h : mx_H) (n : Int), mx_ex d 256 689 [l0, l1, l2, some (0, x)] [v0, v1] S h n = mx_ex d 256 690 [l0, l1, l2, some (0, x)] [(0, x), v0, v1] S h n) ∧
  (∀ (d : Nat) (l0 l1 l2 l3 : Option mx_V) (v0 v1 v2 : mx_V) (S h : mx_H) (n : Int), mx_ex d 256 690 [l0, l1, l2, l3] [v0, v1, v2] S h n = mx_ex d 256 691 [l0, l1, l2, l3] [(0, 1), v0, v1, v2] S h n) ∧
  (∀ (d : Nat) (b a : Int) (l0 l1 l2 l3 : Option mx_V) (v2 v3 : mx_V) (S h : mx_H) (n : Int), mx_ex d 256 691 [l0, l1, l2, l3] [(0, b), (0, a), v2, v3] S h n = mx_ex d 256 692 [l0, l1, l2, l3] [(0, mx_w (a + b)), v2, v3] S h n) ∧
  (∀ (d : Nat) (i a : Int) (l0 l1 l2 l3 : Option mx_V) (v2 : mx_V) (S h : mx_H) (n : Int), mx_ex d 256 692 [l0, l1, l2, l3] [(0, i), (2, a), v2] S h n = mx_gd ((S a (-2) = 20 ∨ S a (-2) = 24) ∧ 0 ≤ i ∧ i < S a (-1)) d 256 693 [l0, l1, l2, l3] [(0, h a i), v2] S h n) ∧
  (∀ (d : Nat) (a : Int) (l0 l1 l2 l3 : Option mx_V) (v0 : mx_V) (S h : mx_H) (n : Int), mx_ex (d + 1) 256 693 [l0, l1, l2, l3] [v0, (2, a)] S h n = mx_cl (S a (-2) = 7) d 113 [(2, a), v0] 256 696 [l0, l1, l2, l3] [] S h n) ∧
  (∀ (d : Nat) (x : Int) (l0 l1 l3 : Option mx_V) (v0 : mx_V) (S h : mx_H) (n : Int), mx_ex d 256 696 [l0, l1, some (2, x), l3] [v0] S h n = mx_ex d 256 697 [l0, l1, some (2, x), l3] [(2, x), v0] S h n) :=
  ⟨by intros; exact eq_ld rfl rfl,
   by intros; exact eq_push rfl,
   by intros; exact eq_i2 (o := mx_add) rfl,
   by intros; exact eq_iald rfl,
   by intros; exact eq_ld rfl rfl,
   by intros; exact eq_ld rfl rfl,
   by intros; exact eq_push rfl,
   by intros; exact eq_i2 (o := mx_add) rfl,
   by intros; exact eq_iald rfl,
   by intros; exact eq_cv rfl rfl (Nat.le_of_ble_eq_true rfl) rfl rfl,
   by intros; exact eq_ld rfl rfl,
   by intros; exact eq_ld rfl rfl,
   by intros; exact eq_ld rfl rfl,
   by intros; exact eq_push rfl,
   by intros; exact eq_i2 (o := mx_add) rfl,
   by intros; exact eq_iald rfl,
   by intros; exact eq_ld rfl rfl,
   by intros; exact eq_ld rfl rfl,
   by intros; exact eq_push rfl,
   by intros; exact eq_i2 (o := mx_add) rfl,
   by intros; exact eq_iald rfl,
   by intros; exact eq_ld rfl rfl,
   by intros; exact eq_ld rfl rfl,
   by intros; exact eq_push rfl,
   by intros; exact eq_i2 (o := mx_add) rfl,
   by intros; exact eq_iald rfl,
   by intros; exact eq_ld rfl rfl,
   by intros; exact eq_ld rfl rfl,
   by intros; exact eq_push rfl,
   by intros; exact eq_i2 (o := mx_add) rfl,
   by intros; exact eq_iald rfl,
   by intros; exact eq_cv rfl rfl (Nat.le_of_ble_eq_true rfl) rfl rfl,
   by intros; exact eq_ic0 rfl,
   by intros; exact eq_push rfl,
   by intros; exact eq_retz rfl,
   by intros; exact eq_ld rfl rfl,
   by intros; exact eq_ld rfl rfl,
   by intros; exact eq_ld rfl rfl,
   by intros; exact eq_push rfl,
   by intros; exact eq_i2 (o := mx_add) rfl,
   by intros; exact eq_iald rfl,
   by intros; exact eq_ld rfl rfl,
   by intros; exact eq_ld rfl rfl,
   by intros; exact eq_push rfl,
   by intros; exact eq_i2 (o := mx_add) rfl,
   by intros; exact eq_iald rfl,
   by intros; exact eq_cv rfl rfl (Nat.le_of_ble_eq_true rfl) rfl rfl,
   by intros; exact eq_ld rfl rfl,
   by intros; exact eq_ld rfl rfl,
   by intros; exact eq_ld rfl rfl,
   by intros; exact eq_push rfl,
   by intros; exact eq_i2 (o := mx_add) rfl,
   by intros; exact eq_iald rfl,
   by intros; exact eq_ld rfl rfl,
   by intros; exact eq_ld rfl rfl,
   by intros; exact eq_push rfl,
   by intros; exact eq_i2 (o := mx_add) rfl,
   by intros; exact eq_iald rfl,
   by intros; exact eq_cv rfl rfl (Nat.le_of_ble_eq_true rfl) rfl rfl,
   by intros; exact eq_ic0 rfl,
   by intros; exact eq_push rfl,
   by intros; exact eq_retz rfl,
   by intros; exact eq_ld rfl rfl,
   by intros; exact eq_ld rfl rfl,
   by intros; exact eq_ld rfl rfl,
   by intros; exact eq_push rfl,
   by intros; exact eq_i2 (o := mx_add) rfl,
   by intros; exact eq_iald rfl,
   by intros; exact eq_cv rfl rfl (Nat.le_of_ble_eq_true rfl) rfl rfl,
   by intros; exact eq_ld rfl rfl⟩
theorem rw_L_law_6 :
  (∀ (d : Nat) (x : Int) (l1 l2 l3 : Option mx_V) (v0 v1 : mx_V) (S h : mx_H) (n : Int), mx_ex d 256 697 [some (2, x), l1, l2, l3] [v0, v1] S h n = mx_ex d 256 698 [some (2, x), l1, l2, l3] [(2, x), v0, v1] S h n) ∧
  (∀ (d : Nat) (x : Int) (l0 l1 l2 : Option mx_V) (v0 v1 v2 : mx_V) (S h : mx_H) (n : Int), mx_ex d 256 698 [l0, l1, l2, some (0, x)] [v0, v1, v2] S h n = mx_ex d 256 699 [l0, l1, l2, some (0, x)] [(0, x), v0, v1, v2] S h n) ∧
  (∀ (d : Nat) (l0 l1 l2 l3 : Option mx_V) (v0 v1 v2 v3 : mx_V) (S h : mx_H) (n : Int), mx_ex d 256 699 [l0, l1, l2, l3] [v0, v1, v2, v3] S h n = mx_ex d 256 700 [l0, l1, l2, l3] [(0, 1), v0, v1, v2, v3] S h n) ∧
  (∀ (d : Nat) (b a : Int) (l0 l1 l2 l3 : Option mx_V) (v2 v3 v4 : mx_V) (S h : mx_H) (n : Int), mx_ex d 256 700 [l0, l1, l2, l3] [(0, b), (0, a), v2, v3, v4] S h n = mx_ex d 256 701 [l0, l1, l2, l3] [(0, mx_w (a + b)), v2, v3, v4] S h n) ∧
  (∀ (d : Nat) (i a : Int) (l0 l1 l2 l3 : Option mx_V) (v2 v3 : mx_V) (S h : mx_H) (n : Int), mx_ex d 256 701 [l0, l1, l2, l3] [(0, i), (2, a), v2, v3] S h n = mx_gd ((S a (-2) = 20 ∨ S a (-2) = 24) ∧ 0 ≤ i ∧ i < S a (-1)) d 256 702 [l0, l1, l2, l3] [(0, h a i), v2, v3] S h n) ∧
  (∀ (d : Nat) (a : Int) (l0 l1 l2 l3 : Option mx_V) (v0 v2 : mx_V) (S h : mx_H) (n : Int), mx_ex (d + 1) 256 702 [l0, l1, l2, l3] [v0, (2, a), v2] S h n = mx_cl (S a (-2) = 13) d 192 [(2, a), v0] 256 705 [l0, l1, l2, l3] [v2] S h n) ∧
  (∀ (d : Nat) (b a : Int) (l0 l1 l2 l3 : Option mx_V) (S h : mx_H) (n : Int), mx_ex d 256 705 [l0, l1, l2, l3] [(0, b), (0, a)] S h n = mx_br (a = b) d 256 1653 708 [l0, l1, l2, l3] [] S h n) ∧
  (∀ (d : Nat) (l0 l1 l2 l3 : Option mx_V) (S h : mx_H) (n : Int), mx_ex d 256 708 [l0, l1, l2, l3] [] S h n = mx_ex d 256 709 [l0, l1, l2, l3] [(0, 0)] S h n) ∧
  (∀ (d : Nat) (x : Int) (l0 l1 l2 l3 : Option mx_V) (S h : mx_H) (n : Int), mx_ex d 256 709 [l0, l1, l2, l3] [(0, x)] S h n = mx_re (0 ≤ x ∧ x ≤ 1) (some (0, x)) S h n) ∧
  (∀ (d : Nat) (x : Int) (l0 l2 l3 : Option mx_V) (S h : mx_H) (n : Int), mx_ex d 256 710 [l0, some (2, x), l2, l3] [] S h n = mx_ex d 256 711 [l0, some (2, x), l2, l3] [(2, x)] S h n) ∧
  (∀ (d : Nat) (a : Int) (l0 l1 l2 l3 : Option mx_V) (S h : mx_H) (n : Int), mx_ex (d + 1) 256 711 [l0, l1, l2, l3] [(2, a)] S h n = mx_cl (S a (-2) = 7) d 114 [(2, a)] 256 714 [l0, l1, l2, l3] [] S h n) ∧
  (∀ (d : Nat) (x : Int) (l0 l1 l3 : Option mx_V) (v0 : mx_V) (S h : mx_H) (n : Int), mx_ex d 256 714 [l0, l1, some (2, x), l3] [v0] S h n = mx_ex d 256 715 [l0, l1, some (2, x), l3] [(2, x), v0] S h n) ∧
  (∀ (d : Nat) (a : Int) (l0 l1 l2 l3 : Option mx_V) (v1 : mx_V) (S h : mx_H) (n : Int), mx_ex (d + 1) 256 715 [l0, l1, l2, l3] [(2, a), v1] S h n = mx_cl (S a (-2) = 13) d 198 [(2, a)] 256 718 [l0, l1, l2, l3] [v1] S h n) ∧
  (∀ (d : Nat) (b a : Int) (l0 l1 l2 l3 : Option mx_V) (S h : mx_H) (n : Int), mx_ex d 256 718 [l0, l1, l2, l3] [(0, b), (0, a)] S h n = mx_br (a = b) d 256 1653 721 [l0, l1, l2, l3] [] S h n) ∧
  (∀ (d : Nat) (l0 l1 l2 l3 : Option mx_V) (S h : mx_H) (n : Int), mx_ex d 256 721 [l0, l1, l2, l3] [] S h n = mx_ex d 256 722 [l0, l1, l2, l3] [(0, 0)] S h n) ∧
  (∀ (d : Nat) (x : Int) (l0 l1 l2 l3 : Option mx_V) (S h : mx_H) (n : Int), mx_ex d 256 722 [l0, l1, l2, l3] [(0, x)] S h n = mx_re (0 ≤ x ∧ x ≤ 1) (some (0, x)) S h n) ∧
  (∀ (d : Nat) (x : Int) (l0 l2 l3 : Option mx_V) (S h : mx_H) (n : Int), mx_ex d 256 723 [l0, some (2, x), l2, l3] [] S h n = mx_ex d 256 724 [l0, some (2, x), l2, l3] [(2, x)] S h n) ∧
  (∀ (d : Nat) (x : Int) (l1 l2 l3 : Option mx_V) (v0 : mx_V) (S h : mx_H) (n : Int), mx_ex d 256 724 [some (2, x), l1, l2, l3] [v0] S h n = mx_ex d 256 725 [some (2, x), l1, l2, l3] [(2, x), v0] S h n) ∧
  (∀ (d : Nat) (x : Int) (l0 l1 l2 : Option mx_V) (v0 v1 : mx_V) (S h : mx_H) (n : Int), mx_ex d 256 725 [l0, l1, l2, some (0, x)] [v0, v1] S h n = mx_ex d 256 726 [l0, l1, l2, some (0, x)] [(0, x), v0, v1] S h n) ∧
  (∀ (d : Nat) (l0 l1 l2 l3 : Option mx_V) (v0 v1 v2 : mx_V) (S h : mx_H) (n : Int), mx_ex d 256 726 [l0, l1, l2, l3] [v0, v1, v2] S h n = mx_ex d 256 727 [l0, l1, l2, l3] [(0, 1), v0, v1, v2] S h n) ∧
  (∀ (d : Nat) (b a : Int) (l0 l1 l2 l3 : Option mx_V) (v2 v3 : mx_V) (S h : mx_H) (n : Int), mx_ex d 256 727 [l0, l1, l2, l3] [(0, b), (0, a), v2, v3] S h n = mx_ex d 256 728 [l0, l1, l2, l3] [(0, mx_w (a + b)), v2, v3] S h n) ∧
  (∀ (d : Nat) (i a : Int) (l0 l1 l2 l3 : Option mx_V) (v2 : mx_V) (S h : mx_H) (n : Int), mx_ex d 256 728 [l0, l1, l2, l3] [(0, i), (2, a), v2] S h n = mx_gd ((S a (-2) = 20 ∨ S a (-2) = 24) ∧ 0 ≤ i ∧ i < S a (-1)) d 256 729 [l0, l1, l2, l3] [(0, h a i), v2] S h n) ∧
  (∀ (d : Nat) (x : Int) (l1 l2 l3 : Option mx_V) (v0 v1 : mx_V) (S h : mx_H) (n : Int), mx_ex d 256 729 [some (2, x), l1, l2, l3] [v0, v1] S h n = mx_ex d 256 730 [some (2, x), l1, l2, l3] [(2, x), v0, v1] S h n) ∧
  (∀ (d : Nat) (x : Int) (l0 l1 l2 : Option mx_V) (v0 v1 v2 : mx_V) (S h : mx_H) (n : Int), mx_ex d 256 730 [l0, l1, l2, some (0, x)] [v0, v1, v2] S h n = mx_ex d 256 731 [l0, l1, l2, some (0, x)] [(0, x), v0, v1, v2] S h n) ∧
  (∀ (d : Nat) (l0 l1 l2 l3 : Option mx_V) (v0 v1 v2 v3 : mx_V) (S h : mx_H) (n : Int), mx_ex d 256 731 [l0, l1, l2, l3] [v0, v1, v2, v3] S h n = mx_ex d 256 732 [l0, l1, l2, l3] [(0, 2), v0, v1, v2, v3] S h n) ∧
  (∀ (d : Nat) (b a : Int) (l0 l1 l2 l3 : Option mx_V) (v2 v3 v4 : mx_V) (S h : mx_H) (n : Int), mx_ex d 256 732 [l0, l1, l2, l3] [(0, b), (0, a), v2, v3, v4] S h n = mx_ex d 256 733 [l0, l1, l2, l3] [(0, mx_w (a + b)), v2, v3, v4] S h n) ∧
  (∀ (d : Nat) (i a : Int) (l0 l1 l2 l3 : Option mx_V) (v2 v3 : mx_V) (S h : mx_H) (n : Int), mx_ex d 256 733 [l0, l1, l2, l3] [(0, i), (2, a), v2, v3] S h n = mx_gd ((S a (-2) = 20 ∨ S a (-2) = 24) ∧ 0 ≤ i ∧ i < S a (-1)) d 256 734 [l0, l1, l2, l3] [(0, h a i), v2, v3] S h n) ∧
  (∀ (d : Nat) (a : Int) (l0 l1 l2 l3 : Option mx_V) (v0 v1 : mx_V) (S h : mx_H) (n : Int), mx_ex (d + 1) 256 734 [l0, l1, l2, l3] [v0, v1, (2, a)] S h n = mx_cl (S a (-2) = 7) d 115 [(2, a), v1, v0] 256 737 [l0, l1, l2, l3] [] S h n) ∧
  (∀ (d : Nat) (x : Int) (l0 l1 l3 : Option mx_V) (v0 : mx_V) (S h : mx_H) (n : Int), mx_ex d 256 737 [l0, l1, some (2, x), l3] [v0] S h n = mx_ex d 256 738 [l0, l1, some (2, x), l3] [(2, x), v0] S h n) ∧
  (∀ (d : Nat) (x : Int) (l1 l2 l3 : Option mx_V) (v0 v1 : mx_V) (S h : mx_H) (n : Int), mx_ex d 256 738 [some (2, x), l1, l2, l3] [v0, v1] S h n = mx_ex d 256 739 [some (2, x), l1, l2, l3] [(2, x), v0, v1] S h n) ∧
  (∀ (d : Nat) (x : Int) (l0 l1 l2 : Option mx_V) (v0 v1 v2 : mx_V) (S h : mx_H) (n : Int), mx_ex d 256 739 [l0, l1, l2, some (0, x)] [v0, v1, v2] S h n = mx_ex d 256 740 [l0, l1, l2, some (0, x)] [(0, x), v0, v1, v2] S h n) ∧
  (∀ (d : Nat) (l0 l1 l2 l3 : Option mx_V) (v0 v1 v2 v3 : mx_V) (S h : mx_H) (n : Int), mx_ex d 256 740 [l0, l1, l2, l3] [v0, v1, v2, v3] S h n = mx_ex d 256 741 [l0, l1, l2, l3] [(0, 1), v0, v1, v2, v3] S h n) ∧
  (∀ (d : Nat) (b a : Int) (l0 l1 l2 l3 : Option mx_V) (v2 v3 v4 : mx_V) (S h : mx_H) (n : Int), mx_ex d 256 741 [l0, l1, l2, l3] [(0, b), (0, a), v2, v3, v4] S h n = mx_ex d 256 742 [l0, l1, l2, l3] [(0, mx_w (a + b)), v2, v3, v4] S h n) ∧
  (∀ (d : Nat) (i a : Int) (l0 l1 l2 l3 : Option mx_V) (v2 v3 : mx_V) (S h : mx_H) (n : Int), mx_ex d 256 742 [l0, l1, l2, l3] [(0, i), (2, a), v2, v3] S h n = mx_gd ((S a (-2) = 20 ∨ S a (-2) = 24) ∧ 0 ≤ i ∧ i < S a (-1)) d 256 743 [l0, l1, l2, l3] [(0, h a i), v2, v3] S h n) ∧
  (∀ (d : Nat) (x : Int) (l1 l2 l3 : Option mx_V) (v0 v1 v2 : mx_V) (S h : mx_H) (n : Int), mx_ex d 256 743 [some (2, x), l1, l2, l3] [v0, v1, v2] S h n = mx_ex d 256 744 [some (2, x), l1, l2, l3] [(2, x), v0, v1, v2] S h n) ∧
  (∀ (d : Nat) (x : Int) (l0 l1 l2 : Option mx_V) (v0 v1 v2 v3 : mx_V) (S h : mx_H) (n : Int), mx_ex d 256 744 [l0, l1, l2, some (0, x)] [v0, v1, v2, v3] S h n = mx_ex d 256 745 [l0, l1, l2, some (0, x)] [(0, x), v0, v1, v2, v3] S h n) ∧
  (∀ (d : Nat) (l0 l1 l2 l3 : Option mx_V) (v0 v1 v2 v3 v4 : mx_V) (S h : mx_H) (n : Int), mx_ex d 256 745 [l0, l1, l2, l3] [v0, v1, v2, v3, v4] S h n = mx_ex d 256 746 [l0, l1, l2, l3] [(0, 2), v0, v1, v2, v3, v4] S h n) ∧
  (∀ (d : Nat) (b a : Int) (l0 l1 l2 l3 : Option mx_V) (v2 v3 v4 v5 : mx_V) (S h : mx_H) (n : Int), mx_ex d 256 746 [l0, l1, l2, l3] [(0, b), (0, a), v2, v3, v4, v5] S h n = mx_ex d 256 747 [l0, l1, l2, l3] [(0, mx_w (a + b)), v2, v3, v4, v5] S h n) ∧
  (∀ (d : Nat) (i a : Int) (l0 l1 l2 l3 : Option mx_V) (v2 v3 v4 : mx_V) (S h : mx_H) (n : Int), mx_ex d 256 747 [l0, l1, l2, l3] [(0, i), (2, a), v2, v3, v4] S h n = mx_gd ((S a (-2) = 20 ∨ S a (-2) = 24) ∧ 0 ≤ i ∧ i < S a (-1)) d 256 748 [l0, l1, l2, l3] [(0, h a i), v2, v3, v4] S h n) ∧
  (∀ (d : Nat) (a : Int) (l0 l1 l2 l3 : Option mx_V) (v0 v1 v3 : mx_V) (S h : mx_H) (n : Int), mx_ex (d + 1) 256 748 [l0, l1, l2, l3] [v0, v1, (2, a), v3] S h n = mx_cl (S a (-2) = 13) d 201 [(2, a), v1, v0] 256 751 [l0, l1, l2, l3] [v3] S h n) ∧
  (∀ (d : Nat) (b a : Int) (l0 l1 l2 l3 : Option mx_V) (S h : mx_H) (n : Int), mx_ex d 256 751 [l0, l1, l2, l3] [(0, b), (0, a)] S h n = mx_br (a = b) d 256 1653 754 [l0, l1, l2, l3] [] S h n) ∧
  (∀ (d : Nat) (l0 l1 l2 l3 : Option mx_V) (S h : mx_H) (n : Int), mx_ex d 256 754 [l0, l1, l2, l3] [] S h n = mx_ex d 256 755 [l0, l1, l2, l3] [(0, 0)] S h n) ∧
  (∀ (d : Nat) (x : Int) (l0 l1 l2 l3 : Option mx_V) (S h : mx_H) (n : Int), mx_ex d 256 755 [l0, l1, l2, l3] [(0, x)] S h n = mx_re (0 ≤ x ∧ x ≤ 1) (some (0, x)) S h n) ∧
  (∀ (d : Nat) (x : Int) (l0 l2 l3 : Option mx_V) (S h : mx_H) (n : Int), mx_ex d 256 756 [l0, some (2, x), l2, l3] [] S h n = mx_ex d 256 757 [l0, some (2, x), l2, l3] [(2, x)] S h n) ∧
  (∀ (d : Nat) (x : Int) (l1 l2 l3 : Option mx_V) (v0 : mx_V) (S h : mx_H) (n : Int), mx_ex d 256 757 [some (2, x), l1, l2, l3] [v0] S h n = mx_ex d 256 758 [some (2, x), l1, l2, l3] [(2, x), v0] S h n) ∧
  (∀ (d : Nat) (x : Int) (l0 l1 l2 : Option mx_V) (v0 v1 : mx_V) (S h : mx_H) (n : Int), mx_ex d 256 758 [l0, l1, l2, some (0, x)] [v0, v1] S h n = mx_ex d 256 759 [l0, l1, l2, some (0, x)] [(0, x), v0, v1] S h n) ∧
  (∀ (d : Nat) (l0 l1 l2 l3 : Option mx_V) (v0 v1 v2 : mx_V) (S h : mx_H) (n : Int), mx_ex d 256 759 [l0, l1, l2, l3] [v0, v1, v2] S h n = mx_ex d 256 760 [l0, l1, l2, l3] [(0, 1), v0, v1, v2] S h n) ∧
  (∀ (d : Nat) (b a : Int) (l0 l1 l2 l3 : Option mx_V) (v2 v3 : mx_V) (S h : mx_H) (n : Int), mx_ex d 256 760 [l0, l1, l2, l3] [(0, b), (0, a), v2, v3] S h n = mx_ex d 256 761 [l0, l1, l2, l3] [(0, mx_w (a + b)), v2, v3] S h n) ∧
  (∀ (d : Nat) (i a : Int) (l0 l1 l2 l3 : Option mx_V) (v2 : mx_V) (S h : mx_H) (n : Int), mx_ex d 256 761 [l0, l1, l2, l3] [(0, i), (2, a), v2] S h n = mx_gd ((S a (-2) = 20 ∨ S a (-2) = 24) ∧ 0 ≤ i ∧ i < S a (-1)) d 256 762 [l0, l1, l2, l3] [(0, h a i), v2] S h n) ∧
  (∀ (d : Nat) (a : Int) (l0 l1 l2 l3 : Option mx_V) (v0 : mx_V) (S h : mx_H) (n : Int), mx_ex (d + 1) 256 762 [l0, l1, l2, l3] [v0, (2, a)] S h n = mx_cl (S a (-2) = 7) d 116 [(2, a), v0] 256 765 [l0, l1, l2, l3] [] S h n) ∧
  (∀ (d : Nat) (x : Int) (l0 l1 l3 : Option mx_V) (v0 : mx_V) (S h : mx_H) (n : Int), mx_ex d 256 765 [l0, l1, some (2, x), l3] [v0] S h n = mx_ex d 256 766 [l0, l1, some (2, x), l3] [(2, x), v0] S h n) ∧
  (∀ (d : Nat) (x : Int) (l1 l2 l3 : Option mx_V) (v0 v1 : mx_V) (S h : mx_H) (n : Int), mx_ex d 256 766 [some (2, x), l1, l2, l3] [v0, v1] S h n = mx_ex d 256 767 [some (2, x), l1, l2, l3] [(2, x), v0, v1] S h n) ∧
  (∀ (d : Nat) (x : Int) (l0 l1 l2 : Option mx_V) (v0 v1 v2 : mx_V) (S h : mx_H) (n : Int), mx_ex d 256 767 [l0, l1, l2, some (0, x)] [v0, v1, v2] S h n = mx_ex d 256 768 [l0, l1, l2, some (0, x)] [(0, x), v0, v1, v2] S h n) ∧
  (∀ (d : Nat) (l0 l1 l2 l3 : Option mx_V) (v0 v1 v2 v3 : mx_V) (S h : mx_H) (n : Int), mx_ex d 256 768 [l0, l1, l2, l3] [v0, v1, v2, v3] S h n = mx_ex d 256 769 [l0, l1, l2, l3] [(0, 1), v0, v1, v2, v3] S h n) ∧
  (∀ (d : Nat) (b a : Int) (l0 l1 l2 l3 : Option mx_V) (v2 v3 v4 : mx_V) (S h : mx_H) (n : Int), mx_ex d 256 769 [l0, l1, l2, l3] [(0, b), (0, a), v2, v3, v4] S h n = mx_ex d 256 770 [l0, l1, l2, l3] [(0, mx_w (a + b)), v2, v3, v4] S h n) ∧
  (∀ (d : Nat) (i a : Int) (l0 l1 l2 l3 : Option mx_V) (v2 v3 : mx_V) (S h : mx_H) (n : Int), mx_ex d 256 770 [l0, l1, l2, l3] [(0, i), (2, a), v2, v3] S h n = mx_gd ((S a (-2) = 20 ∨ S a (-2) = 24) ∧ 0 ≤ i ∧ i < S a (-1)) d 256 771 [l0, l1, l2, l3] [(0, h a i), v2, v3] S h n) ∧
  (∀ (d : Nat) (a : Int) (l0 l1 l2 l3 : Option mx_V) (v0 v2 : mx_V) (S h : mx_H) (n : Int), mx_ex (d + 1) 256 771 [l0, l1, l2, l3] [v0, (2, a), v2] S h n = mx_cl (S a (-2) = 13) d 202 [(2, a), v0] 256 774 [l0, l1, l2, l3] [v2] S h n) ∧
  (∀ (d : Nat) (b a : Int) (l0 l1 l2 l3 : Option mx_V) (S h : mx_H) (n : Int), mx_ex d 256 774 [l0, l1, l2, l3] [(0, b), (0, a)] S h n = mx_br (a = b) d 256 1653 777 [l0, l1, l2, l3] [] S h n) ∧
  (∀ (d : Nat) (l0 l1 l2 l3 : Option mx_V) (S h : mx_H) (n : Int), mx_ex d 256 777 [l0, l1, l2, l3] [] S h n = mx_ex d 256 778 [l0, l1, l2, l3] [(0, 0)] S h n) ∧
  (∀ (d : Nat) (x : Int) (l0 l1 l2 l3 : Option mx_V) (S h : mx_H) (n : Int), mx_ex d 256 778 [l0, l1, l2, l3] [(0, x)] S h n = mx_re (0 ≤ x ∧ x ≤ 1) (some (0, x)) S h n) ∧
  (∀ (d : Nat) (x : Int) (l0 l2 l3 : Option mx_V) (S h : mx_H) (n : Int), mx_ex d 256 779 [l0, some (2, x), l2, l3] [] S h n = mx_ex d 256 780 [l0, some (2, x), l2, l3] [(2, x)] S h n) ∧
  (∀ (d : Nat) (x : Int) (l1 l2 l3 : Option mx_V) (v0 : mx_V) (S h : mx_H) (n : Int), mx_ex d 256 780 [some (2, x), l1, l2, l3] [v0] S h n = mx_ex d 256 781 [some (2, x), l1, l2, l3] [(2, x), v0] S h n) ∧
  (∀ (d : Nat) (x : Int) (l0 l1 l2 : Option mx_V) (v0 v1 : mx_V) (S h : mx_H) (n : Int), mx_ex d 256 781 [l0, l1, l2, some (0, x)] [v0, v1] S h n = mx_ex d 256 782 [l0, l1, l2, some (0, x)] [(0, x), v0, v1] S h n) ∧
  (∀ (d : Nat) (l0 l1 l2 l3 : Option mx_V) (v0 v1 v2 : mx_V) (S h : mx_H) (n : Int), mx_ex d 256 782 [l0, l1, l2, l3] [v0, v1, v2] S h n = mx_ex d 256 783 [l0, l1, l2, l3] [(0, 1), v0, v1, v2] S h n) ∧
  (∀ (d : Nat) (b a : Int) (l0 l1 l2 l3 : Option mx_V) (v2 v3 : mx_V) (S h : mx_H) (n : Int), mx_ex d 256 783 [l0, l1, l2, l3] [(0, b), (0, a), v2, v3] S h n = mx_ex d 256 784 [l0, l1, l2, l3] [(0, mx_w (a + b)), v2, v3] S h n) ∧
  (∀ (d : Nat) (i a : Int) (l0 l1 l2 l3 : Option mx_V) (v2 : mx_V) (S h : mx_H) (n : Int), mx_ex d 256 784 [l0, l1, l2, l3] [(0, i), (2, a), v2] S h n = mx_gd ((S a (-2) = 20 ∨ S a (-2) = 24) ∧ 0 ≤ i ∧ i < S a (-1)) d 256 785 [l0, l1, l2, l3] [(0, h a i), v2] S h n) ∧
  (∀ (d : Nat) (a : Int) (l0 l1 l2 l3 : Option mx_V) (v0 : mx_V) (S h : mx_H) (n : Int), mx_ex (d + 1) 256 785 [l0, l1, l2, l3] [v0, (2, a)] S h n = mx_cl (S a (-2) = 7) d 117 [(2, a), v0] 256 788 [l0, l1, l2, l3] [] S h n) ∧
  (∀ (d : Nat) (x : Int) (l0 l1 l3 : Option mx_V) (v0 : mx_V) (S h : mx_H) (n : Int), mx_ex d 256 788 [l0, l1, some (2, x), l3] [v0] S h n = mx_ex d 256 789 [l0, l1, some (2, x), l3] [(2, x), v0] S h n) ∧
  (∀ (d : Nat) (x : Int) (l1 l2 l3 : Option mx_V) (v0 v1 : mx_V) (S h : mx_H) (n : Int), mx_ex d 256 789 [some (2, x), l1, l2, l3] [v0, v1] S h n = mx_ex d 256 790 [some (2, x), l1, l2, l3] [(2, x), v0, v1] S h n) ∧
  (∀ (d : Nat) (x : Int) (l0 l1 l2 : Option mx_V) (v0 v1 v2 : mx_V) (S h : mx_H) (n : Int), mx_ex d 256 790 [l0, l1, l2, some (0, x)] [v0, v1, v2] S h n = mx_ex d 256 791 [l0, l1, l2, some (0, x)] [(0, x), v0, v1, v2] S h n) :=
  ⟨by intros; exact eq_ld rfl rfl,
   by intros; exact eq_ld rfl rfl,
   by intros; exact eq_push rfl,
   by intros; exact eq_i2 (o := mx_add) rfl,
   by intros; exact eq_iald rfl,
   by intros; exact eq_cv rfl rfl (Nat.le_of_ble_eq_true rfl) rfl rfl,
   by intros; exact eq_ic0 rfl,
   by intros; exact eq_push rfl,
   by intros; exact eq_retz rfl,
   by intros; exact eq_ld rfl rfl,
   by intros; exact eq_cv rfl rfl (Nat.le_of_ble_eq_true rfl) rfl rfl,
   by intros; exact eq_ld rfl rfl,
   by intros; exact eq_cv rfl rfl (Nat.le_of_ble_eq_true rfl) rfl rfl,
   by intros; exact eq_ic0 rfl,
   by intros; exact eq_push rfl,
   by intros; exact eq_retz rfl,
   by intros; exact eq_ld rfl rfl,
   by intros; exact eq_ld rfl rfl,
   by intros; exact eq_ld rfl rfl,
   by intros; exact eq_push rfl,
   by intros; exact eq_i2 (o := mx_add) rfl,
   by intros; exact eq_iald rfl,
   by intros; exact eq_ld rfl rfl,
   by intros; exact eq_ld rfl rfl,
   by intros; exact eq_push rfl,
   by intros; exact eq_i2 (o := mx_add) rfl,
   by intros; exact eq_iald rfl,
   by intros; exact eq_cv rfl rfl (Nat.le_of_ble_eq_true rfl) rfl rfl,
   by intros; exact eq_ld rfl rfl,
   by intros; exact eq_ld rfl rfl,
   by intros; exact eq_ld rfl rfl,
   by intros; exact eq_push rfl,
   by intros; exact eq_i2 (o := mx_add) rfl,
   by intros; exact eq_iald rfl,
   by intros; exact eq_ld rfl rfl,
   by intros; exact eq_ld rfl rfl,
   by intros; exact eq_push rfl,
   by intros; exact eq_i2 (o := mx_add) rfl,
   by intros; exact eq_iald rfl,
   by intros; exact eq_cv rfl rfl (Nat.le_of_ble_eq_true rfl) rfl rfl,
   by intros; exact eq_ic0 rfl,
   by intros; exact eq_push rfl,
   by intros; exact eq_retz rfl,
   by intros; exact eq_ld rfl rfl,
   by intros; exact eq_ld rfl rfl,
   by intros; exact eq_ld rfl rfl,
   by intros; exact eq_push rfl,
   by intros; exact eq_i2 (o := mx_add) rfl,
   by intros; exact eq_iald rfl,
   by intros; exact eq_cv rfl rfl (Nat.le_of_ble_eq_true rfl) rfl rfl,
   by intros; exact eq_ld rfl rfl,
   by intros; exact eq_ld rfl rfl,
   by intros; exact eq_ld rfl rfl,
   by intros; exact eq_push rfl,
   by intros; exact eq_i2 (o := mx_add) rfl,
   by intros; exact eq_iald rfl,
   by intros; exact eq_cv rfl rfl (Nat.le_of_ble_eq_true rfl) rfl rfl,
   by intros; exact eq_ic0 rfl,
   by intros; exact eq_push rfl,
   by intros; exact eq_retz rfl,
   by intros; exact eq_ld rfl rfl,
   by intros; exact eq_ld rfl rfl,
   by intros; exact eq_ld rfl rfl,
   by intros; exact eq_push rfl,
   by intros; exact eq_i2 (o := mx_add) rfl,
   by intros; exact eq_iald rfl,
   by intros; exact eq_cv rfl rfl (Nat.le_of_ble_eq_true rfl) rfl rfl,
   by intros; exact eq_ld rfl rfl,
   by intros; exact eq_ld rfl rfl,
   by intros; exact eq_ld rfl rfl⟩
theorem rw_L_law_7 :
  (∀ (d : Nat) (l0 l1 l2 l3 : Option mx_V) (v0 v1 v2 v3 : mx_V) (S h : mx_H) (n : Int), mx_ex d 256 791 [l0, l1, l2, l3] [v0, v1, v2, v3] S h n = mx_ex d 256 792 [l0, l1, l2, l3] [(0, 1), v0, v1, v2, v3] S h n) ∧
  (∀ (d : Nat) (b a : Int) (l0 l1 l2 l3 : Option mx_V) (v2 v3 v4 : mx_V) (S h : mx_H) (n : Int), mx_ex d 256 792 [l0, l1, l2, l3] [(0, b), (0, a), v2, v3, v4] S h n = mx_ex d 256 793 [l0, l1, l2, l3] [(0, mx_w (a + b)), v2, v3, v4] S h n) ∧
  (∀ (d : Nat) (i a : Int) (l0 l1 l2 l3 : Option mx_V) (v2 v3 : mx_V) (S h : mx_H) (n : Int), mx_ex d 256 793 [l0, l1, l2, l3] [(0, i), (2, a), v2, v3] S h n = mx_gd ((S a (-2) = 20 ∨ S a (-2) = 24) ∧ 0 ≤ i ∧ i < S a (-1)) d 256 794 [l0, l1, l2, l3] [(0, h a i), v2, v3] S h n) ∧
  (∀ (d : Nat) (a : Int) (l0 l1 l2 l3 : Option mx_V) (v0 v2 : mx_V) (S h : mx_H) (n : Int), mx_ex (d + 1) 256 794 [l0, l1, l2, l3] [v0, (2, a), v2] S h n = mx_cl (S a (-2) = 13) d 203 [(2, a), v0] 256 797 [l0, l1, l2, l3] [v2] S h n) ∧
  (∀ (d : Nat) (b a : Int) (l0 l1 l2 l3 : Option mx_V) (S h : mx_H) (n : Int), mx_ex d 256 797 [l0, l1, l2, l3] [(0, b), (0, a)] S h n = mx_br (a = b) d 256 1653 800 [l0, l1, l2, l3] [] S h n) ∧
  (∀ (d : Nat) (l0 l1 l2 l3 : Option mx_V) (S h : mx_H) (n : Int), mx_ex d 256 800 [l0, l1, l2, l3] [] S h n = mx_ex d 256 801 [l0, l1, l2, l3] [(0, 0)] S h n) ∧
  (∀ (d : Nat) (x : Int) (l0 l1 l2 l3 : Option mx_V) (S h : mx_H) (n : Int), mx_ex d 256 801 [l0, l1, l2, l3] [(0, x)] S h n = mx_re (0 ≤ x ∧ x ≤ 1) (some (0, x)) S h n) ∧
  (∀ (d : Nat) (x : Int) (l0 l2 l3 : Option mx_V) (S h : mx_H) (n : Int), mx_ex d 256 802 [l0, some (2, x), l2, l3] [] S h n = mx_ex d 256 803 [l0, some (2, x), l2, l3] [(2, x)] S h n) ∧
  (∀ (d : Nat) (x : Int) (l1 l2 l3 : Option mx_V) (v0 : mx_V) (S h : mx_H) (n : Int), mx_ex d 256 803 [some (2, x), l1, l2, l3] [v0] S h n = mx_ex d 256 804 [some (2, x), l1, l2, l3] [(2, x), v0] S h n) ∧
  (∀ (d : Nat) (x : Int) (l0 l1 l2 : Option mx_V) (v0 v1 : mx_V) (S h : mx_H) (n : Int), mx_ex d 256 804 [l0, l1, l2, some (0, x)] [v0, v1] S h n = mx_ex d 256 805 [l0, l1, l2, some (0, x)] [(0, x), v0, v1] S h n) ∧
  (∀ (d : Nat) (l0 l1 l2 l3 : Option mx_V) (v0 v1 v2 : mx_V) (S h : mx_H) (n : Int), mx_ex d 256 805 [l0, l1, l2, l3] [v0, v1, v2] S h n = mx_ex d 256 806 [l0, l1, l2, l3] [(0, 1), v0, v1, v2] S h n) ∧
  (∀ (d : Nat) (b a : Int) (l0 l1 l2 l3 : Option mx_V) (v2 v3 : mx_V) (S h : mx_H) (n : Int), mx_ex d 256 806 [l0, l1, l2, l3] [(0, b), (0, a), v2, v3] S h n = mx_ex d 256 807 [l0, l1, l2, l3] [(0, mx_w (a + b)), v2, v3] S h n) ∧
  (∀ (d : Nat) (i a : Int) (l0 l1 l2 l3 : Option mx_V) (v2 : mx_V) (S h : mx_H) (n : Int), mx_ex d 256 807 [l0, l1, l2, l3] [(0, i), (2, a), v2] S h n = mx_gd ((S a (-2) = 20 ∨ S a (-2) = 24) ∧ 0 ≤ i ∧ i < S a (-1)) d 256 808 [l0, l1, l2, l3] [(0, h a i), v2] S h n) ∧
  (∀ (d : Nat) (x : Int) (l1 l2 l3 : Option mx_V) (v0 v1 : mx_V) (S h : mx_H) (n : Int), mx_ex d 256 808 [some (2, x), l1, l2, l3] [v0, v1] S h n = mx_ex d 256 809 [some (2, x), l1, l2, l3] [(2, x), v0, v1] S h n) ∧
  (∀ (d : Nat) (x : Int) (l0 l1 l2 : Option mx_V) (v0 v1 v2 : mx_V) (S h : mx_H) (n : Int), mx_ex d 256 809 [l0, l1, l2, some (0, x)] [v0, v1, v2] S h n = mx_ex d 256 810 [l0, l1, l2, some (0, x)] [(0, x), v0, v1, v2] S h n) ∧
  (∀ (d : Nat) (l0 l1 l2 l3 : Option mx_V) (v0 v1 v2 v3 : mx_V) (S h : mx_H) (n : Int), mx_ex d 256 810 [l0, l1, l2, l3] [v0, v1, v2, v3] S h n = mx_ex d 256 811 [l0, l1, l2, l3] [(0, 2), v0, v1, v2, v3] S h n) ∧
  (∀ (d : Nat) (b a : Int) (l0 l1 l2 l3 : Option mx_V) (v2 v3 v4 : mx_V) (S h : mx_H) (n : Int), mx_ex d 256 811 [l0, l1, l2, l3] [(0, b), (0, a), v2, v3, v4] S h n = mx_ex d 256 812 [l0, l1, l2, l3] [(0, mx_w (a + b)), v2, v3, v4] S h n) ∧
  (∀ (d : Nat) (i a : Int) (l0 l1 l2 l3 : Option mx_V) (v2 v3 : mx_V) (S h : mx_H) (n : Int), mx_ex d 256 812 [l0, l1, l2, l3] [(0, i), (2, a), v2, v3] S h n = mx_gd ((S a (-2) = 20 ∨ S a (-2) = 24) ∧ 0 ≤ i ∧ i < S a (-1)) d 256 813 [l0, l1, l2, l3] [(0, h a i), v2, v3] S h n) ∧
  (∀ (d : Nat) (x : Int) (l1 l2 l3 : Option mx_V) (v0 v1 v2 : mx_V) (S h : mx_H) (n : Int), mx_ex d 256 813 [some (2, x), l1, l2, l3] [v0, v1, v2] S h n = mx_ex d 256 814 [some (2, x), l1, l2, l3] [(2, x), v0, v1, v2] S h n) ∧
  (∀ (d : Nat) (x : Int) (l0 l1 l2 : Option mx_V) (v0 v1 v2 v3 : mx_V) (S h : mx_H) (n : Int), mx_ex d 256 814 [l0, l1, l2, some (0, x)] [v0, v1, v2, v3] S h n = mx_ex d 256 815 [l0, l1, l2, some (0, x)] [(0, x), v0, v1, v2, v3] S h n) ∧
  (∀ (d : Nat) (l0 l1 l2 l3 : Option mx_V) (v0 v1 v2 v3 v4 : mx_V) (S h : mx_H) (n : Int), mx_ex d 256 815 [l0, l1, l2, l3] [v0, v1, v2, v3, v4] S h n = mx_ex d 256 816 [l0, l1, l2, l3] [(0, 3), v0, v1, v2, v3, v4] S h n) ∧
  (∀ (d : Nat) (b a : Int) (l0 l1 l2 l3 : Option mx_V) (v2 v3 v4 v5 : mx_V) (S h : mx_H) (n : Int), mx_ex d 256 816 [l0, l1, l2, l3] [(0, b), (0, a), v2, v3, v4, v5] S h n = mx_ex d 256 817 [l0, l1, l2, l3] [(0, mx_w (a + b)), v2, v3, v4, v5] S h n) ∧
  (∀ (d : Nat) (i a : Int) (l0 l1 l2 l3 : Option mx_V) (v2 v3 v4 : mx_V) (S h : mx_H) (n : Int), mx_ex d 256 817 [l0, l1, l2, l3] [(0, i), (2, a), v2, v3, v4] S h n = mx_gd ((S a (-2) = 20 ∨ S a (-2) = 24) ∧ 0 ≤ i ∧ i < S a (-1)) d 256 818 [l0, l1, l2, l3] [(0, h a i), v2, v3, v4] S h n) ∧
  (∀ (d : Nat) (x : Int) (l1 l2 l3 : Option mx_V) (v0 v1 v2 v3 : mx_V) (S h : mx_H) (n : Int), mx_ex d 256 818 [some (2, x), l1, l2, l3] [v0, v1, v2, v3] S h n = mx_ex d 256 819 [some (2, x), l1, l2, l3] [(2, x), v0, v1, v2, v3] S h n) ∧
  (∀ (d : Nat) (x : Int) (l0 l1 l2 : Option mx_V) (v0 v1 v2 v3 v4 : mx_V) (S h : mx_H) (n : Int), mx_ex d 256 819 [l0, l1, l2, some (0, x)] [v0, v1, v2, v3, v4] S h n = mx_ex d 256 820 [l0, l1, l2, some (0, x)] [(0, x), v0, v1, v2, v3, v4] S h n) ∧
  (∀ (d : Nat) (l0 l1 l2 l3 : Option mx_V) (v0 v1 v2 v3 v4 v5 : mx_V) (S h : mx_H) (n : Int), mx_ex d 256 820 [l0, l1, l2, l3] [v0, v1, v2, v3, v4, v5] S h n = mx_ex d 256 821 [l0, l1, l2, l3] [(0, 4), v0, v1, v2, v3, v4, v5] S h n) ∧
  (∀ (d : Nat) (b a : Int) (l0 l1 l2 l3 : Option mx_V) (v2 v3 v4 v5 v6 : mx_V) (S h : mx_H) (n : Int), mx_ex d 256 821 [l0, l1, l2, l3] [(0, b), (0, a), v2, v3, v4, v5, v6] S h n = mx_ex d 256 822 [l0, l1, l2, l3] [(0, mx_w (a + b)), v2, v3, v4, v5, v6] S h n) ∧
  (∀ (d : Nat) (i a : Int) (l0 l1 l2 l3 : Option mx_V) (v2 v3 v4 v5 : mx_V) (S h : mx_H) (n : Int), mx_ex d 256 822 [l0, l1, l2, l3] [(0, i), (2, a), v2, v3, v4, v5] S h n = mx_gd ((S a (-2) = 20 ∨ S a (-2) = 24) ∧ 0 ≤ i ∧ i < S a (-1)) d 256 823 [l0, l1, l2, l3] [(0, h a i), v2, v3, v4, v5] S h n) ∧
  (∀ (d : Nat) (a : Int) (l0 l1 l2 l3 : Option mx_V) (v0 v1 v2 v3 : mx_V) (S h : mx_H) (n : Int), mx_ex (d + 1) 256 823 [l0, l1, l2, l3] [v0, v1, v2, v3, (2, a)] S h n = mx_cl (S a (-2) = 7) d 118 [(2, a), v3, v2, v1, v0] 256 826 [l0, l1, l2, l3] [] S h n) ∧
  (∀ (d : Nat) (x : Int) (l0 l1 l3 : Option mx_V) (v0 : mx_V) (S h : mx_H) (n : Int), mx_ex d 256 826 [l0, l1, some (2, x), l3] [v0] S h n = mx_ex d 256 827 [l0, l1, some (2, x), l3] [(2, x), v0] S h n) ∧
  (∀ (d : Nat) (x : Int) (l1 l2 l3 : Option mx_V) (v0 v1 : mx_V) (S h : mx_H) (n : Int), mx_ex d 256 827 [some (2, x), l1, l2, l3] [v0, v1] S h n = mx_ex d 256 828 [some (2, x), l1, l2, l3] [(2, x), v0, v1] S h n) ∧
  (∀ (d : Nat) (x : Int) (l0 l1 l2 : Option mx_V) (v0 v1 v2 : mx_V) (S h : mx_H) (n : Int), mx_ex d 256 828 [l0, l1, l2, some (0, x)] [v0, v1, v2] S h n = mx_ex d 256 829 [l0, l1, l2, some (0, x)] [(0, x), v0, v1, v2] S h n) ∧
  (∀ (d : Nat) (l0 l1 l2 l3 : Option mx_V) (v0 v1 v2 v3 : mx_V) (S h : mx_H) (n : Int), mx_ex d 256 829 [l0, l1, l2, l3] [v0, v1, v2, v3] S h n = mx_ex d 256 830 [l0, l1, l2, l3] [(0, 1), v0, v1, v2, v3] S h n) ∧
  (∀ (d : Nat) (b a : Int) (l0 l1 l2 l3 : Option mx_V) (v2 v3 v4 : mx_V) (S h : mx_H) (n : Int), mx_ex d 256 830 [l0, l1, l2, l3] [(0, b), (0, a), v2, v3, v4] S h n = mx_ex d 256 831 [l0, l1, l2, l3] [(0, mx_w (a + b)), v2, v3, v4] S h n) ∧
  (∀ (d : Nat) (i a : Int) (l0 l1 l2 l3 : Option mx_V) (v2 v3 : mx_V) (S h : mx_H) (n : Int), mx_ex d 256 831 [l0, l1, l2, l3] [(0, i), (2, a), v2, v3] S h n = mx_gd ((S a (-2) = 20 ∨ S a (-2) = 24) ∧ 0 ≤ i ∧ i < S a (-1)) d 256 832 [l0, l1, l2, l3] [(0, h a i), v2, v3] S h n) ∧
  (∀ (d : Nat) (x : Int) (l1 l2 l3 : Option mx_V) (v0 v1 v2 : mx_V) (S h : mx_H) (n : Int), mx_ex d 256 832 [some (2, x), l1, l2, l3] [v0, v1, v2] S h n = mx_ex d 256 833 [some (2, x), l1, l2, l3] [(2, x), v0, v1, v2] S h n) ∧
  (∀ (d : Nat) (x : Int) (l0 l1 l2 : Option mx_V) (v0 v1 v2 v3 : mx_V) (S h : mx_H) (n : Int), mx_ex d 256 833 [l0, l1, l2, some (0, x)] [v0, v1, v2, v3] S h n = mx_ex d 256 834 [l0, l1, l2, some (0, x)] [(0, x), v0, v1, v2, v3] S h n) ∧
  (∀ (d : Nat) (l0 l1 l2 l3 : Option mx_V) (v0 v1 v2 v3 v4 : mx_V) (S h : mx_H) (n : Int), mx_ex d 256 834 [l0, l1, l2, l3] [v0, v1, v2, v3, v4] S h n = mx_ex d 256 835 [l0, l1, l2, l3] [(0, 2), v0, v1, v2, v3, v4] S h n) ∧
  (∀ (d : Nat) (b a : Int) (l0 l1 l2 l3 : Option mx_V) (v2 v3 v4 v5 : mx_V) (S h : mx_H) (n : Int), mx_ex d 256 835 [l0, l1, l2, l3] [(0, b), (0, a), v2, v3, v4, v5] S h n = mx_ex d 256 836 [l0, l1, l2, l3] [(0, mx_w (a + b)), v2, v3, v4, v5] S h n) ∧
  (∀ (d : Nat) (i a : Int) (l0 l1 l2 l3 : Option mx_V) (v2 v3 v4 : mx_V) (S h : mx_H) (n : Int), mx_ex d 256 836 [l0, l1, l2, l3] [(0, i), (2, a), v2, v3, v4] S h n = mx_gd ((S a (-2) = 20 ∨ S a (-2) = 24) ∧ 0 ≤ i ∧ i < S a (-1)) d 256 837 [l0, l1, l2, l3] [(0, h a i), v2, v3, v4] S h n) ∧
  (∀ (d : Nat) (x : Int) (l1 l2 l3 : Option mx_V) (v0 v1 v2 v3 : mx_V) (S h : mx_H) (n : Int), mx_ex d 256 837 [some (2, x), l1, l2, l3] [v0, v1, v2, v3] S h n = mx_ex d 256 838 [some (2, x), l1, l2, l3] [(2, x), v0, v1, v2, v3] S h n) ∧
  (∀ (d : Nat) (x : Int) (l0 l1 l2 : Option mx_V) (v0 v1 v2 v3 v4 : mx_V) (S h : mx_H) (n : Int), mx_ex d 256 838 [l0, l1, l2, some (0, x)] [v0, v1, v2, v3, v4] S h n = mx_ex d 256 839 [l0, l1, l2, some (0, x)] [(0, x), v0, v1, v2, v3, v4] S h n) ∧
  (∀ (d : Nat) (l0 l1 l2 l3 : Option mx_V) (v0 v1 v2 v3 v4 v5 : mx_V) (S h : mx_H) (n : Int), mx_ex d 256 839 [l0, l1, l2, l3] [v0, v1, v2, v3, v4, v5] S h n = mx_ex d 256 840 [l0, l1, l2, l3] [(0, 3), v0, v1, v2, v3, v4, v5] S h n) ∧
  (∀ (d : Nat) (b a : Int) (l0 l1 l2 l3 : Option mx_V) (v2 v3 v4 v5 v6 : mx_V) (S h : mx_H) (n : Int), mx_ex d 256 840 [l0, l1, l2, l3] [(0, b), (0, a), v2, v3, v4, v5, v6] S h n = mx_ex d 256 841 [l0, l1, l2, l3] [(0, mx_w (a + b)), v2, v3, v4, v5, v6] S h n) ∧
  (∀ (d : Nat) (i a : Int) (l0 l1 l2 l3 : Option mx_V) (v2 v3 v4 v5 : mx_V) (S h : mx_H) (n : Int), mx_ex d 256 841 [l0, l1, l2, l3] [(0, i), (2, a), v2, v3, v4, v5] S h n = mx_gd ((S a (-2) = 20 ∨ S a (-2) = 24) ∧ 0 ≤ i ∧ i < S a (-1)) d 256 842 [l0, l1, l2, l3] [(0, h a i), v2, v3, v4, v5] S h n) ∧
  (∀ (d : Nat) (x : Int) (l1 l2 l3 : Option mx_V) (v0 v1 v2 v3 v4 : mx_V) (S h : mx_H) (n : Int), mx_ex d 256 842 [some (2, x), l1, l2, l3] [v0, v1, v2, v3, v4] S h n = mx_ex d 256 843 [some (2, x), l1, l2, l3] [(2, x), v0, v1, v2, v3, v4] S h n) ∧
  (∀ (d : Nat) (x : Int) (l0 l1 l2 : Option mx_V) (v0 v1 v2 v3 v4 v5 : mx_V) (S h : mx_H) (n : Int), mx_ex d 256 843 [l0, l1, l2, some (0, x)] [v0, v1, v2, v3, v4, v5] S h n = mx_ex d 256 844 [l0, l1, l2, some (0, x)] [(0, x), v0, v1, v2, v3, v4, v5] S h n) ∧
  (∀ (d : Nat) (l0 l1 l2 l3 : Option mx_V) (v0 v1 v2 v3 v4 v5 v6 : mx_V) (S h : mx_H) (n : Int), mx_ex d 256 844 [l0, l1, l2, l3] [v0, v1, v2, v3, v4, v5, v6] S h n = mx_ex d 256 845 [l0, l1, l2, l3] [(0, 4), v0, v1, v2, v3, v4, v5, v6] S h n) ∧
  (∀ (d : Nat) (b a : Int) (l0 l1 l2 l3 : Option mx_V) (v2 v3 v4 v5 v6 v7 : mx_V) (S h : mx_H) (n : Int), mx_ex d 256 845 [l0, l1, l2, l3] [(0, b), (0, a), v2, v3, v4, v5, v6, v7] S h n = mx_ex d 256 846 [l0, l1, l2, l3] [(0, mx_w (a + b)), v2, v3, v4, v5, v6, v7] S h n) ∧
  (∀ (d : Nat) (i a : Int) (l0 l1 l2 l3 : Option mx_V) (v2 v3 v4 v5 v6 : mx_V) (S h : mx_H) (n : Int), mx_ex d 256 846 [l0, l1, l2, l3] [(0, i), (2, a), v2, v3, v4, v5, v6] S h n = mx_gd ((S a (-2) = 20 ∨ S a (-2) = 24) ∧ 0 ≤ i ∧ i < S a (-1)) d 256 847 [l0, l1, l2, l3] [(0, h a i), v2, v3, v4, v5, v6] S h n) ∧
  (∀ (d : Nat) (a : Int) (l0 l1 l2 l3 : Option mx_V) (v0 v1 v2 v3 v5 : mx_V) (S h : mx_H) (n : Int), mx_ex (d + 1) 256 847 [l0, l1, l2, l3] [v0, v1, v2, v3, (2, a), v5] S h n = mx_cl (S a (-2) = 13) d 204 [(2, a), v3, v2, v1, v0] 256 850 [l0, l1, l2, l3] [v5] S h n) ∧
  (∀ (d : Nat) (b a : Int) (l0 l1 l2 l3 : Option mx_V) (S h : mx_H) (n : Int), mx_ex d 256 850 [l0, l1, l2, l3] [(0, b), (0, a)] S h n = mx_br (a = b) d 256 1653 853 [l0, l1, l2, l3] [] S h n) ∧
  (∀ (d : Nat) (l0 l1 l2 l3 : Option mx_V) (S h : mx_H) (n : Int), mx_ex d 256 853 [l0, l1, l2, l3] [] S h n = mx_ex d 256 854 [l0, l1, l2, l3] [(0, 0)] S h n) ∧
  (∀ (d : Nat) (x : Int) (l0 l1 l2 l3 : Option mx_V) (S h : mx_H) (n : Int), mx_ex d 256 854 [l0, l1, l2, l3] [(0, x)] S h n = mx_re (0 ≤ x ∧ x ≤ 1) (some (0, x)) S h n) ∧
  (∀ (d : Nat) (x : Int) (l0 l2 l3 : Option mx_V) (S h : mx_H) (n : Int), mx_ex d 256 855 [l0, some (2, x), l2, l3] [] S h n = mx_ex d 256 856 [l0, some (2, x), l2, l3] [(2, x)] S h n) ∧
  (∀ (d : Nat) (a : Int) (l0 l1 l2 l3 : Option mx_V) (S h : mx_H) (n : Int), mx_ex (d + 1) 256 856 [l0, l1, l2, l3] [(2, a)] S h n = mx_cl (S a (-2) = 7) d 119 [(2, a)] 256 859 [l0, l1, l2, l3] [] S h n) ∧
  (∀ (d : Nat) (x : Int) (l0 l1 l3 : Option mx_V) (v0 : mx_V) (S h : mx_H) (n : Int), mx_ex d 256 859 [l0, l1, some (2, x), l3] [v0] S h n = mx_ex d 256 860 [l0, l1, some (2, x), l3] [(2, x), v0] S h n) ∧
  (∀ (d : Nat) (a : Int) (l0 l1 l2 l3 : Option mx_V) (v1 : mx_V) (S h : mx_H) (n : Int), mx_ex (d + 1) 256 860 [l0, l1, l2, l3] [(2, a), v1] S h n = mx_cl (S a (-2) = 13) d 206 [(2, a)] 256 863 [l0, l1, l2, l3] [v1] S h n) ∧
  (∀ (d : Nat) (b a : Int) (l0 l1 l2 l3 : Option mx_V) (S h : mx_H) (n : Int), mx_ex d 256 863 [l0, l1, l2, l3] [(0, b), (0, a)] S h n = mx_br (a = b) d 256 1653 866 [l0, l1, l2, l3] [] S h n) ∧
  (∀ (d : Nat) (l0 l1 l2 l3 : Option mx_V) (S h : mx_H) (n : Int), mx_ex d 256 866 [l0, l1, l2, l3] [] S h n = mx_ex d 256 867 [l0, l1, l2, l3] [(0, 0)] S h n) ∧
  (∀ (d : Nat) (x : Int) (l0 l1 l2 l3 : Option mx_V) (S h : mx_H) (n : Int), mx_ex d 256 867 [l0, l1, l2, l3] [(0, x)] S h n = mx_re (0 ≤ x ∧ x ≤ 1) (some (0, x)) S h n) ∧
  (∀ (d : Nat) (x : Int) (l0 l2 l3 : Option mx_V) (S h : mx_H) (n : Int), mx_ex d 256 868 [l0, some (2, x), l2, l3] [] S h n = mx_ex d 256 869 [l0, some (2, x), l2, l3] [(2, x)] S h n) ∧
  (∀ (d : Nat) (x : Int) (l1 l2 l3 : Option mx_V) (v0 : mx_V) (S h : mx_H) (n : Int), mx_ex d 256 869 [some (2, x), l1, l2, l3] [v0] S h n = mx_ex d 256 870 [some (2, x), l1, l2, l3] [(2, x), v0] S h n) ∧
  (∀ (d : Nat) (x : Int) (l0 l1 l2 : Option mx_V) (v0 v1 : mx_V) (S h : mx_H) (n : Int), mx_ex d 256 870 [l0, l1, l2, some (0, x)] [v0, v1] S h n = mx_ex d 256 871 [l0, l1, l2, some (0, x)] [(0, x), v0, v1] S h n) ∧
  (∀ (d : Nat) (l0 l1 l2 l3 : Option mx_V) (v0 v1 v2 : mx_V) (S h : mx_H) (n : Int), mx_ex d 256 871 [l0, l1, l2, l3] [v0, v1, v2] S h n = mx_ex d 256 872 [l0, l1, l2, l3] [(0, 1), v0, v1, v2] S h n) ∧
  (∀ (d : Nat) (b a : Int) (l0 l1 l2 l3 : Option mx_V) (v2 v3 : mx_V) (S h : mx_H) (n : Int), mx_ex d 256 872 [l0, l1, l2, l3] [(0, b), (0, a), v2, v3] S h n = mx_ex d 256 873 [l0, l1, l2, l3] [(0, mx_w (a + b)), v2, v3] S h n) ∧
  (∀ (d : Nat) (i a : Int) (l0 l1 l2 l3 : Option mx_V) (v2 : mx_V) (S h : mx_H) (n : Int), mx_ex d 256 873 [l0, l1, l2, l3] [(0, i), (2, a), v2] S h n = mx_gd ((S a (-2) = 20 ∨ S a (-2) = 24) ∧ 0 ≤ i ∧ i < S a (-1)) d 256 874 [l0, l1, l2, l3] [(0, h a i), v2] S h n) ∧
  (∀ (d : Nat) (a : Int) (l0 l1 l2 l3 : Option mx_V) (v0 : mx_V) (S h : mx_H) (n : Int), mx_ex (d + 1) 256 874 [l0, l1, l2, l3] [v0, (2, a)] S h n = mx_cl (S a (-2) = 7) d 120 [(2, a), v0] 256 877 [l0, l1, l2, l3] [] S h n) ∧
  (∀ (d : Nat) (x : Int) (l0 l1 l3 : Option mx_V) (v0 : mx_V) (S h : mx_H) (n : Int), mx_ex d 256 877 [l0, l1, some (2, x), l3] [v0] S h n = mx_ex d 256 878 [l0, l1, some (2, x), l3] [(2, x), v0] S h n) ∧
  (∀ (d : Nat) (x : Int) (l1 l2 l3 : Option mx_V) (v0 v1 : mx_V) (S h : mx_H) (n : Int), mx_ex d 256 878 [some (2, x), l1, l2, l3] [v0, v1] S h n = mx_ex d 256 879 [some (2, x), l1, l2, l3] [(2, x), v0, v1] S h n) :=
  ⟨by intros; exact eq_push rfl,
   by intros; exact eq_i2 (o := mx_add) rfl,
   by intros; exact eq_iald rfl,
   by intros; exact eq_cv rfl rfl (Nat.le_of_ble_eq_true rfl) rfl rfl,
   by intros; exact eq_ic0 rfl,
   by intros; exact eq_push rfl,
   by intros; exact eq_retz rfl,
   by intros; exact eq_ld rfl rfl,
   by intros; exact eq_ld rfl rfl,
   by intros; exact eq_ld rfl rfl,
   by intros; exact eq_push rfl,
   by intros; exact eq_i2 (o := mx_add) rfl,
   by intros; exact eq_iald rfl,
   by intros; exact eq_ld rfl rfl,
   by intros; exact eq_ld rfl rfl,
   by intros; exact eq_push rfl,
   by intros; exact eq_i2 (o := mx_add) rfl,
   by intros; exact eq_iald rfl,
   by intros; exact eq_ld rfl rfl,
   by intros; exact eq_ld rfl rfl,
   by intros; exact eq_push rfl,
   by intros; exact eq_i2 (o := mx_add) rfl,
   by intros; exact eq_iald rfl,
   by intros; exact eq_ld rfl rfl,
   by intros; exact eq_ld rfl rfl,
   by intros; exact eq_push rfl,
   by intros; exact eq_i2 (o := mx_add) rfl,
   by intros; exact eq_iald rfl,
   by intros; exact eq_cv rfl rfl (Nat.le_of_ble_eq_true rfl) rfl rfl,
   by intros; exact eq_ld rfl rfl,
   by intros; exact eq_ld rfl rfl,
   by intros; exact eq_ld rfl rfl,
   by intros; exact eq_push rfl,
   by intros; exact eq_i2 (o := mx_add) rfl,
   by intros; exact eq_iald rfl,
   by intros; exact eq_ld rfl rfl,
   by intros; exact eq_ld rfl rfl,
   by intros; exact eq_push rfl,
   by intros; exact eq_i2 (o := mx_add) rfl,
   by intros; exact eq_iald rfl,
   by intros; exact eq_ld rfl rfl,
   by intros; exact eq_ld rfl rfl,
   by intros; exact eq_push rfl,
   by intros; exact eq_i2 (o := mx_add) rfl,
   by intros; exact eq_iald rfl,
   by intros; exact eq_ld rfl rfl,
   by intros; exact eq_ld rfl rfl,
   by intros; exact eq_push rfl,
   by intros; exact eq_i2 (o := mx_add) rfl,
   by intros; exact eq_iald rfl,
   by intros; exact eq_cv rfl rfl (Nat.le_of_ble_eq_true rfl) rfl rfl,
   by intros; exact eq_ic0 rfl,
   by intros; exact eq_push rfl,
   by intros; exact eq_retz rfl,
   by intros; exact eq_ld rfl rfl,
   by intros; exact eq_cv rfl rfl (Nat.le_of_ble_eq_true rfl) rfl rfl,
   by intros; exact eq_ld rfl rfl,
   by intros; exact eq_cv rfl rfl (Nat.le_of_ble_eq_true rfl) rfl rfl,
   by intros; exact eq_ic0 rfl,
   by intros; exact eq_push rfl,
   by intros; exact eq_retz rfl,
   by intros; exact eq_ld rfl rfl,
   by intros; exact eq_ld rfl rfl,
   by intros; exact eq_ld rfl rfl,
   by intros; exact eq_push rfl,
   by intros; exact eq_i2 (o := mx_add) rfl,
   by intros; exact eq_iald rfl,
   by intros; exact eq_cv rfl rfl (Nat.le_of_ble_eq_true rfl) rfl rfl,
   by intros; exact eq_ld rfl rfl,
   by intros; exact eq_ld rfl rfl⟩
theorem rw_L_law_8 :
  (∀ (d : Nat) (x : Int) (l0 l1 l2 : Option mx_V) (v0 v1 v2 : mx_V) (S h : mx_H) (n : Int), mx_ex d 256 879 [l0, l1, l2, some (0, x)] [v0, v1, v2] S h n = mx_ex d 256 880 [l0, l1, l2, some (0, x)] [(0, x), v0, v1, v2] S h n) ∧
  (∀ (d : Nat) (l0 l1 l2 l3 : Option mx_V) (v0 v1 v2 v3 : mx_V) (S h : mx_H) (n : Int), mx_ex d 256 880 [l0, l1, l2, l3] [v0, v1, v2, v3] S h n = mx_ex d 256 881 [l0, l1, l2, l3] [(0, 1), v0, v1, v2, v3] S h n) ∧
  (∀ (d : Nat) (b a : Int) (l0 l1 l2 l3 : Option mx_V) (v2 v3 v4 : mx_V) (S h : mx_H) (n : Int), mx_ex d 256 881 [l0, l1, l2, l3] [(0, b), (0, a), v2, v3, v4] S h n = mx_ex d 256 882 [l0, l1, l2, l3] [(0, mx_w (a + b)), v2, v3, v4] S h n) ∧
  (∀ (d : Nat) (i a : Int) (l0 l1 l2 l3 : Option mx_V) (v2 v3 : mx_V) (S h : mx_H) (n : Int), mx_ex d 256 882 [l0, l1, l2, l3] [(0, i), (2, a), v2, v3] S h n = mx_gd ((S a (-2) = 20 ∨ S a (-2) = 24) ∧ 0 ≤ i ∧ i < S a (-1)) d 256 883 [l0, l1, l2, l3] [(0, h a i), v2, v3] S h n) ∧
  (∀ (d : Nat) (a : Int) (l0 l1 l2 l3 : Option mx_V) (v0 v2 : mx_V) (S h : mx_H) (n : Int), mx_ex (d + 1) 256 883 [l0, l1, l2, l3] [v0, (2, a), v2] S h n = mx_cl (S a (-2) = 13) d 207 [(2, a), v0] 256 886 [l0, l1, l2, l3] [v2] S h n) ∧
  (∀ (d : Nat) (b a : Int) (l0 l1 l2 l3 : Option mx_V) (S h : mx_H) (n : Int), mx_ex d 256 886 [l0, l1, l2, l3] [(0, b), (0, a)] S h n = mx_br (a = b) d 256 1653 889 [l0, l1, l2, l3] [] S h n) ∧
  (∀ (d : Nat) (l0 l1 l2 l3 : Option mx_V) (S h : mx_H) (n : Int), mx_ex d 256 889 [l0, l1, l2, l3] [] S h n = mx_ex d 256 890 [l0, l1, l2, l3] [(0, 0)] S h n) ∧
  (∀ (d : Nat) (x : Int) (l0 l1 l2 l3 : Option mx_V) (S h : mx_H) (n : Int), mx_ex d 256 890 [l0, l1, l2, l3] [(0, x)] S h n = mx_re (0 ≤ x ∧ x ≤ 1) (some (0, x)) S h n) ∧
  (∀ (d : Nat) (x : Int) (l0 l2 l3 : Option mx_V) (S h : mx_H) (n : Int), mx_ex d 256 891 [l0, some (2, x), l2, l3] [] S h n = mx_ex d 256 892 [l0, some (2, x), l2, l3] [(2, x)] S h n) ∧
  (∀ (d : Nat) (x : Int) (l1 l2 l3 : Option mx_V) (v0 : mx_V) (S h : mx_H) (n : Int), mx_ex d 256 892 [some (2, x), l1, l2, l3] [v0] S h n = mx_ex d 256 893 [some (2, x), l1, l2, l3] [(2, x), v0] S h n) ∧
  (∀ (d : Nat) (x : Int) (l0 l1 l2 : Option mx_V) (v0 v1 : mx_V) (S h : mx_H) (n : Int), mx_ex d 256 893 [l0, l1, l2, some (0, x)] [v0, v1] S h n = mx_ex d 256 894 [l0, l1, l2, some (0, x)] [(0, x), v0, v1] S h n) ∧
  (∀ (d : Nat) (l0 l1 l2 l3 : Option mx_V) (v0 v1 v2 : mx_V) (S h : mx_H) (n : Int), mx_ex d 256 894 [l0, l1, l2, l3] [v0, v1, v2] S h n = mx_ex d 256 895 [l0, l1, l2, l3] [(0, 1), v0, v1, v2] S h n) ∧
  (∀ (d : Nat) (b a : Int) (l0 l1 l2 l3 : Option mx_V) (v2 v3 : mx_V) (S h : mx_H) (n : Int), mx_ex d 256 895 [l0, l1, l2, l3] [(0, b), (0, a), v2, v3] S h n = mx_ex d 256 896 [l0, l1, l2, l3] [(0, mx_w (a + b)), v2, v3] S h n) ∧
  (∀ (d : Nat) (i a : Int) (l0 l1 l2 l3 : Option mx_V) (v2 : mx_V) (S h : mx_H) (n : Int), mx_ex d 256 896 [l0, l1, l2, l3] [(0, i), (2, a), v2] S h n = mx_gd ((S a (-2) = 20 ∨ S a (-2) = 24) ∧ 0 ≤ i ∧ i < S a (-1)) d 256 897 [l0, l1, l2, l3] [(0, h a i), v2] S h n) ∧
  (∀ (d : Nat) (a : Int) (l0 l1 l2 l3 : Option mx_V) (v0 : mx_V) (S h : mx_H) (n : Int), mx_ex (d + 1) 256 897 [l0, l1, l2, l3] [v0, (2, a)] S h n = mx_cl (S a (-2) = 7) d 121 [(2, a), v0] 256 900 [l0, l1, l2, l3] [] S h n) ∧
  (∀ (d : Nat) (x : Int) (l0 l1 l3 : Option mx_V) (v0 : mx_V) (S h : mx_H) (n : Int), mx_ex d 256 900 [l0, l1, some (2, x), l3] [v0] S h n = mx_ex d 256 901 [l0, l1, some (2, x), l3] [(2, x), v0] S h n) ∧
  (∀ (d : Nat) (x : Int) (l1 l2 l3 : Option mx_V) (v0 v1 : mx_V) (S h : mx_H) (n : Int), mx_ex d 256 901 [some (2, x), l1, l2, l3] [v0, v1] S h n = mx_ex d 256 902 [some (2, x), l1, l2, l3] [(2, x), v0, v1] S h n) ∧
  (∀ (d : Nat) (x : Int) (l0 l1 l2 : Option mx_V) (v0 v1 v2 : mx_V) (S h : mx_H) (n : Int), mx_ex d 256 902 [l0, l1, l2, some (0, x)] [v0, v1, v2] S h n = mx_ex d 256 903 [l0, l1, l2, some (0, x)] [(0, x), v0, v1, v2] S h n) ∧
  (∀ (d : Nat) (l0 l1 l2 l3 : Option mx_V) (v0 v1 v2 v3 : mx_V) (S h : mx_H) (n : Int), mx_ex d 256 903 [l0, l1, l2, l3] [v0, v1, v2, v3] S h n = mx_ex d 256 904 [l0, l1, l2, l3] [(0, 1), v0, v1, v2, v3] S h n) ∧
  (∀ (d : Nat) (b a : Int) (l0 l1 l2 l3 : Option mx_V) (v2 v3 v4 : mx_V) (S h : mx_H) (n : Int), mx_ex d 256 904 [l0, l1, l2, l3] [(0, b), (0, a), v2, v3, v4] S h n = mx_ex d 256 905 [l0, l1, l2, l3] [(0, mx_w (a + b)), v2, v3, v4] S h n) ∧
  (∀ (d : Nat) (i a : Int) (l0 l1 l2 l3 : Option mx_V) (v2 v3 : mx_V) (S h : mx_H) (n : Int), mx_ex d 256 905 [l0, l1, l2, l3] [(0, i), (2, a), v2, v3] S h n = mx_gd ((S a (-2) = 20 ∨ S a (-2) = 24) ∧ 0 ≤ i ∧ i < S a (-1)) d 256 906 [l0, l1, l2, l3] [(0, h a i), v2, v3] S h n) ∧
  (∀ (d : Nat) (a : Int) (l0 l1 l2 l3 : Option mx_V) (v0 v2 : mx_V) (S h : mx_H) (n : Int), mx_ex (d + 1) 256 906 [l0, l1, l2, l3] [v0, (2, a), v2] S h n = mx_cl (S a (-2) = 13) d 208 [(2, a), v0] 256 909 [l0, l1, l2, l3] [v2] S h n) ∧
  (∀ (d : Nat) (b a : Int) (l0 l1 l2 l3 : Option mx_V) (S h : mx_H) (n : Int), mx_ex d 256 909 [l0, l1, l2, l3] [(0, b), (0, a)] S h n = mx_br (a = b) d 256 1653 912 [l0, l1, l2, l3] [] S h n) ∧
  (∀ (d : Nat) (l0 l1 l2 l3 : Option mx_V) (S h : mx_H) (n : Int), mx_ex d 256 912 [l0, l1, l2, l3] [] S h n = mx_ex d 256 913 [l0, l1, l2, l3] [(0, 0)] S h n) ∧
  (∀ (d : Nat) (x : Int) (l0 l1 l2 l3 : Option mx_V) (S h : mx_H) (n : Int), mx_ex d 256 913 [l0, l1, l2, l3] [(0, x)] S h n = mx_re (0 ≤ x ∧ x ≤ 1) (some (0, x)) S h n) ∧
  (∀ (d : Nat) (x : Int) (l0 l2 l3 : Option mx_V) (S h : mx_H) (n : Int), mx_ex d 256 914 [l0, some (2, x), l2, l3] [] S h n = mx_ex d 256 915 [l0, some (2, x), l2, l3] [(2, x)] S h n) ∧
  (∀ (d : Nat) (x : Int) (l1 l2 l3 : Option mx_V) (v0 : mx_V) (S h : mx_H) (n : Int), mx_ex d 256 915 [some (2, x), l1, l2, l3] [v0] S h n = mx_ex d 256 916 [some (2, x), l1, l2, l3] [(2, x), v0] S h n) ∧
  (∀ (d : Nat) (x : Int) (l0 l1 l2 : Option mx_V) (v0 v1 : mx_V) (S h : mx_H) (n : Int), mx_ex d 256 916 [l0, l1, l2, some (0, x)] [v0, v1] S h n = mx_ex d 256 917 [l0, l1, l2, some (0, x)] [(0, x), v0, v1] S h n) ∧
  (∀ (d : Nat) (l0 l1 l2 l3 : Option mx_V) (v0 v1 v2 : mx_V) (S h : mx_H) (n : Int), mx_ex d 256 917 [l0, l1, l2, l3] [v0, v1, v2] S h n = mx_ex d 256 918 [l0, l1, l2, l3] [(0, 1), v0, v1, v2] S h n) ∧
  (∀ (d : Nat) (b a : Int) (l0 l1 l2 l3 : Option mx_V) (v2 v3 : mx_V) (S h : mx_H) (n : Int), mx_ex d 256 918 [l0, l1, l2, l3] [(0, b), (0, a), v2, v3] S h n = mx_ex d 256 919 [l0, l1, l2, l3] [(0, mx_w (a + b)), v2, v3] S h n) ∧
  (∀ (d : Nat) (i a : Int) (l0 l1 l2 l3 : Option mx_V) (v2 : mx_V) (S h : mx_H) (n : Int), mx_ex d 256 919 [l0, l1, l2, l3] [(0, i), (2, a), v2] S h n = mx_gd ((S a (-2) = 20 ∨ S a (-2) = 24) ∧ 0 ≤ i ∧ i < S a (-1)) d 256 920 [l0, l1, l2, l3] [(0, h a i), v2] S h n) ∧
  (∀ (d : Nat) (x : Int) (l1 l2 l3 : Option mx_V) (v0 v1 : mx_V) (S h : mx_H) (n : Int), mx_ex d 256 920 [some (2, x), l1, l2, l3] [v0, v1] S h n = mx_ex d 256 921 [some (2, x), l1, l2, l3] [(2, x), v0, v1] S h n) ∧
  (∀ (d : Nat) (x : Int) (l0 l1 l2 : Option mx_V) (v0 v1 v2 : mx_V) (S h : mx_H) (n : Int), mx_ex d 256 921 [l0, l1, l2, some (0, x)] [v0, v1, v2] S h n = mx_ex d 256 922 [l0, l1, l2, some (0, x)] [(0, x), v0, v1, v2] S h n) ∧
  (∀ (d : Nat) (l0 l1 l2 l3 : Option mx_V) (v0 v1 v2 v3 : mx_V) (S h : mx_H) (n : Int), mx_ex d 256 922 [l0, l1, l2, l3] [v0, v1, v2, v3] S h n = mx_ex d 256 923 [l0, l1, l2, l3] [(0, 2), v0, v1, v2, v3] S h n) ∧
  (∀ (d : Nat) (b a : Int) (l0 l1 l2 l3 : Option mx_V) (v2 v3 v4 : mx_V) (S h : mx_H) (n : Int), mx_ex d 256 923 [l0, l1, l2, l3] [(0, b), (0, a), v2, v3, v4] S h n = mx_ex d 256 924 [l0, l1, l2, l3] [(0, mx_w (a + b)), v2, v3, v4] S h n) ∧
  (∀ (d : Nat) (i a : Int) (l0 l1 l2 l3 : Option mx_V) (v2 v3 : mx_V) (S h : mx_H) (n : Int), mx_ex d 256 924 [l0, l1, l2, l3] [(0, i), (2, a), v2, v3] S h n = mx_gd ((S a (-2) = 20 ∨ S a (-2) = 24) ∧ 0 ≤ i ∧ i < S a (-1)) d 256 925 [l0, l1, l2, l3] [(0, h a i), v2, v3] S h n) ∧
  (∀ (d : Nat) (x : Int) (l1 l2 l3 : Option mx_V) (v0 v1 v2 : mx_V) (S h : mx_H) (n : Int), mx_ex d 256 925 [some (2, x), l1, l2, l3] [v0, v1, v2] S h n = mx_ex d 256 926 [some (2, x), l1, l2, l3] [(2, x), v0, v1, v2] S h n) ∧
  (∀ (d : Nat) (x : Int) (l0 l1 l2 : Option mx_V) (v0 v1 v2 v3 : mx_V) (S h : mx_H) (n : Int), mx_ex d 256 926 [l0, l1, l2, some (0, x)] [v0, v1, v2, v3] S h n = mx_ex d 256 927 [l0, l1, l2, some (0, x)] [(0, x), v0, v1, v2, v3] S h n) ∧
  (∀ (d : Nat) (l0 l1 l2 l3 : Option mx_V) (v0 v1 v2 v3 v4 : mx_V) (S h : mx_H) (n : Int), mx_ex d 256 927 [l0, l1, l2, l3] [v0, v1, v2, v3, v4] S h n = mx_ex d 256 928 [l0, l1, l2, l3] [(0, 3), v0, v1, v2, v3, v4] S h n) ∧
  (∀ (d : Nat) (b a : Int) (l0 l1 l2 l3 : Option mx_V) (v2 v3 v4 v5 : mx_V) (S h : mx_H) (n : Int), mx_ex d 256 928 [l0, l1, l2, l3] [(0, b), (0, a), v2, v3, v4, v5] S h n = mx_ex d 256 929 [l0, l1, l2, l3] [(0, mx_w (a + b)), v2, v3, v4, v5] S h n) ∧
  (∀ (d : Nat) (i a : Int) (l0 l1 l2 l3 : Option mx_V) (v2 v3 v4 : mx_V) (S h : mx_H) (n : Int), mx_ex d 256 929 [l0, l1, l2, l3] [(0, i), (2, a), v2, v3, v4] S h n = mx_gd ((S a (-2) = 20 ∨ S a (-2) = 24) ∧ 0 ≤ i ∧ i < S a (-1)) d 256 930 [l0, l1, l2, l3] [(0, h a i), v2, v3, v4] S h n) ∧
  (∀ (d : Nat) (a : Int) (l0 l1 l2 l3 : Option mx_V) (v0 v1 v2 : mx_V) (S h : mx_H) (n : Int), mx_ex (d + 1) 256 930 [l0, l1, l2, l3] [v0, v1, v2, (2, a)] S h n = mx_cl (S a (-2) = 7) d 122 [(2, a), v2, v1, v0] 256 933 [l0, l1, l2, l3] [] S h n) ∧
  (∀ (d : Nat) (x : Int) (l0 l1 l3 : Option mx_V) (v0 : mx_V) (S h : mx_H) (n : Int), mx_ex d 256 933 [l0, l1, some (2, x), l3] [v0] S h n = mx_ex d 256 934 [l0, l1, some (2, x), l3] [(2, x), v0] S h n) ∧
  (∀ (d : Nat) (x : Int) (l1 l2 l3 : Option mx_V) (v0 v1 : mx_V) (S h : mx_H) (n : Int), mx_ex d 256 934 [some (2, x), l1, l2, l3] [v0, v1] S h n = mx_ex d 256 935 [some (2, x), l1, l2, l3] [(2, x), v0, v1] S h n) ∧
  (∀ (d : Nat) (x : Int) (l0 l1 l2 : Option mx_V) (v0 v1 v2 : mx_V) (S h : mx_H) (n : Int), mx_ex d 256 935 [l0, l1, l2, some (0, x)] [v0, v1, v2] S h n = mx_ex d 256 936 [l0, l1, l2, some (0, x)] [(0, x), v0, v1, v2] S h n) ∧
  (∀ (d : Nat) (l0 l1 l2 l3 : Option mx_V) (v0 v1 v2 v3 : mx_V) (S h : mx_H) (n : Int), mx_ex d 256 936 [l0, l1, l2, l3] [v0, v1, v2, v3] S h n = mx_ex d 256 937 [l0, l1, l2, l3] [(0, 1), v0, v1, v2, v3] S h n) ∧
  (∀ (d : Nat) (b a : Int) (l0 l1 l2 l3 : Option mx_V) (v2 v3 v4 : mx_V) (S h : mx_H) (n : Int), mx_ex d 256 937 [l0, l1, l2, l3] [(0, b), (0, a), v2, v3, v4] S h n = mx_ex d 256 938 [l0, l1, l2, l3] [(0, mx_w (a + b)), v2, v3, v4] S h n) ∧
  (∀ (d : Nat) (i a : Int) (l0 l1 l2 l3 : Option mx_V) (v2 v3 : mx_V) (S h : mx_H) (n : Int), mx_ex d 256 938 [l0, l1, l2, l3] [(0, i), (2, a), v2, v3] S h n = mx_gd ((S a (-2) = 20 ∨ S a (-2) = 24) ∧ 0 ≤ i ∧ i < S a (-1)) d 256 939 [l0, l1, l2, l3] [(0, h a i), v2, v3] S h n) ∧
  (∀ (d : Nat) (x : Int) (l1 l2 l3 : Option mx_V) (v0 v1 v2 : mx_V) (S h : mx_H) (n : Int), mx_ex d 256 939 [some (2, x), l1, l2, l3] [v0, v1, v2] S h n = mx_ex d 256 940 [some (2, x), l1, l2, l3] [(2, x), v0, v1, v2] S h n) ∧
  (∀ (d : Nat) (x : Int) (l0 l1 l2 : Option mx_V) (v0 v1 v2 v3 : mx_V) (S h : mx_H) (n : Int), mx_ex d 256 940 [l0, l1, l2, some (0, x)] [v0, v1, v2, v3] S h n = mx_ex d 256 941 [l0, l1, l2, some (0, x)] [(0, x), v0, v1, v2, v3] S h n) ∧
  (∀ (d : Nat) (l0 l1 l2 l3 : Option mx_V) (v0 v1 v2 v3 v4 : mx_V) (S h : mx_H) (n : Int), mx_ex d 256 941 [l0, l1, l2, l3] [v0, v1, v2, v3, v4] S h n = mx_ex d 256 942 [l0, l1, l2, l3] [(0, 2), v0, v1, v2, v3, v4] S h n) ∧
  (∀ (d : Nat) (b a : Int) (l0 l1 l2 l3 : Option mx_V) (v2 v3 v4 v5 : mx_V) (S h : mx_H) (n : Int), mx_ex d 256 942 [l0, l1, l2, l3] [(0, b), (0, a), v2, v3, v4, v5] S h n = mx_ex d 256 943 [l0, l1, l2, l3] [(0, mx_w (a + b)), v2, v3, v4, v5] S h n) ∧
  (∀ (d : Nat) (i a : Int) (l0 l1 l2 l3 : Option mx_V) (v2 v3 v4 : mx_V) (S h : mx_H) (n : Int), mx_ex d 256 943 [l0, l1, l2, l3] [(0, i), (2, a), v2, v3, v4] S h n = mx_gd ((S a (-2) = 20 ∨ S a (-2) = 24) ∧ 0 ≤ i ∧ i < S a (-1)) d 256 944 [l0, l1, l2, l3] [(0, h a i), v2, v3, v4] S h n) ∧
  (∀ (d : Nat) (x : Int) (l1 l2 l3 : Option mx_V) (v0 v1 v2 v3 : mx_V) (S h : mx_H) (n : Int), mx_ex d 256 944 [some (2, x), l1, l2, l3] [v0, v1, v2, v3] S h n = mx_ex d 256 945 [some (2, x), l1, l2, l3] [(2, x), v0, v1, v2, v3] S h n) ∧
  (∀ (d : Nat) (x : Int) (l0 l1 l2 : Option mx_V) (v0 v1 v2 v3 v4 : mx_V) (S h : mx_H) (n : Int), mx_ex d 256 945 [l0, l1, l2, some (0, x)] [v0, v1, v2, v3, v4] S h n = mx_ex d 256 946 [l0, l1, l2, some (0, x)] [(0, x), v0, v1, v2, v3, v4] S h n) ∧
  (∀ (d : Nat) (l0 l1 l2 l3 : Option mx_V) (v0 v1 v2 v3 v4 v5 : mx_V) (S h : mx_H) (n : Int), mx_ex d 256 946 [l0, l1, l2, l3] [v0, v1, v2, v3, v4, v5] S h n = mx_ex d 256 947 [l0, l1, l2, l3] [(0, 3), v0, v1, v2, v3, v4, v5] S h n) ∧
  (∀ (d : Nat) (b a : Int) (l0 l1 l2 l3 : Option mx_V) (v2 v3 v4 v5 v6 : mx_V) (S h : mx_H) (n : Int), mx_ex d 256 947 [l0, l1, l2, l3] [(0, b), (0, a), v2, v3, v4, v5, v6] S h n = mx_ex d 256 948 [l0, l1, l2, l3] [(0, mx_w (a + b)), v2, v3, v4, v5, v6] S h n) ∧
  (∀ (d : Nat) (i a : Int) (l0 l1 l2 l3 : Option mx_V) (v2 v3 v4 v5 : mx_V) (S h : mx_H) (n : Int), mx_ex d 256 948 [l0, l1, l2, l3] [(0, i), (2, a), v2, v3, v4, v5] S h n = mx_gd ((S a (-2) = 20 ∨ S a (-2) = 24) ∧ 0 ≤ i ∧ i < S a (-1)) d 256 949 [l0, l1, l2, l3] [(0, h a i), v2, v3, v4, v5] S h n) ∧
  (∀ (d : Nat) (a : Int) (l0 l1 l2 l3 : Option mx_V) (v0 v1 v2 v4 : mx_V) (S h : mx_H) (n : Int), mx_ex (d + 1) 256 949 [l0, l1, l2, l3] [v0, v1, v2, (2, a), v4] S h n = mx_cl (S a (-2) = 13) d 209 [(2, a), v2, v1, v0] 256 952 [l0, l1, l2, l3] [v4] S h n) ∧
  (∀ (d : Nat) (b a : Int) (l0 l1 l2 l3 : Option mx_V) (S h : mx_H) (n : Int), mx_ex d 256 952 [l0, l1, l2, l3] [(1, b), (1, a)] S h n = mx_ex d 256 953 [l0, l1, l2, l3] [(0, mx_cmp a b)] S h n) ∧
  (∀ (d : Nat) (a : Int) (l0 l1 l2 l3 : Option mx_V) (S h : mx_H) (n : Int), mx_ex d 256 953 [l0, l1, l2, l3] [(0, a)] S h n = mx_br (a = 0) d 256 1653 956 [l0, l1, l2, l3] [] S h n) ∧
  (∀ (d : Nat) (l0 l1 l2 l3 : Option mx_V) (S h : mx_H) (n : Int), mx_ex d 256 956 [l0, l1, l2, l3] [] S h n = mx_ex d 256 957 [l0, l1, l2, l3] [(0, 0)] S h n) ∧
  (∀ (d : Nat) (x : Int) (l0 l1 l2 l3 : Option mx_V) (S h : mx_H) (n : Int), mx_ex d 256 957 [l0, l1, l2, l3] [(0, x)] S h n = mx_re (0 ≤ x ∧ x ≤ 1) (some (0, x)) S h n) ∧
  (∀ (d : Nat) (x : Int) (l0 l2 l3 : Option mx_V) (S h : mx_H) (n : Int), mx_ex d 256 958 [l0, some (2, x), l2, l3] [] S h n = mx_ex d 256 959 [l0, some (2, x), l2, l3] [(2, x)] S h n) ∧
  (∀ (d : Nat) (x : Int) (l1 l2 l3 : Option mx_V) (v0 : mx_V) (S h : mx_H) (n : Int), mx_ex d 256 959 [some (2, x), l1, l2, l3] [v0] S h n = mx_ex d 256 960 [some (2, x), l1, l2, l3] [(2, x), v0] S h n) ∧
  (∀ (d : Nat) (x : Int) (l0 l1 l2 : Option mx_V) (v0 v1 : mx_V) (S h : mx_H) (n : Int), mx_ex d 256 960 [l0, l1, l2, some (0, x)] [v0, v1] S h n = mx_ex d 256 961 [l0, l1, l2, some (0, x)] [(0, x), v0, v1] S h n) ∧
  (∀ (d : Nat) (l0 l1 l2 l3 : Option mx_V) (v0 v1 v2 : mx_V) (S h : mx_H) (n : Int), mx_ex d 256 961 [l0, l1, l2, l3] [v0, v1, v2] S h n = mx_ex d 256 962 [l0, l1, l2, l3] [(0, 1), v0, v1, v2] S h n) ∧
  (∀ (d : Nat) (b a : Int) (l0 l1 l2 l3 : Option mx_V) (v2 v3 : mx_V) (S h : mx_H) (n : Int), mx_ex d 256 962 [l0, l1, l2, l3] [(0, b), (0, a), v2, v3] S h n = mx_ex d 256 963 [l0, l1, l2, l3] [(0, mx_w (a + b)), v2, v3] S h n) ∧
  (∀ (d : Nat) (i a : Int) (l0 l1 l2 l3 : Option mx_V) (v2 : mx_V) (S h : mx_H) (n : Int), mx_ex d 256 963 [l0, l1, l2, l3] [(0, i), (2, a), v2] S h n = mx_gd ((S a (-2) = 20 ∨ S a (-2) = 24) ∧ 0 ≤ i ∧ i < S a (-1)) d 256 964 [l0, l1, l2, l3] [(0, h a i), v2] S h n) ∧
  (∀ (d : Nat) (x : Int) (l1 l2 l3 : Option mx_V) (v0 v1 : mx_V) (S h : mx_H) (n : Int), mx_ex d 256 964 [some (2, x), l1, l2, l3] [v0, v1] S h n = mx_ex d 256 965 [some (2, x), l1, l2, l3] [(2, x), v0, v1] S h n) :=
  ⟨by intros; exact eq_ld rfl rfl,
   by intros; exact eq_push rfl,
   by intros; exact eq_i2 (o := mx_add) rfl,
   by intros; exact eq_iald rfl,
   by intros; exact eq_cv rfl rfl (Nat.le_of_ble_eq_true rfl) rfl rfl,
   by intros; exact eq_ic0 rfl,
   by intros; exact eq_push rfl,
   by intros; exact eq_retz rfl,
   by intros; exact eq_ld rfl rfl,
   by intros; exact eq_ld rfl rfl,
   by intros; exact eq_ld rfl rfl,
   by intros; exact eq_push rfl,
   by intros; exact eq_i2 (o := mx_add) rfl,
   by intros; exact eq_iald rfl,
   by intros; exact eq_cv rfl rfl (Nat.le_of_ble_eq_true rfl) rfl rfl,
   by intros; exact eq_ld rfl rfl,
   by intros; exact eq_ld rfl rfl,
   by intros; exact eq_ld rfl rfl,
   by intros; exact eq_push rfl,
   by intros; exact eq_i2 (o := mx_add) rfl,
   by intros; exact eq_iald rfl,
   by intros; exact eq_cv rfl rfl (Nat.le_of_ble_eq_true rfl) rfl rfl,
   by intros; exact eq_ic0 rfl,
   by intros; exact eq_push rfl,
   by intros; exact eq_retz rfl,
   by intros; exact eq_ld rfl rfl,
   by intros; exact eq_ld rfl rfl,
   by intros; exact eq_ld rfl rfl,
   by intros; exact eq_push rfl,
   by intros; exact eq_i2 (o := mx_add) rfl,
   by intros; exact eq_iald rfl,
   by intros; exact eq_ld rfl rfl,
   by intros; exact eq_ld rfl rfl,
   by intros; exact eq_push rfl,
   by intros; exact eq_i2 (o := mx_add) rfl,
   by intros; exact eq_iald rfl,
   by intros; exact eq_ld rfl rfl,
   by intros; exact eq_ld rfl rfl,
   by intros; exact eq_push rfl,
   by intros; exact eq_i2 (o := mx_add) rfl,
   by intros; exact eq_iald rfl,
   by intros; exact eq_cv rfl rfl (Nat.le_of_ble_eq_true rfl) rfl rfl,
   by intros; exact eq_ld rfl rfl,
   by intros; exact eq_ld rfl rfl,
   by intros; exact eq_ld rfl rfl,
   by intros; exact eq_push rfl,
   by intros; exact eq_i2 (o := mx_add) rfl,
   by intros; exact eq_iald rfl,
   by intros; exact eq_ld rfl rfl,
   by intros; exact eq_ld rfl rfl,
   by intros; exact eq_push rfl,
   by intros; exact eq_i2 (o := mx_add) rfl,
   by intros; exact eq_iald rfl,
   by intros; exact eq_ld rfl rfl,
   by intros; exact eq_ld rfl rfl,
   by intros; exact eq_push rfl,
   by intros; exact eq_i2 (o := mx_add) rfl,
   by intros; exact eq_iald rfl,
   by intros; exact eq_cv rfl rfl (Nat.le_of_ble_eq_true rfl) rfl rfl,
   by intros; exact eq_lcmp rfl,
   by intros; exact eq_if0 rfl,
   by intros; exact eq_push rfl,
   by intros; exact eq_retz rfl,
   by intros; exact eq_ld rfl rfl,
   by intros; exact eq_ld rfl rfl,
   by intros; exact eq_ld rfl rfl,
   by intros; exact eq_push rfl,
   by intros; exact eq_i2 (o := mx_add) rfl,
   by intros; exact eq_iald rfl,
   by intros; exact eq_ld rfl rfl⟩
theorem rw_L_law_9 :
  (∀ (d : Nat) (x : Int) (l0 l1 l2 : Option mx_V) (v0 v1 v2 : mx_V) (S h : mx_H) (n : Int), mx_ex d 256 965 [l0, l1, l2, some (0, x)] [v0, v1, v2] S h n = mx_ex d 256 966 [l0, l1, l2, some (0, x)] [(0, x), v0, v1, v2] S h n) ∧
  (∀ (d : Nat) (l0 l1 l2 l3 : Option mx_V) (v0 v1 v2 v3 : mx_V) (S h : mx_H) (n : Int), mx_ex d 256 966 [l0, l1, l2, l3] [v0, v1, v2, v3] S h n = mx_ex d 256 967 [l0, l1, l2, l3] [(0, 2), v0, v1, v2, v3] S h n) ∧
  (∀ (d : Nat) (b a : Int) (l0 l1 l2 l3 : Option mx_V) (v2 v3 v4 : mx_V) (S h : mx_H) (n : Int), mx_ex d 256 967 [l0, l1, l2, l3] [(0, b), (0, a), v2, v3, v4] S h n = mx_ex d 256 968 [l0, l1, l2, l3] [(0, mx_w (a + b)), v2, v3, v4] S h n) ∧
  (∀ (d : Nat) (i a : Int) (l0 l1 l2 l3 : Option mx_V) (v2 v3 : mx_V) (S h : mx_H) (n : Int), mx_ex d 256 968 [l0, l1, l2, l3] [(0, i), (2, a), v2, v3] S h n = mx_gd ((S a (-2) = 20 ∨ S a (-2) = 24) ∧ 0 ≤ i ∧ i < S a (-1)) d 256 969 [l0, l1, l2, l3] [(0, h a i), v2, v3] S h n) ∧
  (∀ (d : Nat) (x : Int) (l1 l2 l3 : Option mx_V) (v0 v1 v2 : mx_V) (S h : mx_H) (n : Int), mx_ex d 256 969 [some (2, x), l1, l2, l3] [v0, v1, v2] S h n = mx_ex d 256 970 [some (2, x), l1, l2, l3] [(2, x), v0, v1, v2] S h n) ∧
  (∀ (d : Nat) (x : Int) (l0 l1 l2 : Option mx_V) (v0 v1 v2 v3 : mx_V) (S h : mx_H) (n : Int), mx_ex d 256 970 [l0, l1, l2, some (0, x)] [v0, v1, v2, v3] S h n = mx_ex d 256 971 [l0, l1, l2, some (0, x)] [(0, x), v0, v1, v2, v3] S h n) ∧
  (∀ (d : Nat) (l0 l1 l2 l3 : Option mx_V) (v0 v1 v2 v3 v4 : mx_V) (S h : mx_H) (n : Int), mx_ex d 256 971 [l0, l1, l2, l3] [v0, v1, v2, v3, v4] S h n = mx_ex d 256 972 [l0, l1, l2, l3] [(0, 3), v0, v1, v2, v3, v4] S h n) ∧
  (∀ (d : Nat) (b a : Int) (l0 l1 l2 l3 : Option mx_V) (v2 v3 v4 v5 : mx_V) (S h : mx_H) (n : Int), mx_ex d 256 972 [l0, l1, l2, l3] [(0, b), (0, a), v2, v3, v4, v5] S h n = mx_ex d 256 973 [l0, l1, l2, l3] [(0, mx_w (a + b)), v2, v3, v4, v5] S h n) ∧
  (∀ (d : Nat) (i a : Int) (l0 l1 l2 l3 : Option mx_V) (v2 v3 v4 : mx_V) (S h : mx_H) (n : Int), mx_ex d 256 973 [l0, l1, l2, l3] [(0, i), (2, a), v2, v3, v4] S h n = mx_gd ((S a (-2) = 20 ∨ S a (-2) = 24) ∧ 0 ≤ i ∧ i < S a (-1)) d 256 974 [l0, l1, l2, l3] [(0, h a i), v2, v3, v4] S h n) ∧
  (∀ (d : Nat) (a : Int) (l0 l1 l2 l3 : Option mx_V) (v0 v1 v2 : mx_V) (S h : mx_H) (n : Int), mx_ex (d + 1) 256 974 [l0, l1, l2, l3] [v0, v1, v2, (2, a)] S h n = mx_cl (S a (-2) = 7) d 123 [(2, a), v2, v1, v0] 256 977 [l0, l1, l2, l3] [] S h n) ∧
  (∀ (d : Nat) (x : Int) (l0 l1 l3 : Option mx_V) (v0 : mx_V) (S h : mx_H) (n : Int), mx_ex d 256 977 [l0, l1, some (2, x), l3] [v0] S h n = mx_ex d 256 978 [l0, l1, some (2, x), l3] [(2, x), v0] S h n) ∧
  (∀ (d : Nat) (x : Int) (l1 l2 l3 : Option mx_V) (v0 v1 : mx_V) (S h : mx_H) (n : Int), mx_ex d 256 978 [some (2, x), l1, l2, l3] [v0, v1] S h n = mx_ex d 256 979 [some (2, x), l1, l2, l3] [(2, x), v0, v1] S h n) ∧
  (∀ (d : Nat) (x : Int) (l0 l1 l2 : Option mx_V) (v0 v1 v2 : mx_V) (S h : mx_H) (n : Int), mx_ex d 256 979 [l0, l1, l2, some (0, x)] [v0, v1, v2] S h n = mx_ex d 256 980 [l0, l1, l2, some (0, x)] [(0, x), v0, v1, v2] S h n) ∧
  (∀ (d : Nat) (l0 l1 l2 l3 : Option mx_V) (v0 v1 v2 v3 : mx_V) (S h : mx_H) (n : Int), mx_ex d 256 980 [l0, l1, l2, l3] [v0, v1, v2, v3] S h n = mx_ex d 256 981 [l0, l1, l2, l3] [(0, 1), v0, v1, v2, v3] S h n) ∧
  (∀ (d : Nat) (b a : Int) (l0 l1 l2 l3 : Option mx_V) (v2 v3 v4 : mx_V) (S h : mx_H) (n : Int), mx_ex d 256 981 [l0, l1, l2, l3] [(0, b), (0, a), v2, v3, v4] S h n = mx_ex d 256 982 [l0, l1, l2, l3] [(0, mx_w (a + b)), v2, v3, v4] S h n) ∧
  (∀ (d : Nat) (i a : Int) (l0 l1 l2 l3 : Option mx_V) (v2 v3 : mx_V) (S h : mx_H) (n : Int), mx_ex d 256 982 [l0, l1, l2, l3] [(0, i), (2, a), v2, v3] S h n = mx_gd ((S a (-2) = 20 ∨ S a (-2) = 24) ∧ 0 ≤ i ∧ i < S a (-1)) d 256 983 [l0, l1, l2, l3] [(0, h a i), v2, v3] S h n) ∧
  (∀ (d : Nat) (x : Int) (l1 l2 l3 : Option mx_V) (v0 v1 v2 : mx_V) (S h : mx_H) (n : Int), mx_ex d 256 983 [some (2, x), l1, l2, l3] [v0, v1, v2] S h n = mx_ex d 256 984 [some (2, x), l1, l2, l3] [(2, x), v0, v1, v2] S h n) ∧
  (∀ (d : Nat) (x : Int) (l0 l1 l2 : Option mx_V) (v0 v1 v2 v3 : mx_V) (S h : mx_H) (n : Int), mx_ex d 256 984 [l0, l1, l2, some (0, x)] [v0, v1, v2, v3] S h n = mx_ex d 256 985 [l0, l1, l2, some (0, x)] [(0, x), v0, v1, v2, v3] S h n) ∧
  (∀ (d : Nat) (l0 l1 l2 l3 : Option mx_V) (v0 v1 v2 v3 v4 : mx_V) (S h : mx_H) (n : Int), mx_ex d 256 985 [l0, l1, l2, l3] [v0, v1, v2, v3, v4] S h n = mx_ex d 256 986 [l0, l1, l2, l3] [(0, 2), v0, v1, v2, v3, v4] S h n) ∧
  (∀ (d : Nat) (b a : Int) (l0 l1 l2 l3 : Option mx_V) (v2 v3 v4 v5 : mx_V) (S h : mx_H) (n : Int), mx_ex d 256 986 [l0, l1, l2, l3] [(0, b), (0, a), v2, v3, v4, v5] S h n = mx_ex d 256 987 [l0, l1, l2, l3] [(0, mx_w (a + b)), v2, v3, v4, v5] S h n) ∧
  (∀ (d : Nat) (i a : Int) (l0 l1 l2 l3 : Option mx_V) (v2 v3 v4 : mx_V) (S h : mx_H) (n : Int), mx_ex d 256 987 [l0, l1, l2, l3] [(0, i), (2, a), v2, v3, v4] S h n = mx_gd ((S a (-2) = 20 ∨ S a (-2) = 24) ∧ 0 ≤ i ∧ i < S a (-1)) d 256 988 [l0, l1, l2, l3] [(0, h a i), v2, v3, v4] S h n) ∧
  (∀ (d : Nat) (x : Int) (l1 l2 l3 : Option mx_V) (v0 v1 v2 v3 : mx_V) (S h : mx_H) (n : Int), mx_ex d 256 988 [some (2, x), l1, l2, l3] [v0, v1, v2, v3] S h n = mx_ex d 256 989 [some (2, x), l1, l2, l3] [(2, x), v0, v1, v2, v3] S h n) ∧
  (∀ (d : Nat) (x : Int) (l0 l1 l2 : Option mx_V) (v0 v1 v2 v3 v4 : mx_V) (S h : mx_H) (n : Int), mx_ex d 256 989 [l0, l1, l2, some (0, x)] [v0, v1, v2, v3, v4] S h n = mx_ex d 256 990 [l0, l1, l2, some (0, x)] [(0, x), v0, v1, v2, v3, v4] S h n) ∧
  (∀ (d : Nat) (l0 l1 l2 l3 : Option mx_V) (v0 v1 v2 v3 v4 v5 : mx_V) (S h : mx_H) (n : Int), mx_ex d 256 990 [l0, l1, l2, l3] [v0, v1, v2, v3, v4, v5] S h n = mx_ex d 256 991 [l0, l1, l2, l3] [(0, 3), v0, v1, v2, v3, v4, v5] S h n) ∧
  (∀ (d : Nat) (b a : Int) (l0 l1 l2 l3 : Option mx_V) (v2 v3 v4 v5 v6 : mx_V) (S h : mx_H) (n : Int), mx_ex d 256 991 [l0, l1, l2, l3] [(0, b), (0, a), v2, v3, v4, v5, v6] S h n = mx_ex d 256 992 [l0, l1, l2, l3] [(0, mx_w (a + b)), v2, v3, v4, v5, v6] S h n) ∧
  (∀ (d : Nat) (i a : Int) (l0 l1 l2 l3 : Option mx_V) (v2 v3 v4 v5 : mx_V) (S h : mx_H) (n : Int), mx_ex d 256 992 [l0, l1, l2, l3] [(0, i), (2, a), v2, v3, v4, v5] S h n = mx_gd ((S a (-2) = 20 ∨ S a (-2) = 24) ∧ 0 ≤ i ∧ i < S a (-1)) d 256 993 [l0, l1, l2, l3] [(0, h a i), v2, v3, v4, v5] S h n) ∧
  (∀ (d : Nat) (a : Int) (l0 l1 l2 l3 : Option mx_V) (v0 v1 v2 v4 : mx_V) (S h : mx_H) (n : Int), mx_ex (d + 1) 256 993 [l0, l1, l2, l3] [v0, v1, v2, (2, a), v4] S h n = mx_cl (S a (-2) = 13) d 212 [(2, a), v2, v1, v0] 256 996 [l0, l1, l2, l3] [v4] S h n) ∧
  (∀ (d : Nat) (b a : Int) (l0 l1 l2 l3 : Option mx_V) (S h : mx_H) (n : Int), mx_ex d 256 996 [l0, l1, l2, l3] [(0, b), (0, a)] S h n = mx_br (a = b) d 256 1653 999 [l0, l1, l2, l3] [] S h n) ∧
  (∀ (d : Nat) (l0 l1 l2 l3 : Option mx_V) (S h : mx_H) (n : Int), mx_ex d 256 999 [l0, l1, l2, l3] [] S h n = mx_ex d 256 1000 [l0, l1, l2, l3] [(0, 0)] S h n) ∧
  (∀ (d : Nat) (x : Int) (l0 l1 l2 l3 : Option mx_V) (S h : mx_H) (n : Int), mx_ex d 256 1000 [l0, l1, l2, l3] [(0, x)] S h n = mx_re (0 ≤ x ∧ x ≤ 1) (some (0, x)) S h n) ∧
  (∀ (d : Nat) (x : Int) (l0 l2 l3 : Option mx_V) (S h : mx_H) (n : Int), mx_ex d 256 1001 [l0, some (2, x), l2, l3] [] S h n = mx_ex d 256 1002 [l0, some (2, x), l2, l3] [(2, x)] S h n) ∧
  (∀ (d : Nat) (x : Int) (l1 l2 l3 : Option mx_V) (v0 : mx_V) (S h : mx_H) (n : Int), mx_ex d 256 1002 [some (2, x), l1, l2, l3] [v0] S h n = mx_ex d 256 1003 [some (2, x), l1, l2, l3] [(2, x), v0] S h n) ∧
  (∀ (d : Nat) (x : Int) (l0 l1 l2 : Option mx_V) (v0 v1 : mx_V) (S h : mx_H) (n : Int), mx_ex d 256 1003 [l0, l1, l2, some (0, x)] [v0, v1] S h n = mx_ex d 256 1004 [l0, l1, l2, some (0, x)] [(0, x), v0, v1] S h n) ∧
  (∀ (d : Nat) (l0 l1 l2 l3 : Option mx_V) (v0 v1 v2 : mx_V) (S h : mx_H) (n : Int), mx_ex d 256 1004 [l0, l1, l2, l3] [v0, v1, v2] S h n = mx_ex d 256 1005 [l0, l1, l2, l3] [(0, 1), v0, v1, v2] S h n) ∧
  (∀ (d : Nat) (b a : Int) (l0 l1 l2 l3 : Option mx_V) (v2 v3 : mx_V) (S h : mx_H) (n : Int), mx_ex d 256 1005 [l0, l1, l2, l3] [(0, b), (0, a), v2, v3] S h n = mx_ex d 256 1006 [l0, l1, l2, l3] [(0, mx_w (a + b)), v2, v3] S h n) ∧
  (∀ (d : Nat) (i a : Int) (l0 l1 l2 l3 : Option mx_V) (v2 : mx_V) (S h : mx_H) (n : Int), mx_ex d 256 1006 [l0, l1, l2, l3] [(0, i), (2, a), v2] S h n = mx_gd ((S a (-2) = 20 ∨ S a (-2) = 24) ∧ 0 ≤ i ∧ i < S a (-1)) d 256 1007 [l0, l1, l2, l3] [(0, h a i), v2] S h n) ∧
  (∀ (d : Nat) (x : Int) (l1 l2 l3 : Option mx_V) (v0 v1 : mx_V) (S h : mx_H) (n : Int), mx_ex d 256 1007 [some (2, x), l1, l2, l3] [v0, v1] S h n = mx_ex d 256 1008 [some (2, x), l1, l2, l3] [(2, x), v0, v1] S h n) ∧
  (∀ (d : Nat) (x : Int) (l0 l1 l2 : Option mx_V) (v0 v1 v2 : mx_V) (S h : mx_H) (n : Int), mx_ex d 256 1008 [l0, l1, l2, some (0, x)] [v0, v1, v2] S h n = mx_ex d 256 1009 [l0, l1, l2, some (0, x)] [(0, x), v0, v1, v2] S h n) ∧
  (∀ (d : Nat) (l0 l1 l2 l3 : Option mx_V) (v0 v1 v2 v3 : mx_V) (S h : mx_H) (n : Int), mx_ex d 256 1009 [l0, l1, l2, l3] [v0, v1, v2, v3] S h n = mx_ex d 256 1010 [l0, l1, l2, l3] [(0, 2), v0, v1, v2, v3] S h n) ∧
  (∀ (d : Nat) (b a : Int) (l0 l1 l2 l3 : Option mx_V) (v2 v3 v4 : mx_V) (S h : mx_H) (n : Int), mx_ex d 256 1010 [l0, l1, l2, l3] [(0, b), (0, a), v2, v3, v4] S h n = mx_ex d 256 1011 [l0, l1, l2, l3] [(0, mx_w (a + b)), v2, v3, v4] S h n) ∧
  (∀ (d : Nat) (i a : Int) (l0 l1 l2 l3 : Option mx_V) (v2 v3 : mx_V) (S h : mx_H) (n : Int), mx_ex d 256 1011 [l0, l1, l2, l3] [(0, i), (2, a), v2, v3] S h n = mx_gd ((S a (-2) = 20 ∨ S a (-2) = 24) ∧ 0 ≤ i ∧ i < S a (-1)) d 256 1012 [l0, l1, l2, l3] [(0, h a i), v2, v3] S h n) ∧
  (∀ (d : Nat) (a : Int) (l0 l1 l2 l3 : Option mx_V) (v0 v1 : mx_V) (S h : mx_H) (n : Int), mx_ex (d + 1) 256 1012 [l0, l1, l2, l3] [v0, v1, (2, a)] S h n = mx_cl (S a (-2) = 7) d 124 [(2, a), v1, v0] 256 1015 [l0, l1, l2, l3] [] S h n) ∧
  (∀ (d : Nat) (x : Int) (l0 l1 l3 : Option mx_V) (v0 : mx_V) (S h : mx_H) (n : Int), mx_ex d 256 1015 [l0, l1, some (2, x), l3] [v0] S h n = mx_ex d 256 1016 [l0, l1, some (2, x), l3] [(2, x), v0] S h n) ∧
  (∀ (d : Nat) (x : Int) (l1 l2 l3 : Option mx_V) (v0 v1 : mx_V) (S h : mx_H) (n : Int), mx_ex d 256 1016 [some (2, x), l1, l2, l3] [v0, v1] S h n = mx_ex d 256 1017 [some (2, x), l1, l2, l3] [(2, x), v0, v1] S h n) ∧
  (∀ (d : Nat) (x : Int) (l0 l1 l2 : Option mx_V) (v0 v1 v2 : mx_V) (S h : mx_H) (n : Int), mx_ex d 256 1017 [l0, l1, l2, some (0, x)] [v0, v1, v2] S h n = mx_ex d 256 1018 [l0, l1, l2, some (0, x)] [(0, x), v0, v1, v2] S h n) ∧
  (∀ (d : Nat) (l0 l1 l2 l3 : Option mx_V) (v0 v1 v2 v3 : mx_V) (S h : mx_H) (n : Int), mx_ex d 256 1018 [l0, l1, l2, l3] [v0, v1, v2, v3] S h n = mx_ex d 256 1019 [l0, l1, l2, l3] [(0, 1), v0, v1, v2, v3] S h n) ∧
  (∀ (d : Nat) (b a : Int) (l0 l1 l2 l3 : Option mx_V) (v2 v3 v4 : mx_V) (S h : mx_H) (n : Int), mx_ex d 256 1019 [l0, l1, l2, l3] [(0, b), (0, a), v2, v3, v4] S h n = mx_ex d 256 1020 [l0, l1, l2, l3] [(0, mx_w (a + b)), v2, v3, v4] S h n) ∧
  (∀ (d : Nat) (i a : Int) (l0 l1 l2 l3 : Option mx_V) (v2 v3 : mx_V) (S h : mx_H) (n : Int), mx_ex d 256 1020 [l0, l1, l2, l3] [(0, i), (2, a), v2, v3] S h n = mx_gd ((S a (-2) = 20 ∨ S a (-2) = 24) ∧ 0 ≤ i ∧ i < S a (-1)) d 256 1021 [l0, l1, l2, l3] [(0, h a i), v2, v3] S h n) ∧
  (∀ (d : Nat) (x : Int) (l1 l2 l3 : Option mx_V) (v0 v1 v2 : mx_V) (S h : mx_H) (n : Int), mx_ex d 256 1021 [some (2, x), l1, l2, l3] [v0, v1, v2] S h n = mx_ex d 256 1022 [some (2, x), l1, l2, l3] [(2, x), v0, v1, v2] S h n) ∧
  (∀ (d : Nat) (x : Int) (l0 l1 l2 : Option mx_V) (v0 v1 v2 v3 : mx_V) (S h : mx_H) (n : Int), mx_ex d 256 1022 [l0, l1, l2, some (0, x)] [v0, v1, v2, v3] S h n = mx_ex d 256 1023 [l0, l1, l2, some (0, x)] [(0, x), v0, v1, v2, v3] S h n) ∧
  (∀ (d : Nat) (l0 l1 l2 l3 : Option mx_V) (v0 v1 v2 v3 v4 : mx_V) (S h : mx_H) (n : Int), mx_ex d 256 1023 [l0, l1, l2, l3] [v0, v1, v2, v3, v4] S h n = mx_ex d 256 1024 [l0, l1, l2, l3] [(0, 2), v0, v1, v2, v3, v4] S h n) ∧
  (∀ (d : Nat) (b a : Int) (l0 l1 l2 l3 : Option mx_V) (v2 v3 v4 v5 : mx_V) (S h : mx_H) (n : Int), mx_ex d 256 1024 [l0, l1, l2, l3] [(0, b), (0, a), v2, v3, v4, v5] S h n = mx_ex d 256 1025 [l0, l1, l2, l3] [(0, mx_w (a + b)), v2, v3, v4, v5] S h n) ∧
  (∀ (d : Nat) (i a : Int) (l0 l1 l2 l3 : Option mx_V) (v2 v3 v4 : mx_V) (S h : mx_H) (n : Int), mx_ex d 256 1025 [l0, l1, l2, l3] [(0, i), (2, a), v2, v3, v4] S h n = mx_gd ((S a (-2) = 20 ∨ S a (-2) = 24) ∧ 0 ≤ i ∧ i < S a (-1)) d 256 1026 [l0, l1, l2, l3] [(0, h a i), v2, v3, v4] S h n) ∧
  (∀ (d : Nat) (a : Int) (l0 l1 l2 l3 : Option mx_V) (v0 v1 v3 : mx_V) (S h : mx_H) (n : Int), mx_ex (d + 1) 256 1026 [l0, l1, l2, l3] [v0, v1, (2, a), v3] S h n = mx_cl (S a (-2) = 13) d 215 [(2, a), v1, v0] 256 1029 [l0, l1, l2, l3] [v3] S h n) ∧
  (∀ (d : Nat) (b a : Int) (l0 l1 l2 l3 : Option mx_V) (S h : mx_H) (n : Int), mx_ex d 256 1029 [l0, l1, l2, l3] [(0, b), (0, a)] S h n = mx_br (a = b) d 256 1653 1032 [l0, l1, l2, l3] [] S h n) ∧
  (∀ (d : Nat) (l0 l1 l2 l3 : Option mx_V) (S h : mx_H) (n : Int), mx_ex d 256 1032 [l0, l1, l2, l3] [] S h n = mx_ex d 256 1033 [l0, l1, l2, l3] [(0, 0)] S h n) ∧
  (∀ (d : Nat) (x : Int) (l0 l1 l2 l3 : Option mx_V) (S h : mx_H) (n : Int), mx_ex d 256 1033 [l0, l1, l2, l3] [(0, x)] S h n = mx_re (0 ≤ x ∧ x ≤ 1) (some (0, x)) S h n) ∧
  (∀ (d : Nat) (x : Int) (l0 l2 l3 : Option mx_V) (S h : mx_H) (n : Int), mx_ex d 256 1034 [l0, some (2, x), l2, l3] [] S h n = mx_ex d 256 1035 [l0, some (2, x), l2, l3] [(2, x)] S h n) ∧
  (∀ (d : Nat) (x : Int) (l1 l2 l3 : Option mx_V) (v0 : mx_V) (S h : mx_H) (n : Int), mx_ex d 256 1035 [some (2, x), l1, l2, l3] [v0] S h n = mx_ex d 256 1036 [some (2, x), l1, l2, l3] [(2, x), v0] S h n) ∧
  (∀ (d : Nat) (x : Int) (l0 l1 l2 : Option mx_V) (v0 v1 : mx_V) (S h : mx_H) (n : Int), mx_ex d 256 1036 [l0, l1, l2, some (0, x)] [v0, v1] S h n = mx_ex d 256 1037 [l0, l1, l2, some (0, x)] [(0, x), v0, v1] S h n) ∧
  (∀ (d : Nat) (l0 l1 l2 l3 : Option mx_V) (v0 v1 v2 : mx_V) (S h : mx_H) (n : Int), mx_ex d 256 1037 [l0, l1, l2, l3] [v0, v1, v2] S h n = mx_ex d 256 1038 [l0, l1, l2, l3] [(0, 1), v0, v1, v2] S h n) ∧
  (∀ (d : Nat) (b a : Int) (l0 l1 l2 l3 : Option mx_V) (v2 v3 : mx_V) (S h : mx_H) (n : Int), mx_ex d 256 1038 [l0, l1, l2, l3] [(0, b), (0, a), v2, v3] S h n = mx_ex d 256 1039 [l0, l1, l2, l3] [(0, mx_w (a + b)), v2, v3] S h n) ∧
  (∀ (d : Nat) (i a : Int) (l0 l1 l2 l3 : Option mx_V) (v2 : mx_V) (S h : mx_H) (n : Int), mx_ex d 256 1039 [l0, l1, l2, l3] [(0, i), (2, a), v2] S h n = mx_gd ((S a (-2) = 20 ∨ S a (-2) = 24) ∧ 0 ≤ i ∧ i < S a (-1)) d 256 1040 [l0, l1, l2, l3] [(0, h a i), v2] S h n) ∧
  (∀ (d : Nat) (x : Int) (l1 l2 l3 : Option mx_V) (v0 v1 : mx_V) (S h : mx_H) (n : Int), mx_ex d 256 1040 [some (2, x), l1, l2, l3] [v0, v1] S h n = mx_ex d 256 1041 [some (2, x), l1, l2, l3] [(2, x), v0, v1] S h n) ∧
  (∀ (d : Nat) (x : Int) (l0 l1 l2 : Option mx_V) (v0 v1 v2 : mx_V) (S h : mx_H) (n : Int), mx_ex d 256 1041 [l0, l1, l2, some (0, x)] [v0, v1, v2] S h n = mx_ex d 256 1042 [l0, l1, l2, some (0, x)] [(0, x), v0, v1, v2] S h n) ∧
  (∀ (d : Nat) (l0 l1 l2 l3 : Option mx_V) (v0 v1 v2 v3 : mx_V) (S h : mx_H) (n : Int), mx_ex d 256 1042 [l0, l1, l2, l3] [v0, v1, v2, v3] S h n = mx_ex d 256 1043 [l0, l1, l2, l3] [(0, 2), v0, v1, v2, v3] S h n) ∧
  (∀ (d : Nat) (b a : Int) (l0 l1 l2 l3 : Option mx_V) (v2 v3 v4 : mx_V) (S h : mx_H) (n : Int), mx_ex d 256 1043 [l0, l1, l2, l3] [(0, b), (0, a), v2, v3, v4] S h n = mx_ex d 256 1044 [l0, l1, l2, l3] [(0, mx_w (a + b)), v2, v3, v4] S h n) ∧
  (∀ (d : Nat) (i a : Int) (l0 l1 l2 l3 : Option mx_V) (v2 v3 : mx_V) (S h : mx_H) (n : Int), mx_ex d 256 1044 [l0, l1, l2, l3] [(0, i), (2, a), v2, v3] S h n = mx_gd ((S a (-2) = 20 ∨ S a (-2) = 24) ∧ 0 ≤ i ∧ i < S a (-1)) d 256 1045 [l0, l1, l2, l3] [(0, h a i), v2, v3] S h n) ∧
  (∀ (d : Nat) (a : Int) (l0 l1 l2 l3 : Option mx_V) (v0 v1 : mx_V) (S h : mx_H) (n : Int), mx_ex (d + 1) 256 1045 [l0, l1, l2, l3] [v0, v1, (2, a)] S h n = mx_cl (S a (-2) = 7) d 125 [(2, a), v1, v0] 256 1048 [l0, l1, l2, l3] [] S h n) ∧
  (∀ (d : Nat) (x : Int) (l0 l1 l3 : Option mx_V) (v0 : mx_V) (S h : mx_H) (n : Int), mx_ex d 256 1048 [l0, l1, some (2, x), l3] [v0] S h n = mx_ex d 256 1049 [l0, l1, some (2, x), l3] [(2, x), v0] S h n) :=
  ⟨by intros; exact eq_ld rfl rfl,
   by intros; exact eq_push rfl,
   by intros; exact eq_i2 (o := mx_add) rfl,
   by intros; exact eq_iald rfl,
   by intros; exact eq_ld rfl rfl,
   by intros; exact eq_ld rfl rfl,
   by intros; exact eq_push rfl,
   by intros; exact eq_i2 (o := mx_add) rfl,
   by intros; exact eq_iald rfl,
   by intros; exact eq_cv rfl rfl (Nat.le_of_ble_eq_true rfl) rfl rfl,
   by intros; exact eq_ld rfl rfl,
   by intros; exact eq_ld rfl rfl,
   by intros; exact eq_ld rfl rfl,
   by intros; exact eq_push rfl,
   by intros; exact eq_i2 (o := mx_add) rfl,
   by intros; exact eq_iald rfl,
   by intros; exact eq_ld rfl rfl,
   by intros; exact eq_ld rfl rfl,
   by intros; exact eq_push rfl,
   by intros; exact eq_i2 (o := mx_add) rfl,
   by intros; exact eq_iald rfl,
   by intros; exact eq_ld rfl rfl,
   by intros; exact eq_ld rfl rfl,
   by intros; exact eq_push rfl,
   by intros; exact eq_i2 (o := mx_add) rfl,
   by intros; exact eq_iald rfl,
   by intros; exact eq_cv rfl rfl (Nat.le_of_ble_eq_true rfl) rfl rfl,
   by intros; exact eq_ic0 rfl,
   by intros; exact eq_push rfl,
   by intros; exact eq_retz rfl,
   by intros; exact eq_ld rfl rfl,
   by intros; exact eq_ld rfl rfl,
   by intros; exact eq_ld rfl rfl,
   by intros; exact eq_push rfl,
   by intros; exact eq_i2 (o := mx_add) rfl,
   by intros; exact eq_iald rfl,
   by intros; exact eq_ld rfl rfl,
   by intros; exact eq_ld rfl rfl,
   by intros; exact eq_push rfl,
   by intros; exact eq_i2 (o := mx_add) rfl,
   by intros; exact eq_iald rfl,
   by intros; exact eq_cv rfl rfl (Nat.le_of_ble_eq_true rfl) rfl rfl,
   by intros; exact eq_ld rfl rfl,
   by intros; exact eq_ld rfl rfl,
   by intros; exact eq_ld rfl rfl,
   by intros; exact eq_push rfl,
   by intros; exact eq_i2 (o := mx_add) rfl,
   by intros; exact eq_iald rfl,
   by intros; exact eq_ld rfl rfl,
   by intros; exact eq_ld rfl rfl,
   by intros; exact eq_push rfl,
   by intros; exact eq_i2 (o := mx_add) rfl,
   by intros; exact eq_iald rfl,
   by intros; exact eq_cv rfl rfl (Nat.le_of_ble_eq_true rfl) rfl rfl,
   by intros; exact eq_ic0 rfl,
   by intros; exact eq_push rfl,
   by intros; exact eq_retz rfl,
   by intros; exact eq_ld rfl rfl,
   by intros; exact eq_ld rfl rfl,
   by intros; exact eq_ld rfl rfl,
   by intros; exact eq_push rfl,
   by intros; exact eq_i2 (o := mx_add) rfl,
   by intros; exact eq_iald rfl,
   by intros; exact eq_ld rfl rfl,
   by intros; exact eq_ld rfl rfl,
   by intros; exact eq_push rfl,
   by intros; exact eq_i2 (o := mx_add) rfl,
   by intros; exact eq_iald rfl,
   by intros; exact eq_cv rfl rfl (Nat.le_of_ble_eq_true rfl) rfl rfl,
   by intros; exact eq_ld rfl rfl⟩
theorem rw_L_law_10 :
  (∀ (d : Nat) (x : Int) (l1 l2 l3 : Option mx_V) (v0 v1 : mx_V) (S h : mx_H) (n : Int), mx_ex d 256 1049 [some (2, x), l1, l2, l3] [v0, v1] S h n = mx_ex d 256 1050 [some (2, x), l1, l2, l3] [(2, x), v0, v1] S h n) ∧
  (∀ (d : Nat) (x : Int) (l0 l1 l2 : Option mx_V) (v0 v1 v2 : mx_V) (S h : mx_H) (n : Int), mx_ex d 256 1050 [l0, l1, l2, some (0, x)] [v0, v1, v2] S h n = mx_ex d 256 1051 [l0, l1, l2, some (0, x)] [(0, x), v0, v1, v2] S h n) ∧
  (∀ (d : Nat) (l0 l1 l2 l3 : Option mx_V) (v0 v1 v2 v3 : mx_V) (S h : mx_H) (n : Int), mx_ex d 256 1051 [l0, l1, l2, l3] [v0, v1, v2, v3] S h n = mx_ex d 256 1052 [l0, l1, l2, l3] [(0, 1), v0, v1, v2, v3] S h n) ∧
  (∀ (d : Nat) (b a : Int) (l0 l1 l2 l3 : Option mx_V) (v2 v3 v4 : mx_V) (S h : mx_H) (n : Int), mx_ex d 256 1052 [l0, l1, l2, l3] [(0, b), (0, a), v2, v3, v4] S h n = mx_ex d 256 1053 [l0, l1, l2, l3] [(0, mx_w (a + b)), v2, v3, v4] S h n) ∧
  (∀ (d : Nat) (i a : Int) (l0 l1 l2 l3 : Option mx_V) (v2 v3 : mx_V) (S h : mx_H) (n : Int), mx_ex d 256 1053 [l0, l1, l2, l3] [(0, i), (2, a), v2, v3] S h n = mx_gd ((S a (-2) = 20 ∨ S a (-2) = 24) ∧ 0 ≤ i ∧ i < S a (-1)) d 256 1054 [l0, l1, l2, l3] [(0, h a i), v2, v3] S h n) ∧
  (∀ (d : Nat) (x : Int) (l1 l2 l3 : Option mx_V) (v0 v1 v2 : mx_V) (S h : mx_H) (n : Int), mx_ex d 256 1054 [some (2, x), l1, l2, l3] [v0, v1, v2] S h n = mx_ex d 256 1055 [some (2, x), l1, l2, l3] [(2, x), v0, v1, v2] S h n) ∧
  (∀ (d : Nat) (x : Int) (l0 l1 l2 : Option mx_V) (v0 v1 v2 v3 : mx_V) (S h : mx_H) (n : Int), mx_ex d 256 1055 [l0, l1, l2, some (0, x)] [v0, v1, v2, v3] S h n = mx_ex d 256 1056 [l0, l1, l2, some (0, x)] [(0, x), v0, v1, v2, v3] S h n) ∧
  (∀ (d : Nat) (l0 l1 l2 l3 : Option mx_V) (v0 v1 v2 v3 v4 : mx_V) (S h : mx_H) (n : Int), mx_ex d 256 1056 [l0, l1, l2, l3] [v0, v1, v2, v3, v4] S h n = mx_ex d 256 1057 [l0, l1, l2, l3] [(0, 2), v0, v1, v2, v3, v4] S h n) ∧
  (∀ (d : Nat) (b a : Int) (l0 l1 l2 l3 : Option mx_V) (v2 v3 v4 v5 : mx_V) (S h : mx_H) (n : Int), mx_ex d 256 1057 [l0, l1, l2, l3] [(0, b), (0, a), v2, v3, v4, v5] S h n = mx_ex d 256 1058 [l0, l1, l2, l3] [(0, mx_w (a + b)), v2, v3, v4, v5] S h n) ∧
  (∀ (d : Nat) (i a : Int) (l0 l1 l2 l3 : Option mx_V) (v2 v3 v4 : mx_V) (S h : mx_H) (n : Int), mx_ex d 256 1058 [l0, l1, l2, l3] [(0, i), (2, a), v2, v3, v4] S h n = mx_gd ((S a (-2) = 20 ∨ S a (-2) = 24) ∧ 0 ≤ i ∧ i < S a (-1)) d 256 1059 [l0, l1, l2, l3] [(0, h a i), v2, v3, v4] S h n) ∧
  (∀ (d : Nat) (a : Int) (l0 l1 l2 l3 : Option mx_V) (v0 v1 v3 : mx_V) (S h : mx_H) (n : Int), mx_ex (d + 1) 256 1059 [l0, l1, l2, l3] [v0, v1, (2, a), v3] S h n = mx_cl (S a (-2) = 13) d 216 [(2, a), v1, v0] 256 1062 [l0, l1, l2, l3] [v3] S h n) ∧
  (∀ (d : Nat) (b a : Int) (l0 l1 l2 l3 : Option mx_V) (S h : mx_H) (n : Int), mx_ex d 256 1062 [l0, l1, l2, l3] [(0, b), (0, a)] S h n = mx_br (a = b) d 256 1653 1065 [l0, l1, l2, l3] [] S h n) ∧
  (∀ (d : Nat) (l0 l1 l2 l3 : Option mx_V) (S h : mx_H) (n : Int), mx_ex d 256 1065 [l0, l1, l2, l3] [] S h n = mx_ex d 256 1066 [l0, l1, l2, l3] [(0, 0)] S h n) ∧
  (∀ (d : Nat) (x : Int) (l0 l1 l2 l3 : Option mx_V) (S h : mx_H) (n : Int), mx_ex d 256 1066 [l0, l1, l2, l3] [(0, x)] S h n = mx_re (0 ≤ x ∧ x ≤ 1) (some (0, x)) S h n) ∧
  (∀ (d : Nat) (x : Int) (l0 l2 l3 : Option mx_V) (S h : mx_H) (n : Int), mx_ex d 256 1067 [l0, some (2, x), l2, l3] [] S h n = mx_ex d 256 1068 [l0, some (2, x), l2, l3] [(2, x)] S h n) ∧
  (∀ (d : Nat) (x : Int) (l1 l2 l3 : Option mx_V) (v0 : mx_V) (S h : mx_H) (n : Int), mx_ex d 256 1068 [some (2, x), l1, l2, l3] [v0] S h n = mx_ex d 256 1069 [some (2, x), l1, l2, l3] [(2, x), v0] S h n) ∧
  (∀ (d : Nat) (x : Int) (l0 l1 l2 : Option mx_V) (v0 v1 : mx_V) (S h : mx_H) (n : Int), mx_ex d 256 1069 [l0, l1, l2, some (0, x)] [v0, v1] S h n = mx_ex d 256 1070 [l0, l1, l2, some (0, x)] [(0, x), v0, v1] S h n) ∧
  (∀ (d : Nat) (l0 l1 l2 l3 : Option mx_V) (v0 v1 v2 : mx_V) (S h : mx_H) (n : Int), mx_ex d 256 1070 [l0, l1, l2, l3] [v0, v1, v2] S h n = mx_ex d 256 1071 [l0, l1, l2, l3] [(0, 1), v0, v1, v2] S h n) ∧
  (∀ (d : Nat) (b a : Int) (l0 l1 l2 l3 : Option mx_V) (v2 v3 : mx_V) (S h : mx_H) (n : Int), mx_ex d 256 1071 [l0, l1, l2, l3] [(0, b), (0, a), v2, v3] S h n = mx_ex d 256 1072 [l0, l1, l2, l3] [(0, mx_w (a + b)), v2, v3] S h n) ∧
  (∀ (d : Nat) (i a : Int) (l0 l1 l2 l3 : Option mx_V) (v2 : mx_V) (S h : mx_H) (n : Int), mx_ex d 256 1072 [l0, l1, l2, l3] [(0, i), (2, a), v2] S h n = mx_gd ((S a (-2) = 20 ∨ S a (-2) = 24) ∧ 0 ≤ i ∧ i < S a (-1)) d 256 1073 [l0, l1, l2, l3] [(0, h a i), v2] S h n) ∧
  (∀ (d : Nat) (x : Int) (l1 l2 l3 : Option mx_V) (v0 v1 : mx_V) (S h : mx_H) (n : Int), mx_ex d 256 1073 [some (2, x), l1, l2, l3] [v0, v1] S h n = mx_ex d 256 1074 [some (2, x), l1, l2, l3] [(2, x), v0, v1] S h n) ∧
  (∀ (d : Nat) (x : Int) (l0 l1 l2 : Option mx_V) (v0 v1 v2 : mx_V) (S h : mx_H) (n : Int), mx_ex d 256 1074 [l0, l1, l2, some (0, x)] [v0, v1, v2] S h n = mx_ex d 256 1075 [l0, l1, l2, some (0, x)] [(0, x), v0, v1, v2] S h n) ∧
  (∀ (d : Nat) (l0 l1 l2 l3 : Option mx_V) (v0 v1 v2 v3 : mx_V) (S h : mx_H) (n : Int), mx_ex d 256 1075 [l0, l1, l2, l3] [v0, v1, v2, v3] S h n = mx_ex d 256 1076 [l0, l1, l2, l3] [(0, 2), v0, v1, v2, v3] S h n) ∧
  (∀ (d : Nat) (b a : Int) (l0 l1 l2 l3 : Option mx_V) (v2 v3 v4 : mx_V) (S h : mx_H) (n : Int), mx_ex d 256 1076 [l0, l1, l2, l3] [(0, b), (0, a), v2, v3, v4] S h n = mx_ex d 256 1077 [l0, l1, l2, l3] [(0, mx_w (a + b)), v2, v3, v4] S h n) ∧
  (∀ (d : Nat) (i a : Int) (l0 l1 l2 l3 : Option mx_V) (v2 v3 : mx_V) (S h : mx_H) (n : Int), mx_ex d 256 1077 [l0, l1, l2, l3] [(0, i), (2, a), v2, v3] S h n = mx_gd ((S a (-2) = 20 ∨ S a (-2) = 24) ∧ 0 ≤ i ∧ i < S a (-1)) d 256 1078 [l0, l1, l2, l3] [(0, h a i), v2, v3] S h n) ∧
  (∀ (d : Nat) (a : Int) (l0 l1 l2 l3 : Option mx_V) (v0 v1 : mx_V) (S h : mx_H) (n : Int), mx_ex (d + 1) 256 1078 [l0, l1, l2, l3] [v0, v1, (2, a)] S h n = mx_cl (S a (-2) = 7) d 126 [(2, a), v1, v0] 256 1081 [l0, l1, l2, l3] [] S h n) ∧
  (∀ (d : Nat) (x : Int) (l0 l1 l3 : Option mx_V) (v0 : mx_V) (S h : mx_H) (n : Int), mx_ex d 256 1081 [l0, l1, some (2, x), l3] [v0] S h n = mx_ex d 256 1082 [l0, l1, some (2, x), l3] [(2, x), v0] S h n) ∧
  (∀ (d : Nat) (x : Int) (l1 l2 l3 : Option mx_V) (v0 v1 : mx_V) (S h : mx_H) (n : Int), mx_ex d 256 1082 [some (2, x), l1, l2, l3] [v0, v1] S h n = mx_ex d 256 1083 [some (2, x), l1, l2, l3] [(2, x), v0, v1] S h n) ∧
  (∀ (d : Nat) (x : Int) (l0 l1 l2 : Option mx_V) (v0 v1 v2 : mx_V) (S h : mx_H) (n : Int), mx_ex d 256 1083 [l0, l1, l2, some (0, x)] [v0, v1, v2] S h n = mx_ex d 256 1084 [l0, l1, l2, some (0, x)] [(0, x), v0, v1, v2] S h n) ∧
  (∀ (d : Nat) (l0 l1 l2 l3 : Option mx_V) (v0 v1 v2 v3 : mx_V) (S h : mx_H) (n : Int), mx_ex d 256 1084 [l0, l1, l2, l3] [v0, v1, v2, v3] S h n = mx_ex d 256 1085 [l0, l1, l2, l3] [(0, 1), v0, v1, v2, v3] S h n) ∧
  (∀ (d : Nat) (b a : Int) (l0 l1 l2 l3 : Option mx_V) (v2 v3 v4 : mx_V) (S h : mx_H) (n : Int), mx_ex d 256 1085 [l0, l1, l2, l3] [(0, b), (0, a), v2, v3, v4] S h n = mx_ex d 256 1086 [l0, l1, l2, l3] [(0, mx_w (a + b)), v2, v3, v4] S h n) ∧
  (∀ (d : Nat) (i a : Int) (l0 l1 l2 l3 : Option mx_V) (v2 v3 : mx_V) (S h : mx_H) (n : Int), mx_ex d 256 1086 [l0, l1, l2, l3] [(0, i), (2, a), v2, v3] S h n = mx_gd ((S a (-2) = 20 ∨ S a (-2) = 24) ∧ 0 ≤ i ∧ i < S a (-1)) d 256 1087 [l0, l1, l2, l3] [(0, h a i), v2, v3] S h n) ∧
  (∀ (d : Nat) (x : Int) (l1 l2 l3 : Option mx_V) (v0 v1 v2 : mx_V) (S h : mx_H) (n : Int), mx_ex d 256 1087 [some (2, x), l1, l2, l3] [v0, v1, v2] S h n = mx_ex d 256 1088 [some (2, x), l1, l2, l3] [(2, x), v0, v1, v2] S h n) ∧
  (∀ (d : Nat) (x : Int) (l0 l1 l2 : Option mx_V) (v0 v1 v2 v3 : mx_V) (S h : mx_H) (n : Int), mx_ex d 256 1088 [l0, l1, l2, some (0, x)] [v0, v1, v2, v3] S h n = mx_ex d 256 1089 [l0, l1, l2, some (0, x)] [(0, x), v0, v1, v2, v3] S h n) ∧
  (∀ (d : Nat) (l0 l1 l2 l3 : Option mx_V) (v0 v1 v2 v3 v4 : mx_V) (S h : mx_H) (n : Int), mx_ex d 256 1089 [l0, l1, l2, l3] [v0, v1, v2, v3, v4] S h n = mx_ex d 256 1090 [l0, l1, l2, l3] [(0, 2), v0, v1, v2, v3, v4] S h n) ∧
  (∀ (d : Nat) (b a : Int) (l0 l1 l2 l3 : Option mx_V) (v2 v3 v4 v5 : mx_V) (S h : mx_H) (n : Int), mx_ex d 256 1090 [l0, l1, l2, l3] [(0, b), (0, a), v2, v3, v4, v5] S h n = mx_ex d 256 1091 [l0, l1, l2, l3] [(0, mx_w (a + b)), v2, v3, v4, v5] S h n) ∧
  (∀ (d : Nat) (i a : Int) (l0 l1 l2 l3 : Option mx_V) (v2 v3 v4 : mx_V) (S h : mx_H) (n : Int), mx_ex d 256 1091 [l0, l1, l2, l3] [(0, i), (2, a), v2, v3, v4] S h n = mx_gd ((S a (-2) = 20 ∨ S a (-2) = 24) ∧ 0 ≤ i ∧ i < S a (-1)) d 256 1092 [l0, l1, l2, l3] [(0, h a i), v2, v3, v4] S h n) ∧
  (∀ (d : Nat) (a : Int) (l0 l1 l2 l3 : Option mx_V) (v0 v1 v3 : mx_V) (S h : mx_H) (n : Int), mx_ex (d + 1) 256 1092 [l0, l1, l2, l3] [v0, v1, (2, a), v3] S h n = mx_cl (S a (-2) = 13) d 218 [(2, a), v1, v0] 256 1095 [l0, l1, l2, l3] [v3] S h n) ∧
  (∀ (d : Nat) (b a : Int) (l0 l1 l2 l3 : Option mx_V) (S h : mx_H) (n : Int), mx_ex d 256 1095 [l0, l1, l2, l3] [(0, b), (0, a)] S h n = mx_br (a = b) d 256 1653 1098 [l0, l1, l2, l3] [] S h n) ∧
  (∀ (d : Nat) (l0 l1 l2 l3 : Option mx_V) (S h : mx_H) (n : Int), mx_ex d 256 1098 [l0, l1, l2, l3] [] S h n = mx_ex d 256 1099 [l0, l1, l2, l3] [(0, 0)] S h n) ∧
  (∀ (d : Nat) (x : Int) (l0 l1 l2 l3 : Option mx_V) (S h : mx_H) (n : Int), mx_ex d 256 1099 [l0, l1, l2, l3] [(0, x)] S h n = mx_re (0 ≤ x ∧ x ≤ 1) (some (0, x)) S h n) ∧
  (∀ (d : Nat) (x : Int) (l0 l2 l3 : Option mx_V) (S h : mx_H) (n : Int), mx_ex d 256 1100 [l0, some (2, x), l2, l3] [] S h n = mx_ex d 256 1101 [l0, some (2, x), l2, l3] [(2, x)] S h n) ∧
  (∀ (d : Nat) (x : Int) (l1 l2 l3 : Option mx_V) (v0 : mx_V) (S h : mx_H) (n : Int), mx_ex d 256 1101 [some (2, x), l1, l2, l3] [v0] S h n = mx_ex d 256 1102 [some (2, x), l1, l2, l3] [(2, x), v0] S h n) ∧
  (∀ (d : Nat) (x : Int) (l0 l1 l2 : Option mx_V) (v0 v1 : mx_V) (S h : mx_H) (n : Int), mx_ex d 256 1102 [l0, l1, l2, some (0, x)] [v0, v1] S h n = mx_ex d 256 1103 [l0, l1, l2, some (0, x)] [(0, x), v0, v1] S h n) ∧
  (∀ (d : Nat) (l0 l1 l2 l3 : Option mx_V) (v0 v1 v2 : mx_V) (S h : mx_H) (n : Int), mx_ex d 256 1103 [l0, l1, l2, l3] [v0, v1, v2] S h n = mx_ex d 256 1104 [l0, l1, l2, l3] [(0, 1), v0, v1, v2] S h n) ∧
  (∀ (d : Nat) (b a : Int) (l0 l1 l2 l3 : Option mx_V) (v2 v3 : mx_V) (S h : mx_H) (n : Int), mx_ex d 256 1104 [l0, l1, l2, l3] [(0, b), (0, a), v2, v3] S h n = mx_ex d 256 1105 [l0, l1, l2, l3] [(0, mx_w (a + b)), v2, v3] S h n) ∧
  (∀ (d : Nat) (i a : Int) (l0 l1 l2 l3 : Option mx_V) (v2 : mx_V) (S h : mx_H) (n : Int), mx_ex d 256 1105 [l0, l1, l2, l3] [(0, i), (2, a), v2] S h n = mx_gd ((S a (-2) = 20 ∨ S a (-2) = 24) ∧ 0 ≤ i ∧ i < S a (-1)) d 256 1106 [l0, l1, l2, l3] [(0, h a i), v2] S h n) ∧
  (∀ (d : Nat) (a : Int) (l0 l1 l2 l3 : Option mx_V) (v0 : mx_V) (S h : mx_H) (n : Int), mx_ex (d + 1) 256 1106 [l0, l1, l2, l3] [v0, (2, a)] S h n = mx_cl (S a (-2) = 7) d 127 [(2, a), v0] 256 1109 [l0, l1, l2, l3] [] S h n) ∧
  (∀ (d : Nat) (x : Int) (l0 l1 l3 : Option mx_V) (v0 : mx_V) (S h : mx_H) (n : Int), mx_ex d 256 1109 [l0, l1, some (2, x), l3] [v0] S h n = mx_ex d 256 1110 [l0, l1, some (2, x), l3] [(2, x), v0] S h n) ∧
  (∀ (d : Nat) (x : Int) (l1 l2 l3 : Option mx_V) (v0 v1 : mx_V) (S h : mx_H) (n : Int), mx_ex d 256 1110 [some (2, x), l1, l2, l3] [v0, v1] S h n = mx_ex d 256 1111 [some (2, x), l1, l2, l3] [(2, x), v0, v1] S h n) ∧
  (∀ (d : Nat) (x : Int) (l0 l1 l2 : Option mx_V) (v0 v1 v2 : mx_V) (S h : mx_H) (n : Int), mx_ex d 256 1111 [l0, l1, l2, some (0, x)] [v0, v1, v2] S h n = mx_ex d 256 1112 [l0, l1, l2, some (0, x)] [(0, x), v0, v1, v2] S h n) ∧
  (∀ (d : Nat) (l0 l1 l2 l3 : Option mx_V) (v0 v1 v2 v3 : mx_V) (S h : mx_H) (n : Int), mx_ex d 256 1112 [l0, l1, l2, l3] [v0, v1, v2, v3] S h n = mx_ex d 256 1113 [l0, l1, l2, l3] [(0, 1), v0, v1, v2, v3] S h n) ∧
  (∀ (d : Nat) (b a : Int) (l0 l1 l2 l3 : Option mx_V) (v2 v3 v4 : mx_V) (S h : mx_H) (n : Int), mx_ex d 256 1113 [l0, l1, l2, l3] [(0, b), (0, a), v2, v3, v4] S h n = mx_ex d 256 1114 [l0, l1, l2, l3] [(0, mx_w (a + b)), v2, v3, v4] S h n) ∧
  (∀ (d : Nat) (i a : Int) (l0 l1 l2 l3 : Option mx_V) (v2 v3 : mx_V) (S h : mx_H) (n : Int), mx_ex d 256 1114 [l0, l1, l2, l3] [(0, i), (2, a), v2, v3] S h n = mx_gd ((S a (-2) = 20 ∨ S a (-2) = 24) ∧ 0 ≤ i ∧ i < S a (-1)) d 256 1115 [l0, l1, l2, l3] [(0, h a i), v2, v3] S h n) ∧
  (∀ (d : Nat) (a : Int) (l0 l1 l2 l3 : Option mx_V) (v0 v2 : mx_V) (S h : mx_H) (n : Int), mx_ex (d + 1) 256 1115 [l0, l1, l2, l3] [v0, (2, a), v2] S h n = mx_cl (S a (-2) = 13) d 219 [(2, a), v0] 256 1118 [l0, l1, l2, l3] [v2] S h n) ∧
  (∀ (d : Nat) (b a : Int) (l0 l1 l2 l3 : Option mx_V) (S h : mx_H) (n : Int), mx_ex d 256 1118 [l0, l1, l2, l3] [(0, b), (0, a)] S h n = mx_br (a = b) d 256 1653 1121 [l0, l1, l2, l3] [] S h n) ∧
  (∀ (d : Nat) (l0 l1 l2 l3 : Option mx_V) (S h : mx_H) (n : Int), mx_ex d 256 1121 [l0, l1, l2, l3] [] S h n = mx_ex d 256 1122 [l0, l1, l2, l3] [(0, 0)] S h n) ∧
  (∀ (d : Nat) (x : Int) (l0 l1 l2 l3 : Option mx_V) (S h : mx_H) (n : Int), mx_ex d 256 1122 [l0, l1, l2, l3] [(0, x)] S h n = mx_re (0 ≤ x ∧ x ≤ 1) (some (0, x)) S h n) ∧
  (∀ (d : Nat) (x : Int) (l0 l2 l3 : Option mx_V) (S h : mx_H) (n : Int), mx_ex d 256 1123 [l0, some (2, x), l2, l3] [] S h n = mx_ex d 256 1124 [l0, some (2, x), l2, l3] [(2, x)] S h n) ∧
  (∀ (d : Nat) (a : Int) (l0 l1 l2 l3 : Option mx_V) (S h : mx_H) (n : Int), mx_ex (d + 1) 256 1124 [l0, l1, l2, l3] [(2, a)] S h n = mx_cl (S a (-2) = 7) d 128 [(2, a)] 256 1127 [l0, l1, l2, l3] [] S h n) ∧
  (∀ (d : Nat) (x : Int) (l0 l1 l3 : Option mx_V) (v0 : mx_V) (S h : mx_H) (n : Int), mx_ex d 256 1127 [l0, l1, some (2, x), l3] [v0] S h n = mx_ex d 256 1128 [l0, l1, some (2, x), l3] [(2, x), v0] S h n) ∧
  (∀ (d : Nat) (a : Int) (l0 l1 l2 l3 : Option mx_V) (v1 : mx_V) (S h : mx_H) (n : Int), mx_ex (d + 1) 256 1128 [l0, l1, l2, l3] [(2, a), v1] S h n = mx_cl (S a (-2) = 13) d 220 [(2, a)] 256 1131 [l0, l1, l2, l3] [v1] S h n) ∧
  (∀ (d : Nat) (b a : Int) (l0 l1 l2 l3 : Option mx_V) (S h : mx_H) (n : Int), mx_ex d 256 1131 [l0, l1, l2, l3] [(0, b), (0, a)] S h n = mx_br (a = b) d 256 1653 1134 [l0, l1, l2, l3] [] S h n) ∧
  (∀ (d : Nat) (l0 l1 l2 l3 : Option mx_V) (S h : mx_H) (n : Int), mx_ex d 256 1134 [l0, l1, l2, l3] [] S h n = mx_ex d 256 1135 [l0, l1, l2, l3] [(0, 0)] S h n) ∧
  (∀ (d : Nat) (x : Int) (l0 l1 l2 l3 : Option mx_V) (S h : mx_H) (n : Int), mx_ex d 256 1135 [l0, l1, l2, l3] [(0, x)] S h n = mx_re (0 ≤ x ∧ x ≤ 1) (some (0, x)) S h n) ∧
  (∀ (d : Nat) (x : Int) (l0 l2 l3 : Option mx_V) (S h : mx_H) (n : Int), mx_ex d 256 1136 [l0, some (2, x), l2, l3] [] S h n = mx_ex d 256 1137 [l0, some (2, x), l2, l3] [(2, x)] S h n) ∧
  (∀ (d : Nat) (x : Int) (l1 l2 l3 : Option mx_V) (v0 : mx_V) (S h : mx_H) (n : Int), mx_ex d 256 1137 [some (2, x), l1, l2, l3] [v0] S h n = mx_ex d 256 1138 [some (2, x), l1, l2, l3] [(2, x), v0] S h n) ∧
  (∀ (d : Nat) (x : Int) (l0 l1 l2 : Option mx_V) (v0 v1 : mx_V) (S h : mx_H) (n : Int), mx_ex d 256 1138 [l0, l1, l2, some (0, x)] [v0, v1] S h n = mx_ex d 256 1139 [l0, l1, l2, some (0, x)] [(0, x), v0, v1] S h n) ∧
  (∀ (d : Nat) (l0 l1 l2 l3 : Option mx_V) (v0 v1 v2 : mx_V) (S h : mx_H) (n : Int), mx_ex d 256 1139 [l0, l1, l2, l3] [v0, v1, v2] S h n = mx_ex d 256 1140 [l0, l1, l2, l3] [(0, 1), v0, v1, v2] S h n) ∧
  (∀ (d : Nat) (b a : Int) (l0 l1 l2 l3 : Option mx_V) (v2 v3 : mx_V) (S h : mx_H) (n : Int), mx_ex d 256 1140 [l0, l1, l2, l3] [(0, b), (0, a), v2, v3] S h n = mx_ex d 256 1141 [l0, l1, l2, l3] [(0, mx_w (a + b)), v2, v3] S h n) :=
  ⟨by intros; exact eq_ld rfl rfl,
   by intros; exact eq_ld rfl rfl,
   by intros; exact eq_push rfl,
   by intros; exact eq_i2 (o := mx_add) rfl,
   by intros; exact eq_iald rfl,
   by intros; exact eq_ld rfl rfl,
   by intros; exact eq_ld rfl rfl,
   by intros; exact eq_push rfl,
   by intros; exact eq_i2 (o := mx_add) rfl,
   by intros; exact eq_iald rfl,
   by intros; exact eq_cv rfl rfl (Nat.le_of_ble_eq_true rfl) rfl rfl,
   by intros; exact eq_ic0 rfl,
   by intros; exact eq_push rfl,
   by intros; exact eq_retz rfl,
   by intros; exact eq_ld rfl rfl,
   by intros; exact eq_ld rfl rfl,
   by intros; exact eq_ld rfl rfl,
   by intros; exact eq_push rfl,
   by intros; exact eq_i2 (o := mx_add) rfl,
   by intros; exact eq_iald rfl,
   by intros; exact eq_ld rfl rfl,
   by intros; exact eq_ld rfl rfl,
   by intros; exact eq_push rfl,
   by intros; exact eq_i2 (o := mx_add) rfl,
   by intros; exact eq_iald rfl,
   by intros; exact eq_cv rfl rfl (Nat.le_of_ble_eq_true rfl) rfl rfl,
   by intros; exact eq_ld rfl rfl,
   by intros; exact eq_ld rfl rfl,
   by intros; exact eq_ld rfl rfl,
   by intros; exact eq_push rfl,
   by intros; exact eq_i2 (o := mx_add) rfl,
   by intros; exact eq_iald rfl,
   by intros; exact eq_ld rfl rfl,
   by intros; exact eq_ld rfl rfl,
   by intros; exact eq_push rfl,
   by intros; exact eq_i2 (o := mx_add) rfl,
   by intros; exact eq_iald rfl,
   by intros; exact eq_cv rfl rfl (Nat.le_of_ble_eq_true rfl) rfl rfl,
   by intros; exact eq_ic0 rfl,
   by intros; exact eq_push rfl,
   by intros; exact eq_retz rfl,
   by intros; exact eq_ld rfl rfl,
   by intros; exact eq_ld rfl rfl,
   by intros; exact eq_ld rfl rfl,
   by intros; exact eq_push rfl,
   by intros; exact eq_i2 (o := mx_add) rfl,
   by intros; exact eq_iald rfl,
   by intros; exact eq_cv rfl rfl (Nat.le_of_ble_eq_true rfl) rfl rfl,
   by intros; exact eq_ld rfl rfl,
   by intros; exact eq_ld rfl rfl,
   by intros; exact eq_ld rfl rfl,
   by intros; exact eq_push rfl,
   by intros; exact eq_i2 (o := mx_add) rfl,
   by intros; exact eq_iald rfl,
   by intros; exact eq_cv rfl rfl (Nat.le_of_ble_eq_true rfl) rfl rfl,
   by intros; exact eq_ic0 rfl,
   by intros; exact eq_push rfl,
   by intros; exact eq_retz rfl,
   by intros; exact eq_ld rfl rfl,
   by intros; exact eq_cv rfl rfl (Nat.le_of_ble_eq_true rfl) rfl rfl,
   by intros; exact eq_ld rfl rfl,
   by intros; exact eq_cv rfl rfl (Nat.le_of_ble_eq_true rfl) rfl rfl,
   by intros; exact eq_ic0 rfl,
   by intros; exact eq_push rfl,
   by intros; exact eq_retz rfl,
   by intros; exact eq_ld rfl rfl,
   by intros; exact eq_ld rfl rfl,
   by intros; exact eq_ld rfl rfl,
   by intros; exact eq_push rfl,
   by intros; exact eq_i2 (o := mx_add) rfl⟩
theorem rw_L_law_11 :
  (∀ (d : Nat) (i a : Int) (l0 l1 l2 l3 : Option mx_V) (v2 : mx_V) (S h : mx_H) (n : Int), mx_ex d 256 1141 [l0, l1, l2, l3] [(0, i), (2, a), v2] S h n = mx_gd ((S a (-2) = 20 ∨ S a (-2) = 24) ∧ 0 ≤ i ∧ i < S a (-1)) d 256 1142 [l0, l1, l2, l3] [(0, h a i), v2] S h n) ∧
  (∀ (d : Nat) (a : Int) (l0 l1 l2 l3 : Option mx_V) (v0 : mx_V) (S h : mx_H) (n : Int), mx_ex (d + 1) 256 1142 [l0, l1, l2, l3] [v0, (2, a)] S h n = mx_cl (S a (-2) = 7) d 129 [(2, a), v0] 256 1145 [l0, l1, l2, l3] [] S h n) ∧
  (∀ (d : Nat) (x : Int) (l0 l1 l3 : Option mx_V) (v0 : mx_V) (S h : mx_H) (n : Int), mx_ex d 256 1145 [l0, l1, some (2, x), l3] [v0] S h n = mx_ex d 256 1146 [l0, l1, some (2, x), l3] [(2, x), v0] S h n) ∧
  (∀ (d : Nat) (x : Int) (l1 l2 l3 : Option mx_V) (v0 v1 : mx_V) (S h : mx_H) (n : Int), mx_ex d 256 1146 [some (2, x), l1, l2, l3] [v0, v1] S h n = mx_ex d 256 1147 [some (2, x), l1, l2, l3] [(2, x), v0, v1] S h n) ∧
  (∀ (d : Nat) (x : Int) (l0 l1 l2 : Option mx_V) (v0 v1 v2 : mx_V) (S h : mx_H) (n : Int), mx_ex d 256 1147 [l0, l1, l2, some (0, x)] [v0, v1, v2] S h n = mx_ex d 256 1148 [l0, l1, l2, some (0, x)] [(0, x), v0, v1, v2] S h n) ∧
  (∀ (d : Nat) (l0 l1 l2 l3 : Option mx_V) (v0 v1 v2 v3 : mx_V) (S h : mx_H) (n : Int), mx_ex d 256 1148 [l0, l1, l2, l3] [v0, v1, v2, v3] S h n = mx_ex d 256 1149 [l0, l1, l2, l3] [(0, 1), v0, v1, v2, v3] S h n) ∧
  (∀ (d : Nat) (b a : Int) (l0 l1 l2 l3 : Option mx_V) (v2 v3 v4 : mx_V) (S h : mx_H) (n : Int), mx_ex d 256 1149 [l0, l1, l2, l3] [(0, b), (0, a), v2, v3, v4] S h n = mx_ex d 256 1150 [l0, l1, l2, l3] [(0, mx_w (a + b)), v2, v3, v4] S h n) ∧
  (∀ (d : Nat) (i a : Int) (l0 l1 l2 l3 : Option mx_V) (v2 v3 : mx_V) (S h : mx_H) (n : Int), mx_ex d 256 1150 [l0, l1, l2, l3] [(0, i), (2, a), v2, v3] S h n = mx_gd ((S a (-2) = 20 ∨ S a (-2) = 24) ∧ 0 ≤ i ∧ i < S a (-1)) d 256 1151 [l0, l1, l2, l3] [(0, h a i), v2, v3] S h n) ∧
  (∀ (d : Nat) (a : Int) (l0 l1 l2 l3 : Option mx_V) (v0 v2 : mx_V) (S h : mx_H) (n : Int), mx_ex (d + 1) 256 1151 [l0, l1, l2, l3] [v0, (2, a), v2] S h n = mx_cl (S a (-2) = 13) d 221 [(2, a), v0] 256 1154 [l0, l1, l2, l3] [v2] S h n) ∧
  (∀ (d : Nat) (b a : Int) (l0 l1 l2 l3 : Option mx_V) (S h : mx_H) (n : Int), mx_ex d 256 1154 [l0, l1, l2, l3] [(0, b), (0, a)] S h n = mx_br (a = b) d 256 1653 1157 [l0, l1, l2, l3] [] S h n) ∧
  (∀ (d : Nat) (l0 l1 l2 l3 : Option mx_V) (S h : mx_H) (n : Int), mx_ex d 256 1157 [l0, l1, l2, l3] [] S h n = mx_ex d 256 1158 [l0, l1, l2, l3] [(0, 0)] S h n) ∧
  (∀ (d : Nat) (x : Int) (l0 l1 l2 l3 : Option mx_V) (S h : mx_H) (n : Int), mx_ex d 256 1158 [l0, l1, l2, l3] [(0, x)] S h n = mx_re (0 ≤ x ∧ x ≤ 1) (some (0, x)) S h n) ∧
  (∀ (d : Nat) (x : Int) (l0 l2 l3 : Option mx_V) (S h : mx_H) (n : Int), mx_ex d 256 1159 [l0, some (2, x), l2, l3] [] S h n = mx_ex d 256 1160 [l0, some (2, x), l2, l3] [(2, x)] S h n) ∧
  (∀ (d : Nat) (x : Int) (l1 l2 l3 : Option mx_V) (v0 : mx_V) (S h : mx_H) (n : Int), mx_ex d 256 1160 [some (2, x), l1, l2, l3] [v0] S h n = mx_ex d 256 1161 [some (2, x), l1, l2, l3] [(2, x), v0] S h n) ∧
  (∀ (d : Nat) (x : Int) (l0 l1 l2 : Option mx_V) (v0 v1 : mx_V) (S h : mx_H) (n : Int), mx_ex d 256 1161 [l0, l1, l2, some (0, x)] [v0, v1] S h n = mx_ex d 256 1162 [l0, l1, l2, some (0, x)] [(0, x), v0, v1] S h n) ∧
  (∀ (d : Nat) (l0 l1 l2 l3 : Option mx_V) (v0 v1 v2 : mx_V) (S h : mx_H) (n : Int), mx_ex d 256 1162 [l0, l1, l2, l3] [v0, v1, v2] S h n = mx_ex d 256 1163 [l0, l1, l2, l3] [(0, 1), v0, v1, v2] S h n) ∧
  (∀ (d : Nat) (b a : Int) (l0 l1 l2 l3 : Option mx_V) (v2 v3 : mx_V) (S h : mx_H) (n : Int), mx_ex d 256 1163 [l0, l1, l2, l3] [(0, b), (0, a), v2, v3] S h n = mx_ex d 256 1164 [l0, l1, l2, l3] [(0, mx_w (a + b)), v2, v3] S h n) ∧
  (∀ (d : Nat) (i a : Int) (l0 l1 l2 l3 : Option mx_V) (v2 : mx_V) (S h : mx_H) (n : Int), mx_ex d 256 1164 [l0, l1, l2, l3] [(0, i), (2, a), v2] S h n = mx_gd ((S a (-2) = 20 ∨ S a (-2) = 24) ∧ 0 ≤ i ∧ i < S a (-1)) d 256 1165 [l0, l1, l2, l3] [(0, h a i), v2] S h n) ∧
  (∀ (d : Nat) (x : Int) (l1 l2 l3 : Option mx_V) (v0 v1 : mx_V) (S h : mx_H) (n : Int), mx_ex d 256 1165 [some (2, x), l1, l2, l3] [v0, v1] S h n = mx_ex d 256 1166 [some (2, x), l1, l2, l3] [(2, x), v0, v1] S h n) ∧
  (∀ (d : Nat) (x : Int) (l0 l1 l2 : Option mx_V) (v0 v1 v2 : mx_V) (S h : mx_H) (n : Int), mx_ex d 256 1166 [l0, l1, l2, some (0, x)] [v0, v1, v2] S h n = mx_ex d 256 1167 [l0, l1, l2, some (0, x)] [(0, x), v0, v1, v2] S h n) ∧
  (∀ (d : Nat) (l0 l1 l2 l3 : Option mx_V) (v0 v1 v2 v3 : mx_V) (S h : mx_H) (n : Int), mx_ex d 256 1167 [l0, l1, l2, l3] [v0, v1, v2, v3] S h n = mx_ex d 256 1168 [l0, l1, l2, l3] [(0, 2), v0, v1, v2, v3] S h n) ∧
  (∀ (d : Nat) (b a : Int) (l0 l1 l2 l3 : Option mx_V) (v2 v3 v4 : mx_V) (S h : mx_H) (n : Int), mx_ex d 256 1168 [l0, l1, l2, l3] [(0, b), (0, a), v2, v3, v4] S h n = mx_ex d 256 1169 [l0, l1, l2, l3] [(0, mx_w (a + b)), v2, v3, v4] S h n) ∧
  (∀ (d : Nat) (i a : Int) (l0 l1 l2 l3 : Option mx_V) (v2 v3 : mx_V) (S h : mx_H) (n : Int), mx_ex d 256 1169 [l0, l1, l2, l3] [(0, i), (2, a), v2, v3] S h n = mx_gd ((S a (-2) = 20 ∨ S a (-2) = 24) ∧ 0 ≤ i ∧ i < S a (-1)) d 256 1170 [l0, l1, l2, l3] [(0, h a i), v2, v3] S h n) ∧
  (∀ (d : Nat) (a : Int) (l0 l1 l2 l3 : Option mx_V) (v0 v1 : mx_V) (S h : mx_H) (n : Int), mx_ex (d + 1) 256 1170 [l0, l1, l2, l3] [v0, v1, (2, a)] S h n = mx_cl (S a (-2) = 7) d 130 [(2, a), v1, v0] 256 1173 [l0, l1, l2, l3] [] S h n) ∧
  (∀ (d : Nat) (x : Int) (l0 l1 l3 : Option mx_V) (v0 : mx_V) (S h : mx_H) (n : Int), mx_ex d 256 1173 [l0, l1, some (2, x), l3] [v0] S h n = mx_ex d 256 1174 [l0, l1, some (2, x), l3] [(2, x), v0] S h n) ∧
  (∀ (d : Nat) (x : Int) (l1 l2 l3 : Option mx_V) (v0 v1 : mx_V) (S h : mx_H) (n : Int), mx_ex d 256 1174 [some (2, x), l1, l2, l3] [v0, v1] S h n = mx_ex d 256 1175 [some (2, x), l1, l2, l3] [(2, x), v0, v1] S h n) ∧
  (∀ (d : Nat) (x : Int) (l0 l1 l2 : Option mx_V) (v0 v1 v2 : mx_V) (S h : mx_H) (n : Int), mx_ex d 256 1175 [l0, l1, l2, some (0, x)] [v0, v1, v2] S h n = mx_ex d 256 1176 [l0, l1, l2, some (0, x)] [(0, x), v0, v1, v2] S h n) ∧
  (∀ (d : Nat) (l0 l1 l2 l3 : Option mx_V) (v0 v1 v2 v3 : mx_V) (S h : mx_H) (n : Int), mx_ex d 256 1176 [l0, l1, l2, l3] [v0, v1, v2, v3] S h n = mx_ex d 256 1177 [l0, l1, l2, l3] [(0, 1), v0, v1, v2, v3] S h n) ∧
  (∀ (d : Nat) (b a : Int) (l0 l1 l2 l3 : Option mx_V) (v2 v3 v4 : mx_V) (S h : mx_H) (n : Int), mx_ex d 256 1177 [l0, l1, l2, l3] [(0, b), (0, a), v2, v3, v4] S h n = mx_ex d 256 1178 [l0, l1, l2, l3] [(0, mx_w (a + b)), v2, v3, v4] S h n) ∧
  (∀ (d : Nat) (i a : Int) (l0 l1 l2 l3 : Option mx_V) (v2 v3 : mx_V) (S h : mx_H) (n : Int), mx_ex d 256 1178 [l0, l1, l2, l3] [(0, i), (2, a), v2, v3] S h n = mx_gd ((S a (-2) = 20 ∨ S a (-2) = 24) ∧ 0 ≤ i ∧ i < S a (-1)) d 256 1179 [l0, l1, l2, l3] [(0, h a i), v2, v3] S h n) ∧
  (∀ (d : Nat) (x : Int) (l1 l2 l3 : Option mx_V) (v0 v1 v2 : mx_V) (S h : mx_H) (n : Int), mx_ex d 256 1179 [some (2, x), l1, l2, l3] [v0, v1, v2] S h n = mx_ex d 256 1180 [some (2, x), l1, l2, l3] [(2, x), v0, v1, v2] S h n) ∧
  (∀ (d : Nat) (x : Int) (l0 l1 l2 : Option mx_V) (v0 v1 v2 v3 : mx_V) (S h : mx_H) (n : Int), mx_ex d 256 1180 [l0, l1, l2, some (0, x)] [v0, v1, v2, v3] S h n = mx_ex d 256 1181 [l0, l1, l2, some (0, x)] [(0, x), v0, v1, v2, v3] S h n) ∧
  (∀ (d : Nat) (l0 l1 l2 l3 : Option mx_V) (v0 v1 v2 v3 v4 : mx_V) (S h : mx_H) (n : Int), mx_ex d 256 1181 [l0, l1, l2, l3] [v0, v1, v2, v3, v4] S h n = mx_ex d 256 1182 [l0, l1, l2, l3] [(0, 2), v0, v1, v2, v3, v4] S h n) ∧
  (∀ (d : Nat) (b a : Int) (l0 l1 l2 l3 : Option mx_V) (v2 v3 v4 v5 : mx_V) (S h : mx_H) (n : Int), mx_ex d 256 1182 [l0, l1, l2, l3] [(0, b), (0, a), v2, v3, v4, v5] S h n = mx_ex d 256 1183 [l0, l1, l2, l3] [(0, mx_w (a + b)), v2, v3, v4, v5] S h n) ∧
  (∀ (d : Nat) (i a : Int) (l0 l1 l2 l3 : Option mx_V) (v2 v3 v4 : mx_V) (S h : mx_H) (n : Int), mx_ex d 256 1183 [l0, l1, l2, l3] [(0, i), (2, a), v2, v3, v4] S h n = mx_gd ((S a (-2) = 20 ∨ S a (-2) = 24) ∧ 0 ≤ i ∧ i < S a (-1)) d 256 1184 [l0, l1, l2, l3] [(0, h a i), v2, v3, v4] S h n) ∧
  (∀ (d : Nat) (a : Int) (l0 l1 l2 l3 : Option mx_V) (v0 v1 v3 : mx_V) (S h : mx_H) (n : Int), mx_ex (d + 1) 256 1184 [l0, l1, l2, l3] [v0, v1, (2, a), v3] S h n = mx_cl (S a (-2) = 13) d 223 [(2, a), v1, v0] 256 1187 [l0, l1, l2, l3] [v3] S h n) ∧
  (∀ (d : Nat) (b a : Int) (l0 l1 l2 l3 : Option mx_V) (S h : mx_H) (n : Int), mx_ex d 256 1187 [l0, l1, l2, l3] [(1, b), (1, a)] S h n = mx_ex d 256 1188 [l0, l1, l2, l3] [(0, mx_cmp a b)] S h n) ∧
  (∀ (d : Nat) (a : Int) (l0 l1 l2 l3 : Option mx_V) (S h : mx_H) (n : Int), mx_ex d 256 1188 [l0, l1, l2, l3] [(0, a)] S h n = mx_br (a = 0) d 256 1653 1191 [l0, l1, l2, l3] [] S h n) ∧
  (∀ (d : Nat) (l0 l1 l2 l3 : Option mx_V) (S h : mx_H) (n : Int), mx_ex d 256 1191 [l0, l1, l2, l3] [] S h n = mx_ex d 256 1192 [l0, l1, l2, l3] [(0, 0)] S h n) ∧
  (∀ (d : Nat) (x : Int) (l0 l1 l2 l3 : Option mx_V) (S h : mx_H) (n : Int), mx_ex d 256 1192 [l0, l1, l2, l3] [(0, x)] S h n = mx_re (0 ≤ x ∧ x ≤ 1) (some (0, x)) S h n) ∧
  (∀ (d : Nat) (x : Int) (l0 l2 l3 : Option mx_V) (S h : mx_H) (n : Int), mx_ex d 256 1193 [l0, some (2, x), l2, l3] [] S h n = mx_ex d 256 1194 [l0, some (2, x), l2, l3] [(2, x)] S h n) ∧
  (∀ (d : Nat) (x : Int) (l1 l2 l3 : Option mx_V) (v0 : mx_V) (S h : mx_H) (n : Int), mx_ex d 256 1194 [some (2, x), l1, l2, l3] [v0] S h n = mx_ex d 256 1195 [some (2, x), l1, l2, l3] [(2, x), v0] S h n) ∧
  (∀ (d : Nat) (x : Int) (l0 l1 l2 : Option mx_V) (v0 v1 : mx_V) (S h : mx_H) (n : Int), mx_ex d 256 1195 [l0, l1, l2, some (0, x)] [v0, v1] S h n = mx_ex d 256 1196 [l0, l1, l2, some (0, x)] [(0, x), v0, v1] S h n) ∧
  (∀ (d : Nat) (l0 l1 l2 l3 : Option mx_V) (v0 v1 v2 : mx_V) (S h : mx_H) (n : Int), mx_ex d 256 1196 [l0, l1, l2, l3] [v0, v1, v2] S h n = mx_ex d 256 1197 [l0, l1, l2, l3] [(0, 1), v0, v1, v2] S h n) ∧
  (∀ (d : Nat) (b a : Int) (l0 l1 l2 l3 : Option mx_V) (v2 v3 : mx_V) (S h : mx_H) (n : Int), mx_ex d 256 1197 [l0, l1, l2, l3] [(0, b), (0, a), v2, v3] S h n = mx_ex d 256 1198 [l0, l1, l2, l3] [(0, mx_w (a + b)), v2, v3] S h n) ∧
  (∀ (d : Nat) (i a : Int) (l0 l1 l2 l3 : Option mx_V) (v2 : mx_V) (S h : mx_H) (n : Int), mx_ex d 256 1198 [l0, l1, l2, l3] [(0, i), (2, a), v2] S h n = mx_gd ((S a (-2) = 20 ∨ S a (-2) = 24) ∧ 0 ≤ i ∧ i < S a (-1)) d 256 1199 [l0, l1, l2, l3] [(0, h a i), v2] S h n) ∧
  (∀ (d : Nat) (x : Int) (l1 l2 l3 : Option mx_V) (v0 v1 : mx_V) (S h : mx_H) (n : Int), mx_ex d 256 1199 [some (2, x), l1, l2, l3] [v0, v1] S h n = mx_ex d 256 1200 [some (2, x), l1, l2, l3] [(2, x), v0, v1] S h n) ∧
  (∀ (d : Nat) (x : Int) (l0 l1 l2 : Option mx_V) (v0 v1 v2 : mx_V) (S h : mx_H) (n : Int), mx_ex d 256 1200 [l0, l1, l2, some (0, x)] [v0, v1, v2] S h n = mx_ex d 256 1201 [l0, l1, l2, some (0, x)] [(0, x), v0, v1, v2] S h n) ∧
  (∀ (d : Nat) (l0 l1 l2 l3 : Option mx_V) (v0 v1 v2 v3 : mx_V) (S h : mx_H) (n : Int), mx_ex d 256 1201 [l0, l1, l2, l3] [v0, v1, v2, v3] S h n = mx_ex d 256 1202 [l0, l1, l2, l3] [(0, 2), v0, v1, v2, v3] S h n) ∧
  (∀ (d : Nat) (b a : Int) (l0 l1 l2 l3 : Option mx_V) (v2 v3 v4 : mx_V) (S h : mx_H) (n : Int), mx_ex d 256 1202 [l0, l1, l2, l3] [(0, b), (0, a), v2, v3, v4] S h n = mx_ex d 256 1203 [l0, l1, l2, l3] [(0, mx_w (a + b)), v2, v3, v4] S h n) ∧
  (∀ (d : Nat) (i a : Int) (l0 l1 l2 l3 : Option mx_V) (v2 v3 : mx_V) (S h : mx_H) (n : Int), mx_ex d 256 1203 [l0, l1, l2, l3] [(0, i), (2, a), v2, v3] S h n = mx_gd ((S a (-2) = 20 ∨ S a (-2) = 24) ∧ 0 ≤ i ∧ i < S a (-1)) d 256 1204 [l0, l1, l2, l3] [(0, h a i), v2, v3] S h n) ∧
  (∀ (d : Nat) (x : Int) (l1 l2 l3 : Option mx_V) (v0 v1 v2 : mx_V) (S h : mx_H) (n : Int), mx_ex d 256 1204 [some (2, x), l1, l2, l3] [v0, v1, v2] S h n = mx_ex d 256 1205 [some (2, x), l1, l2, l3] [(2, x), v0, v1, v2] S h n) ∧
  (∀ (d : Nat) (x : Int) (l0 l1 l2 : Option mx_V) (v0 v1 v2 v3 : mx_V) (S h : mx_H) (n : Int), mx_ex d 256 1205 [l0, l1, l2, some (0, x)] [v0, v1, v2, v3] S h n = mx_ex d 256 1206 [l0, l1, l2, some (0, x)] [(0, x), v0, v1, v2, v3] S h n) ∧
  (∀ (d : Nat) (l0 l1 l2 l3 : Option mx_V) (v0 v1 v2 v3 v4 : mx_V) (S h : mx_H) (n : Int), mx_ex d 256 1206 [l0, l1, l2, l3] [v0, v1, v2, v3, v4] S h n = mx_ex d 256 1207 [l0, l1, l2, l3] [(0, 3), v0, v1, v2, v3, v4] S h n) ∧
  (∀ (d : Nat) (b a : Int) (l0 l1 l2 l3 : Option mx_V) (v2 v3 v4 v5 : mx_V) (S h : mx_H) (n : Int), mx_ex d 256 1207 [l0, l1, l2, l3] [(0, b), (0, a), v2, v3, v4, v5] S h n = mx_ex d 256 1208 [l0, l1, l2, l3] [(0, mx_w (a + b)), v2, v3, v4, v5] S h n) ∧
  (∀ (d : Nat) (i a : Int) (l0 l1 l2 l3 : Option mx_V) (v2 v3 v4 : mx_V) (S h : mx_H) (n : Int), mx_ex d 256 1208 [l0, l1, l2, l3] [(0, i), (2, a), v2, v3, v4] S h n = mx_gd ((S a (-2) = 20 ∨ S a (-2) = 24) ∧ 0 ≤ i ∧ i < S a (-1)) d 256 1209 [l0, l1, l2, l3] [(0, h a i), v2, v3, v4] S h n) ∧
  (∀ (d : Nat) (a : Int) (l0 l1 l2 l3 : Option mx_V) (v1 v2 v3 : mx_V) (S h : mx_H) (n : Int), mx_ex d 256 1209 [l0, l1, l2, l3] [(0, a), v1, v2, v3] S h n = mx_ex d 256 1210 [l0, l1, l2, l3] [(1, a), v1, v2, v3] S h n) ∧
  (∀ (d : Nat) (l0 l1 l2 l3 : Option mx_V) (v0 v1 v2 v3 : mx_V) (S h : mx_H) (n : Int), mx_ex d 256 1210 [l0, l1, l2, l3] [v0, v1, v2, v3] S h n = mx_ex d 256 1212 [l0, l1, l2, l3] [(0, 32), v0, v1, v2, v3] S h n) ∧
  (∀ (d : Nat) (b a : Int) (l0 l1 l2 l3 : Option mx_V) (v2 v3 v4 : mx_V) (S h : mx_H) (n : Int), mx_ex d 256 1212 [l0, l1, l2, l3] [(0, b), (1, a), v2, v3, v4] S h n = mx_ex d 256 1213 [l0, l1, l2, l3] [(1, ml_shl a b), v2, v3, v4] S h n) ∧
  (∀ (d : Nat) (x : Int) (l1 l2 l3 : Option mx_V) (v0 v1 v2 v3 : mx_V) (S h : mx_H) (n : Int), mx_ex d 256 1213 [some (2, x), l1, l2, l3] [v0, v1, v2, v3] S h n = mx_ex d 256 1214 [some (2, x), l1, l2, l3] [(2, x), v0, v1, v2, v3] S h n) ∧
  (∀ (d : Nat) (x : Int) (l0 l1 l2 : Option mx_V) (v0 v1 v2 v3 v4 : mx_V) (S h : mx_H) (n : Int), mx_ex d 256 1214 [l0, l1, l2, some (0, x)] [v0, v1, v2, v3, v4] S h n = mx_ex d 256 1215 [l0, l1, l2, some (0, x)] [(0, x), v0, v1, v2, v3, v4] S h n) ∧
  (∀ (d : Nat) (l0 l1 l2 l3 : Option mx_V) (v0 v1 v2 v3 v4 v5 : mx_V) (S h : mx_H) (n : Int), mx_ex d 256 1215 [l0, l1, l2, l3] [v0, v1, v2, v3, v4, v5] S h n = mx_ex d 256 1216 [l0, l1, l2, l3] [(0, 4), v0, v1, v2, v3, v4, v5] S h n) ∧
  (∀ (d : Nat) (b a : Int) (l0 l1 l2 l3 : Option mx_V) (v2 v3 v4 v5 v6 : mx_V) (S h : mx_H) (n : Int), mx_ex d 256 1216 [l0, l1, l2, l3] [(0, b), (0, a), v2, v3, v4, v5, v6] S h n = mx_ex d 256 1217 [l0, l1, l2, l3] [(0, mx_w (a + b)), v2, v3, v4, v5, v6] S h n) ∧
  (∀ (d : Nat) (i a : Int) (l0 l1 l2 l3 : Option mx_V) (v2 v3 v4 v5 : mx_V) (S h : mx_H) (n : Int), mx_ex d 256 1217 [l0, l1, l2, l3] [(0, i), (2, a), v2, v3, v4, v5] S h n = mx_gd ((S a (-2) = 20 ∨ S a (-2) = 24) ∧ 0 ≤ i ∧ i < S a (-1)) d 256 1218 [l0, l1, l2, l3] [(0, h a i), v2, v3, v4, v5] S h n) ∧
  (∀ (d : Nat) (a : Int) (l0 l1 l2 l3 : Option mx_V) (v1 v2 v3 v4 : mx_V) (S h : mx_H) (n : Int), mx_ex d 256 1218 [l0, l1, l2, l3] [(0, a), v1, v2, v3, v4] S h n = mx_ex d 256 1219 [l0, l1, l2, l3] [(1, a), v1, v2, v3, v4] S h n) ∧
  (∀ (d : Nat) (l0 l1 l2 l3 : Option mx_V) (v0 v1 v2 v3 v4 : mx_V) (S h : mx_H) (n : Int), mx_ex d 256 1219 [l0, l1, l2, l3] [v0, v1, v2, v3, v4] S h n = mx_ex d 256 1222 [l0, l1, l2, l3] [(1, 4294967295), v0, v1, v2, v3, v4] S h n) ∧
  (∀ (d : Nat) (b a : Int) (l0 l1 l2 l3 : Option mx_V) (v2 v3 v4 v5 : mx_V) (S h : mx_H) (n : Int), mx_ex d 256 1222 [l0, l1, l2, l3] [(1, b), (1, a), v2, v3, v4, v5] S h n = mx_ex d 256 1223 [l0, l1, l2, l3] [(1, ml_and a b), v2, v3, v4, v5] S h n) ∧
  (∀ (d : Nat) (b a : Int) (l0 l1 l2 l3 : Option mx_V) (v2 v3 v4 : mx_V) (S h : mx_H) (n : Int), mx_ex d 256 1223 [l0, l1, l2, l3] [(1, b), (1, a), v2, v3, v4] S h n = mx_ex d 256 1224 [l0, l1, l2, l3] [(1, ml_or a b), v2, v3, v4] S h n) ∧
  (∀ (d : Nat) (a : Int) (l0 l1 l2 l3 : Option mx_V) (v0 v1 v2 : mx_V) (S h : mx_H) (n : Int), mx_ex (d + 1) 256 1224 [l0, l1, l2, l3] [v0, v1, v2, (2, a)] S h n = mx_cl (S a (-2) = 7) d 131 [(2, a), v2, v1, v0] 256 1227 [l0, l1, l2, l3] [] S h n) ∧
  (∀ (d : Nat) (x : Int) (l0 l1 l3 : Option mx_V) (v0 : mx_V) (S h : mx_H) (n : Int), mx_ex d 256 1227 [l0, l1, some (2, x), l3] [v0] S h n = mx_ex d 256 1228 [l0, l1, some (2, x), l3] [(2, x), v0] S h n) :=
  ⟨by intros; exact eq_iald rfl,
   by intros; exact eq_cv rfl rfl (Nat.le_of_ble_eq_true rfl) rfl rfl,
   by intros; exact eq_ld rfl rfl,
   by intros; exact eq_ld rfl rfl,
   by intros; exact eq_ld rfl rfl,
   by intros; exact eq_push rfl,
   by intros; exact eq_i2 (o := mx_add) rfl,
   by intros; exact eq_iald rfl,
   by intros; exact eq_cv rfl rfl (Nat.le_of_ble_eq_true rfl) rfl rfl,
   by intros; exact eq_ic0 rfl,
   by intros; exact eq_push rfl,
   by intros; exact eq_retz rfl,
   by intros; exact eq_ld rfl rfl,
   by intros; exact eq_ld rfl rfl,
   by intros; exact eq_ld rfl rfl,
   by intros; exact eq_push rfl,
   by intros; exact eq_i2 (o := mx_add) rfl,
   by intros; exact eq_iald rfl,
   by intros; exact eq_ld rfl rfl,
   by intros; exact eq_ld rfl rfl,
   by intros; exact eq_push rfl,
   by intros; exact eq_i2 (o := mx_add) rfl,
   by intros; exact eq_iald rfl,
   by intros; exact eq_cv rfl rfl (Nat.le_of_ble_eq_true rfl) rfl rfl,
   by intros; exact eq_ld rfl rfl,
   by intros; exact eq_ld rfl rfl,
   by intros; exact eq_ld rfl rfl,
   by intros; exact eq_push rfl,
   by intros; exact eq_i2 (o := mx_add) rfl,
   by intros; exact eq_iald rfl,
   by intros; exact eq_ld rfl rfl,
   by intros; exact eq_ld rfl rfl,
   by intros; exact eq_push rfl,
   by intros; exact eq_i2 (o := mx_add) rfl,
   by intros; exact eq_iald rfl,
   by intros; exact eq_cv rfl rfl (Nat.le_of_ble_eq_true rfl) rfl rfl,
   by intros; exact eq_lcmp rfl,
   by intros; exact eq_if0 rfl,
   by intros; exact eq_push rfl,
   by intros; exact eq_retz rfl,
   by intros; exact eq_ld rfl rfl,
   by intros; exact eq_ld rfl rfl,
   by intros; exact eq_ld rfl rfl,
   by intros; exact eq_push rfl,
   by intros; exact eq_i2 (o := mx_add) rfl,
   by intros; exact eq_iald rfl,
   by intros; exact eq_ld rfl rfl,
   by intros; exact eq_ld rfl rfl,
   by intros; exact eq_push rfl,
   by intros; exact eq_i2 (o := mx_add) rfl,
   by intros; exact eq_iald rfl,
   by intros; exact eq_ld rfl rfl,
   by intros; exact eq_ld rfl rfl,
   by intros; exact eq_push rfl,
   by intros; exact eq_i2 (o := mx_add) rfl,
   by intros; exact eq_iald rfl,
   by intros; exact eq_i2l rfl,
   by intros; exact eq_push rfl,
   by intros; exact eq_ls (o := ml_shl) rfl,
   by intros; exact eq_ld rfl rfl,
   by intros; exact eq_ld rfl rfl,
   by intros; exact eq_push rfl,
   by intros; exact eq_i2 (o := mx_add) rfl,
   by intros; exact eq_iald rfl,
   by intros; exact eq_i2l rfl,
   by intros; exact eq_push rfl,
   by intros; exact eq_l2 (o := ml_and) rfl,
   by intros; exact eq_l2 (o := ml_or) rfl,
   by intros; exact eq_cv rfl rfl (Nat.le_of_ble_eq_true rfl) rfl rfl,
   by intros; exact eq_ld rfl rfl⟩
theorem rw_L_law_12 :
  (∀ (d : Nat) (x : Int) (l1 l2 l3 : Option mx_V) (v0 v1 : mx_V) (S h : mx_H) (n : Int), mx_ex d 256 1228 [some (2, x), l1, l2, l3] [v0, v1] S h n = mx_ex d 256 1229 [some (2, x), l1, l2, l3] [(2, x), v0, v1] S h n) ∧
  (∀ (d : Nat) (x : Int) (l0 l1 l2 : Option mx_V) (v0 v1 v2 : mx_V) (S h : mx_H) (n : Int), mx_ex d 256 1229 [l0, l1, l2, some (0, x)] [v0, v1, v2] S h n = mx_ex d 256 1230 [l0, l1, l2, some (0, x)] [(0, x), v0, v1, v2] S h n) ∧
  (∀ (d : Nat) (l0 l1 l2 l3 : Option mx_V) (v0 v1 v2 v3 : mx_V) (S h : mx_H) (n : Int), mx_ex d 256 1230 [l0, l1, l2, l3] [v0, v1, v2, v3] S h n = mx_ex d 256 1231 [l0, l1, l2, l3] [(0, 1), v0, v1, v2, v3] S h n) ∧
  (∀ (d : Nat) (b a : Int) (l0 l1 l2 l3 : Option mx_V) (v2 v3 v4 : mx_V) (S h : mx_H) (n : Int), mx_ex d 256 1231 [l0, l1, l2, l3] [(0, b), (0, a), v2, v3, v4] S h n = mx_ex d 256 1232 [l0, l1, l2, l3] [(0, mx_w (a + b)), v2, v3, v4] S h n) ∧
  (∀ (d : Nat) (i a : Int) (l0 l1 l2 l3 : Option mx_V) (v2 v3 : mx_V) (S h : mx_H) (n : Int), mx_ex d 256 1232 [l0, l1, l2, l3] [(0, i), (2, a), v2, v3] S h n = mx_gd ((S a (-2) = 20 ∨ S a (-2) = 24) ∧ 0 ≤ i ∧ i < S a (-1)) d 256 1233 [l0, l1, l2, l3] [(0, h a i), v2, v3] S h n) ∧
  (∀ (d : Nat) (x : Int) (l1 l2 l3 : Option mx_V) (v0 v1 v2 : mx_V) (S h : mx_H) (n : Int), mx_ex d 256 1233 [some (2, x), l1, l2, l3] [v0, v1, v2] S h n = mx_ex d 256 1234 [some (2, x), l1, l2, l3] [(2, x), v0, v1, v2] S h n) ∧
  (∀ (d : Nat) (x : Int) (l0 l1 l2 : Option mx_V) (v0 v1 v2 v3 : mx_V) (S h : mx_H) (n : Int), mx_ex d 256 1234 [l0, l1, l2, some (0, x)] [v0, v1, v2, v3] S h n = mx_ex d 256 1235 [l0, l1, l2, some (0, x)] [(0, x), v0, v1, v2, v3] S h n) ∧
  (∀ (d : Nat) (l0 l1 l2 l3 : Option mx_V) (v0 v1 v2 v3 v4 : mx_V) (S h : mx_H) (n : Int), mx_ex d 256 1235 [l0, l1, l2, l3] [v0, v1, v2, v3, v4] S h n = mx_ex d 256 1236 [l0, l1, l2, l3] [(0, 2), v0, v1, v2, v3, v4] S h n) ∧
  (∀ (d : Nat) (b a : Int) (l0 l1 l2 l3 : Option mx_V) (v2 v3 v4 v5 : mx_V) (S h : mx_H) (n : Int), mx_ex d 256 1236 [l0, l1, l2, l3] [(0, b), (0, a), v2, v3, v4, v5] S h n = mx_ex d 256 1237 [l0, l1, l2, l3] [(0, mx_w (a + b)), v2, v3, v4, v5] S h n) ∧
  (∀ (d : Nat) (i a : Int) (l0 l1 l2 l3 : Option mx_V) (v2 v3 v4 : mx_V) (S h : mx_H) (n : Int), mx_ex d 256 1237 [l0, l1, l2, l3] [(0, i), (2, a), v2, v3, v4] S h n = mx_gd ((S a (-2) = 20 ∨ S a (-2) = 24) ∧ 0 ≤ i ∧ i < S a (-1)) d 256 1238 [l0, l1, l2, l3] [(0, h a i), v2, v3, v4] S h n) ∧
  (∀ (d : Nat) (x : Int) (l1 l2 l3 : Option mx_V) (v0 v1 v2 v3 : mx_V) (S h : mx_H) (n : Int), mx_ex d 256 1238 [some (2, x), l1, l2, l3] [v0, v1, v2, v3] S h n = mx_ex d 256 1239 [some (2, x), l1, l2, l3] [(2, x), v0, v1, v2, v3] S h n) ∧
  (∀ (d : Nat) (x : Int) (l0 l1 l2 : Option mx_V) (v0 v1 v2 v3 v4 : mx_V) (S h : mx_H) (n : Int), mx_ex d 256 1239 [l0, l1, l2, some (0, x)] [v0, v1, v2, v3, v4] S h n = mx_ex d 256 1240 [l0, l1, l2, some (0, x)] [(0, x), v0, v1, v2, v3, v4] S h n) ∧
  (∀ (d : Nat) (l0 l1 l2 l3 : Option mx_V) (v0 v1 v2 v3 v4 v5 : mx_V) (S h : mx_H) (n : Int), mx_ex d 256 1240 [l0, l1, l2, l3] [v0, v1, v2, v3, v4, v5] S h n = mx_ex d 256 1241 [l0, l1, l2, l3] [(0, 3), v0, v1, v2, v3, v4, v5] S h n) ∧
  (∀ (d : Nat) (b a : Int) (l0 l1 l2 l3 : Option mx_V) (v2 v3 v4 v5 v6 : mx_V) (S h : mx_H) (n : Int), mx_ex d 256 1241 [l0, l1, l2, l3] [(0, b), (0, a), v2, v3, v4, v5, v6] S h n = mx_ex d 256 1242 [l0, l1, l2, l3] [(0, mx_w (a + b)), v2, v3, v4, v5, v6] S h n) ∧
  (∀ (d : Nat) (i a : Int) (l0 l1 l2 l3 : Option mx_V) (v2 v3 v4 v5 : mx_V) (S h : mx_H) (n : Int), mx_ex d 256 1242 [l0, l1, l2, l3] [(0, i), (2, a), v2, v3, v4, v5] S h n = mx_gd ((S a (-2) = 20 ∨ S a (-2) = 24) ∧ 0 ≤ i ∧ i < S a (-1)) d 256 1243 [l0, l1, l2, l3] [(0, h a i), v2, v3, v4, v5] S h n) ∧
  (∀ (d : Nat) (a : Int) (l0 l1 l2 l3 : Option mx_V) (v1 v2 v3 v4 : mx_V) (S h : mx_H) (n : Int), mx_ex d 256 1243 [l0, l1, l2, l3] [(0, a), v1, v2, v3, v4] S h n = mx_ex d 256 1244 [l0, l1, l2, l3] [(1, a), v1, v2, v3, v4] S h n) ∧
  (∀ (d : Nat) (l0 l1 l2 l3 : Option mx_V) (v0 v1 v2 v3 v4 : mx_V) (S h : mx_H) (n : Int), mx_ex d 256 1244 [l0, l1, l2, l3] [v0, v1, v2, v3, v4] S h n = mx_ex d 256 1246 [l0, l1, l2, l3] [(0, 32), v0, v1, v2, v3, v4] S h n) ∧
  (∀ (d : Nat) (b a : Int) (l0 l1 l2 l3 : Option mx_V) (v2 v3 v4 v5 : mx_V) (S h : mx_H) (n : Int), mx_ex d 256 1246 [l0, l1, l2, l3] [(0, b), (1, a), v2, v3, v4, v5] S h n = mx_ex d 256 1247 [l0, l1, l2, l3] [(1, ml_shl a b), v2, v3, v4, v5] S h n) ∧
  (∀ (d : Nat) (x : Int) (l1 l2 l3 : Option mx_V) (v0 v1 v2 v3 v4 : mx_V) (S h : mx_H) (n : Int), mx_ex d 256 1247 [some (2, x), l1, l2, l3] [v0, v1, v2, v3, v4] S h n = mx_ex d 256 1248 [some (2, x), l1, l2, l3] [(2, x), v0, v1, v2, v3, v4] S h n) ∧
  (∀ (d : Nat) (x : Int) (l0 l1 l2 : Option mx_V) (v0 v1 v2 v3 v4 v5 : mx_V) (S h : mx_H) (n : Int), mx_ex d 256 1248 [l0, l1, l2, some (0, x)] [v0, v1, v2, v3, v4, v5] S h n = mx_ex d 256 1249 [l0, l1, l2, some (0, x)] [(0, x), v0, v1, v2, v3, v4, v5] S h n) ∧
  (∀ (d : Nat) (l0 l1 l2 l3 : Option mx_V) (v0 v1 v2 v3 v4 v5 v6 : mx_V) (S h : mx_H) (n : Int), mx_ex d 256 1249 [l0, l1, l2, l3] [v0, v1, v2, v3, v4, v5, v6] S h n = mx_ex d 256 1250 [l0, l1, l2, l3] [(0, 4), v0, v1, v2, v3, v4, v5, v6] S h n) ∧
  (∀ (d : Nat) (b a : Int) (l0 l1 l2 l3 : Option mx_V) (v2 v3 v4 v5 v6 v7 : mx_V) (S h : mx_H) (n : Int), mx_ex d 256 1250 [l0, l1, l2, l3] [(0, b), (0, a), v2, v3, v4, v5, v6, v7] S h n = mx_ex d 256 1251 [l0, l1, l2, l3] [(0, mx_w (a + b)), v2, v3, v4, v5, v6, v7] S h n) ∧
  (∀ (d : Nat) (i a : Int) (l0 l1 l2 l3 : Option mx_V) (v2 v3 v4 v5 v6 : mx_V) (S h : mx_H) (n : Int), mx_ex d 256 1251 [l0, l1, l2, l3] [(0, i), (2, a), v2, v3, v4, v5, v6] S h n = mx_gd ((S a (-2) = 20 ∨ S a (-2) = 24) ∧ 0 ≤ i ∧ i < S a (-1)) d 256 1252 [l0, l1, l2, l3] [(0, h a i), v2, v3, v4, v5, v6] S h n) ∧
  (∀ (d : Nat) (a : Int) (l0 l1 l2 l3 : Option mx_V) (v1 v2 v3 v4 v5 : mx_V) (S h : mx_H) (n : Int), mx_ex d 256 1252 [l0, l1, l2, l3] [(0, a), v1, v2, v3, v4, v5] S h n = mx_ex d 256 1253 [l0, l1, l2, l3] [(1, a), v1, v2, v3, v4, v5] S h n) ∧
  (∀ (d : Nat) (l0 l1 l2 l3 : Option mx_V) (v0 v1 v2 v3 v4 v5 : mx_V) (S h : mx_H) (n : Int), mx_ex d 256 1253 [l0, l1, l2, l3] [v0, v1, v2, v3, v4, v5] S h n = mx_ex d 256 1256 [l0, l1, l2, l3] [(1, 4294967295), v0, v1, v2, v3, v4, v5] S h n) ∧
  (∀ (d : Nat) (b a : Int) (l0 l1 l2 l3 : Option mx_V) (v2 v3 v4 v5 v6 : mx_V) (S h : mx_H) (n : Int), mx_ex d 256 1256 [l0, l1, l2, l3] [(1, b), (1, a), v2, v3, v4, v5, v6] S h n = mx_ex d 256 1257 [l0, l1, l2, l3] [(1, ml_and a b), v2, v3, v4, v5, v6] S h n) ∧
  (∀ (d : Nat) (b a : Int) (l0 l1 l2 l3 : Option mx_V) (v2 v3 v4 v5 : mx_V) (S h : mx_H) (n : Int), mx_ex d 256 1257 [l0, l1, l2, l3] [(1, b), (1, a), v2, v3, v4, v5] S h n = mx_ex d 256 1258 [l0, l1, l2, l3] [(1, ml_or a b), v2, v3, v4, v5] S h n) ∧
  (∀ (d : Nat) (a : Int) (l0 l1 l2 l3 : Option mx_V) (v0 v1 v2 v4 : mx_V) (S h : mx_H) (n : Int), mx_ex (d + 1) 256 1258 [l0, l1, l2, l3] [v0, v1, v2, (2, a), v4] S h n = mx_cl (S a (-2) = 13) d 224 [(2, a), v2, v1, v0] 256 1261 [l0, l1, l2, l3] [v4] S h n) ∧
  (∀ (d : Nat) (b a : Int) (l0 l1 l2 l3 : Option mx_V) (S h : mx_H) (n : Int), mx_ex d 256 1261 [l0, l1, l2, l3] [(1, b), (1, a)] S h n = mx_ex d 256 1262 [l0, l1, l2, l3] [(0, mx_cmp a b)] S h n) ∧
  (∀ (d : Nat) (a : Int) (l0 l1 l2 l3 : Option mx_V) (S h : mx_H) (n : Int), mx_ex d 256 1262 [l0, l1, l2, l3] [(0, a)] S h n = mx_br (a = 0) d 256 1653 1265 [l0, l1, l2, l3] [] S h n) ∧
  (∀ (d : Nat) (l0 l1 l2 l3 : Option mx_V) (S h : mx_H) (n : Int), mx_ex d 256 1265 [l0, l1, l2, l3] [] S h n = mx_ex d 256 1266 [l0, l1, l2, l3] [(0, 0)] S h n) ∧
  (∀ (d : Nat) (x : Int) (l0 l1 l2 l3 : Option mx_V) (S h : mx_H) (n : Int), mx_ex d 256 1266 [l0, l1, l2, l3] [(0, x)] S h n = mx_re (0 ≤ x ∧ x ≤ 1) (some (0, x)) S h n) ∧
  (∀ (d : Nat) (x : Int) (l0 l2 l3 : Option mx_V) (S h : mx_H) (n : Int), mx_ex d 256 1267 [l0, some (2, x), l2, l3] [] S h n = mx_ex d 256 1268 [l0, some (2, x), l2, l3] [(2, x)] S h n) ∧
  (∀ (d : Nat) (a : Int) (l0 l1 l2 l3 : Option mx_V) (S h : mx_H) (n : Int), mx_ex (d + 1) 256 1268 [l0, l1, l2, l3] [(2, a)] S h n = mx_cl (S a (-2) = 7) d 132 [(2, a)] 256 1271 [l0, l1, l2, l3] [] S h n) ∧
  (∀ (d : Nat) (x : Int) (l0 l1 l3 : Option mx_V) (v0 : mx_V) (S h : mx_H) (n : Int), mx_ex d 256 1271 [l0, l1, some (2, x), l3] [v0] S h n = mx_ex d 256 1272 [l0, l1, some (2, x), l3] [(2, x), v0] S h n) ∧
  (∀ (d : Nat) (a : Int) (l0 l1 l2 l3 : Option mx_V) (v1 : mx_V) (S h : mx_H) (n : Int), mx_ex (d + 1) 256 1272 [l0, l1, l2, l3] [(2, a), v1] S h n = mx_cl (S a (-2) = 13) d 226 [(2, a)] 256 1275 [l0, l1, l2, l3] [v1] S h n) ∧
  (∀ (d : Nat) (b a : Int) (l0 l1 l2 l3 : Option mx_V) (S h : mx_H) (n : Int), mx_ex d 256 1275 [l0, l1, l2, l3] [(0, b), (0, a)] S h n = mx_br (a = b) d 256 1653 1278 [l0, l1, l2, l3] [] S h n) ∧
  (∀ (d : Nat) (l0 l1 l2 l3 : Option mx_V) (S h : mx_H) (n : Int), mx_ex d 256 1278 [l0, l1, l2, l3] [] S h n = mx_ex d 256 1279 [l0, l1, l2, l3] [(0, 0)] S h n) ∧
  (∀ (d : Nat) (x : Int) (l0 l1 l2 l3 : Option mx_V) (S h : mx_H) (n : Int), mx_ex d 256 1279 [l0, l1, l2, l3] [(0, x)] S h n = mx_re (0 ≤ x ∧ x ≤ 1) (some (0, x)) S h n) ∧
  (∀ (d : Nat) (x : Int) (l0 l2 l3 : Option mx_V) (S h : mx_H) (n : Int), mx_ex d 256 1280 [l0, some (2, x), l2, l3] [] S h n = mx_ex d 256 1281 [l0, some (2, x), l2, l3] [(2, x)] S h n) ∧
  (∀ (d : Nat) (x : Int) (l1 l2 l3 : Option mx_V) (v0 : mx_V) (S h : mx_H) (n : Int), mx_ex d 256 1281 [some (2, x), l1, l2, l3] [v0] S h n = mx_ex d 256 1282 [some (2, x), l1, l2, l3] [(2, x), v0] S h n) ∧
  (∀ (d : Nat) (x : Int) (l0 l1 l2 : Option mx_V) (v0 v1 : mx_V) (S h : mx_H) (n : Int), mx_ex d 256 1282 [l0, l1, l2, some (0, x)] [v0, v1] S h n = mx_ex d 256 1283 [l0, l1, l2, some (0, x)] [(0, x), v0, v1] S h n) ∧
  (∀ (d : Nat) (l0 l1 l2 l3 : Option mx_V) (v0 v1 v2 : mx_V) (S h : mx_H) (n : Int), mx_ex d 256 1283 [l0, l1, l2, l3] [v0, v1, v2] S h n = mx_ex d 256 1284 [l0, l1, l2, l3] [(0, 1), v0, v1, v2] S h n) ∧
  (∀ (d : Nat) (b a : Int) (l0 l1 l2 l3 : Option mx_V) (v2 v3 : mx_V) (S h : mx_H) (n : Int), mx_ex d 256 1284 [l0, l1, l2, l3] [(0, b), (0, a), v2, v3] S h n = mx_ex d 256 1285 [l0, l1, l2, l3] [(0, mx_w (a + b)), v2, v3] S h n) ∧
  (∀ (d : Nat) (i a : Int) (l0 l1 l2 l3 : Option mx_V) (v2 : mx_V) (S h : mx_H) (n : Int), mx_ex d 256 1285 [l0, l1, l2, l3] [(0, i), (2, a), v2] S h n = mx_gd ((S a (-2) = 20 ∨ S a (-2) = 24) ∧ 0 ≤ i ∧ i < S a (-1)) d 256 1286 [l0, l1, l2, l3] [(0, h a i), v2] S h n) ∧
  (∀ (d : Nat) (x : Int) (l1 l2 l3 : Option mx_V) (v0 v1 : mx_V) (S h : mx_H) (n : Int), mx_ex d 256 1286 [some (2, x), l1, l2, l3] [v0, v1] S h n = mx_ex d 256 1287 [some (2, x), l1, l2, l3] [(2, x), v0, v1] S h n) ∧
  (∀ (d : Nat) (x : Int) (l0 l1 l2 : Option mx_V) (v0 v1 v2 : mx_V) (S h : mx_H) (n : Int), mx_ex d 256 1287 [l0, l1, l2, some (0, x)] [v0, v1, v2] S h n = mx_ex d 256 1288 [l0, l1, l2, some (0, x)] [(0, x), v0, v1, v2] S h n) ∧
  (∀ (d : Nat) (l0 l1 l2 l3 : Option mx_V) (v0 v1 v2 v3 : mx_V) (S h : mx_H) (n : Int), mx_ex d 256 1288 [l0, l1, l2, l3] [v0, v1, v2, v3] S h n = mx_ex d 256 1289 [l0, l1, l2, l3] [(0, 2), v0, v1, v2, v3] S h n) ∧
  (∀ (d : Nat) (b a : Int) (l0 l1 l2 l3 : Option mx_V) (v2 v3 v4 : mx_V) (S h : mx_H) (n : Int), mx_ex d 256 1289 [l0, l1, l2, l3] [(0, b), (0, a), v2, v3, v4] S h n = mx_ex d 256 1290 [l0, l1, l2, l3] [(0, mx_w (a + b)), v2, v3, v4] S h n) ∧
  (∀ (d : Nat) (i a : Int) (l0 l1 l2 l3 : Option mx_V) (v2 v3 : mx_V) (S h : mx_H) (n : Int), mx_ex d 256 1290 [l0, l1, l2, l3] [(0, i), (2, a), v2, v3] S h n = mx_gd ((S a (-2) = 20 ∨ S a (-2) = 24) ∧ 0 ≤ i ∧ i < S a (-1)) d 256 1291 [l0, l1, l2, l3] [(0, h a i), v2, v3] S h n) ∧
  (∀ (d : Nat) (x : Int) (l1 l2 l3 : Option mx_V) (v0 v1 v2 : mx_V) (S h : mx_H) (n : Int), mx_ex d 256 1291 [some (2, x), l1, l2, l3] [v0, v1, v2] S h n = mx_ex d 256 1292 [some (2, x), l1, l2, l3] [(2, x), v0, v1, v2] S h n) ∧
  (∀ (d : Nat) (x : Int) (l0 l1 l2 : Option mx_V) (v0 v1 v2 v3 : mx_V) (S h : mx_H) (n : Int), mx_ex d 256 1292 [l0, l1, l2, some (0, x)] [v0, v1, v2, v3] S h n = mx_ex d 256 1293 [l0, l1, l2, some (0, x)] [(0, x), v0, v1, v2, v3] S h n) ∧
  (∀ (d : Nat) (l0 l1 l2 l3 : Option mx_V) (v0 v1 v2 v3 v4 : mx_V) (S h : mx_H) (n : Int), mx_ex d 256 1293 [l0, l1, l2, l3] [v0, v1, v2, v3, v4] S h n = mx_ex d 256 1294 [l0, l1, l2, l3] [(0, 3), v0, v1, v2, v3, v4] S h n) ∧
  (∀ (d : Nat) (b a : Int) (l0 l1 l2 l3 : Option mx_V) (v2 v3 v4 v5 : mx_V) (S h : mx_H) (n : Int), mx_ex d 256 1294 [l0, l1, l2, l3] [(0, b), (0, a), v2, v3, v4, v5] S h n = mx_ex d 256 1295 [l0, l1, l2, l3] [(0, mx_w (a + b)), v2, v3, v4, v5] S h n) ∧
  (∀ (d : Nat) (i a : Int) (l0 l1 l2 l3 : Option mx_V) (v2 v3 v4 : mx_V) (S h : mx_H) (n : Int), mx_ex d 256 1295 [l0, l1, l2, l3] [(0, i), (2, a), v2, v3, v4] S h n = mx_gd ((S a (-2) = 20 ∨ S a (-2) = 24) ∧ 0 ≤ i ∧ i < S a (-1)) d 256 1296 [l0, l1, l2, l3] [(0, h a i), v2, v3, v4] S h n) ∧
  (∀ (d : Nat) (x : Int) (l1 l2 l3 : Option mx_V) (v0 v1 v2 v3 : mx_V) (S h : mx_H) (n : Int), mx_ex d 256 1296 [some (2, x), l1, l2, l3] [v0, v1, v2, v3] S h n = mx_ex d 256 1297 [some (2, x), l1, l2, l3] [(2, x), v0, v1, v2, v3] S h n) ∧
  (∀ (d : Nat) (x : Int) (l0 l1 l2 : Option mx_V) (v0 v1 v2 v3 v4 : mx_V) (S h : mx_H) (n : Int), mx_ex d 256 1297 [l0, l1, l2, some (0, x)] [v0, v1, v2, v3, v4] S h n = mx_ex d 256 1298 [l0, l1, l2, some (0, x)] [(0, x), v0, v1, v2, v3, v4] S h n) ∧
  (∀ (d : Nat) (l0 l1 l2 l3 : Option mx_V) (v0 v1 v2 v3 v4 v5 : mx_V) (S h : mx_H) (n : Int), mx_ex d 256 1298 [l0, l1, l2, l3] [v0, v1, v2, v3, v4, v5] S h n = mx_ex d 256 1299 [l0, l1, l2, l3] [(0, 4), v0, v1, v2, v3, v4, v5] S h n) ∧
  (∀ (d : Nat) (b a : Int) (l0 l1 l2 l3 : Option mx_V) (v2 v3 v4 v5 v6 : mx_V) (S h : mx_H) (n : Int), mx_ex d 256 1299 [l0, l1, l2, l3] [(0, b), (0, a), v2, v3, v4, v5, v6] S h n = mx_ex d 256 1300 [l0, l1, l2, l3] [(0, mx_w (a + b)), v2, v3, v4, v5, v6] S h n) ∧
  (∀ (d : Nat) (i a : Int) (l0 l1 l2 l3 : Option mx_V) (v2 v3 v4 v5 : mx_V) (S h : mx_H) (n : Int), mx_ex d 256 1300 [l0, l1, l2, l3] [(0, i), (2, a), v2, v3, v4, v5] S h n = mx_gd ((S a (-2) = 20 ∨ S a (-2) = 24) ∧ 0 ≤ i ∧ i < S a (-1)) d 256 1301 [l0, l1, l2, l3] [(0, h a i), v2, v3, v4, v5] S h n) ∧
  (∀ (d : Nat) (a : Int) (l0 l1 l2 l3 : Option mx_V) (v0 v1 v2 v3 : mx_V) (S h : mx_H) (n : Int), mx_ex (d + 1) 256 1301 [l0, l1, l2, l3] [v0, v1, v2, v3, (2, a)] S h n = mx_cl (S a (-2) = 7) d 133 [(2, a), v3, v2, v1, v0] 256 1304 [l0, l1, l2, l3] [] S h n) ∧
  (∀ (d : Nat) (x : Int) (l0 l1 l3 : Option mx_V) (v0 : mx_V) (S h : mx_H) (n : Int), mx_ex d 256 1304 [l0, l1, some (2, x), l3] [v0] S h n = mx_ex d 256 1305 [l0, l1, some (2, x), l3] [(2, x), v0] S h n) ∧
  (∀ (d : Nat) (x : Int) (l1 l2 l3 : Option mx_V) (v0 v1 : mx_V) (S h : mx_H) (n : Int), mx_ex d 256 1305 [some (2, x), l1, l2, l3] [v0, v1] S h n = mx_ex d 256 1306 [some (2, x), l1, l2, l3] [(2, x), v0, v1] S h n) ∧
  (∀ (d : Nat) (x : Int) (l0 l1 l2 : Option mx_V) (v0 v1 v2 : mx_V) (S h : mx_H) (n : Int), mx_ex d 256 1306 [l0, l1, l2, some (0, x)] [v0, v1, v2] S h n = mx_ex d 256 1307 [l0, l1, l2, some (0, x)] [(0, x), v0, v1, v2] S h n) ∧
  (∀ (d : Nat) (l0 l1 l2 l3 : Option mx_V) (v0 v1 v2 v3 : mx_V) (S h : mx_H) (n : Int), mx_ex d 256 1307 [l0, l1, l2, l3] [v0, v1, v2, v3] S h n = mx_ex d 256 1308 [l0, l1, l2, l3] [(0, 1), v0, v1, v2, v3] S h n) ∧
  (∀ (d : Nat) (b a : Int) (l0 l1 l2 l3 : Option mx_V) (v2 v3 v4 : mx_V) (S h : mx_H) (n : Int), mx_ex d 256 1308 [l0, l1, l2, l3] [(0, b), (0, a), v2, v3, v4] S h n = mx_ex d 256 1309 [l0, l1, l2, l3] [(0, mx_w (a + b)), v2, v3, v4] S h n) ∧
  (∀ (d : Nat) (i a : Int) (l0 l1 l2 l3 : Option mx_V) (v2 v3 : mx_V) (S h : mx_H) (n : Int), mx_ex d 256 1309 [l0, l1, l2, l3] [(0, i), (2, a), v2, v3] S h n = mx_gd ((S a (-2) = 20 ∨ S a (-2) = 24) ∧ 0 ≤ i ∧ i < S a (-1)) d 256 1310 [l0, l1, l2, l3] [(0, h a i), v2, v3] S h n) ∧
  (∀ (d : Nat) (x : Int) (l1 l2 l3 : Option mx_V) (v0 v1 v2 : mx_V) (S h : mx_H) (n : Int), mx_ex d 256 1310 [some (2, x), l1, l2, l3] [v0, v1, v2] S h n = mx_ex d 256 1311 [some (2, x), l1, l2, l3] [(2, x), v0, v1, v2] S h n) ∧
  (∀ (d : Nat) (x : Int) (l0 l1 l2 : Option mx_V) (v0 v1 v2 v3 : mx_V) (S h : mx_H) (n : Int), mx_ex d 256 1311 [l0, l1, l2, some (0, x)] [v0, v1, v2, v3] S h n = mx_ex d 256 1312 [l0, l1, l2, some (0, x)] [(0, x), v0, v1, v2, v3] S h n) ∧
  (∀ (d : Nat) (l0 l1 l2 l3 : Option mx_V) (v0 v1 v2 v3 v4 : mx_V) (S h : mx_H) (n : Int), mx_ex d 256 1312 [l0, l1, l2, l3] [v0, v1, v2, v3, v4] S h n = mx_ex d 256 1313 [l0, l1, l2, l3] [(0, 2), v0, v1, v2, v3, v4] S h n) :=
  ⟨by intros; exact eq_ld rfl rfl,
   by intros; exact eq_ld rfl rfl,
   by intros; exact eq_push rfl,
   by intros; exact eq_i2 (o := mx_add) rfl,
   by intros; exact eq_iald rfl,
   by intros; exact eq_ld rfl rfl,
   by intros; exact eq_ld rfl rfl,
   by intros; exact eq_push rfl,
   by intros; exact eq_i2 (o := mx_add) rfl,
   by intros; exact eq_iald rfl,
   by intros; exact eq_ld rfl rfl,
   by intros; exact eq_ld rfl rfl,
   by intros; exact eq_push rfl,
   by intros; exact eq_i2 (o := mx_add) rfl,
   by intros; exact eq_iald rfl,
   by intros; exact eq_i2l rfl,
   by intros; exact eq_push rfl,
   by intros; exact eq_ls (o := ml_shl) rfl,
   by intros; exact eq_ld rfl rfl,
   by intros; exact eq_ld rfl rfl,
   by intros; exact eq_push rfl,
   by intros; exact eq_i2 (o := mx_add) rfl,
   by intros; exact eq_iald rfl,
   by intros; exact eq_i2l rfl,
   by intros; exact eq_push rfl,
   by intros; exact eq_l2 (o := ml_and) rfl,
   by intros; exact eq_l2 (o := ml_or) rfl,
   by intros; exact eq_cv rfl rfl (Nat.le_of_ble_eq_true rfl) rfl rfl,
   by intros; exact eq_lcmp rfl,
   by intros; exact eq_if0 rfl,
   by intros; exact eq_push rfl,
   by intros; exact eq_retz rfl,
   by intros; exact eq_ld rfl rfl,
   by intros; exact eq_cv rfl rfl (Nat.le_of_ble_eq_true rfl) rfl rfl,
   by intros; exact eq_ld rfl rfl,
   by intros; exact eq_cv rfl rfl (Nat.le_of_ble_eq_true rfl) rfl rfl,
   by intros; exact eq_ic0 rfl,
   by intros; exact eq_push rfl,
   by intros; exact eq_retz rfl,
   by intros; exact eq_ld rfl rfl,
   by intros; exact eq_ld rfl rfl,
   by intros; exact eq_ld rfl rfl,
   by intros; exact eq_push rfl,
   by intros; exact eq_i2 (o := mx_add) rfl,
   by intros; exact eq_iald rfl,
   by intros; exact eq_ld rfl rfl,
   by intros; exact eq_ld rfl rfl,
   by intros; exact eq_push rfl,
   by intros; exact eq_i2 (o := mx_add) rfl,
   by intros; exact eq_iald rfl,
   by intros; exact eq_ld rfl rfl,
   by intros; exact eq_ld rfl rfl,
   by intros; exact eq_push rfl,
   by intros; exact eq_i2 (o := mx_add) rfl,
   by intros; exact eq_iald rfl,
   by intros; exact eq_ld rfl rfl,
   by intros; exact eq_ld rfl rfl,
   by intros; exact eq_push rfl,
   by intros; exact eq_i2 (o := mx_add) rfl,
   by intros; exact eq_iald rfl,
   by intros; exact eq_cv rfl rfl (Nat.le_of_ble_eq_true rfl) rfl rfl,
   by intros; exact eq_ld rfl rfl,
   by intros; exact eq_ld rfl rfl,
   by intros; exact eq_ld rfl rfl,
   by intros; exact eq_push rfl,
   by intros; exact eq_i2 (o := mx_add) rfl,
   by intros; exact eq_iald rfl,
   by intros; exact eq_ld rfl rfl,
   by intros; exact eq_ld rfl rfl,
   by intros; exact eq_push rfl⟩
theorem rw_L_law_13 :
  (∀ (d : Nat) (b a : Int) (l0 l1 l2 l3 : Option mx_V) (v2 v3 v4 v5 : mx_V) (S h : mx_H) (n : Int), mx_ex d 256 1313 [l0, l1, l2, l3] [(0, b), (0, a), v2, v3, v4, v5] S h n = mx_ex d 256 1314 [l0, l1, l2, l3] [(0, mx_w (a + b)), v2, v3, v4, v5] S h n) ∧
  (∀ (d : Nat) (i a : Int) (l0 l1 l2 l3 : Option mx_V) (v2 v3 v4 : mx_V) (S h : mx_H) (n : Int), mx_ex d 256 1314 [l0, l1, l2, l3] [(0, i), (2, a), v2, v3, v4] S h n = mx_gd ((S a (-2) = 20 ∨ S a (-2) = 24) ∧ 0 ≤ i ∧ i < S a (-1)) d 256 1315 [l0, l1, l2, l3] [(0, h a i), v2, v3, v4] S h n) ∧
  (∀ (d : Nat) (x : Int) (l1 l2 l3 : Option mx_V) (v0 v1 v2 v3 : mx_V) (S h : mx_H) (n : Int), mx_ex d 256 1315 [some (2, x), l1, l2, l3] [v0, v1, v2, v3] S h n = mx_ex d 256 1316 [some (2, x), l1, l2, l3] [(2, x), v0, v1, v2, v3] S h n) ∧
  (∀ (d : Nat) (x : Int) (l0 l1 l2 : Option mx_V) (v0 v1 v2 v3 v4 : mx_V) (S h : mx_H) (n : Int), mx_ex d 256 1316 [l0, l1, l2, some (0, x)] [v0, v1, v2, v3, v4] S h n = mx_ex d 256 1317 [l0, l1, l2, some (0, x)] [(0, x), v0, v1, v2, v3, v4] S h n) ∧
  (∀ (d : Nat) (l0 l1 l2 l3 : Option mx_V) (v0 v1 v2 v3 v4 v5 : mx_V) (S h : mx_H) (n : Int), mx_ex d 256 1317 [l0, l1, l2, l3] [v0, v1, v2, v3, v4, v5] S h n = mx_ex d 256 1318 [l0, l1, l2, l3] [(0, 3), v0, v1, v2, v3, v4, v5] S h n) ∧
  (∀ (d : Nat) (b a : Int) (l0 l1 l2 l3 : Option mx_V) (v2 v3 v4 v5 v6 : mx_V) (S h : mx_H) (n : Int), mx_ex d 256 1318 [l0, l1, l2, l3] [(0, b), (0, a), v2, v3, v4, v5, v6] S h n = mx_ex d 256 1319 [l0, l1, l2, l3] [(0, mx_w (a + b)), v2, v3, v4, v5, v6] S h n) ∧
  (∀ (d : Nat) (i a : Int) (l0 l1 l2 l3 : Option mx_V) (v2 v3 v4 v5 : mx_V) (S h : mx_H) (n : Int), mx_ex d 256 1319 [l0, l1, l2, l3] [(0, i), (2, a), v2, v3, v4, v5] S h n = mx_gd ((S a (-2) = 20 ∨ S a (-2) = 24) ∧ 0 ≤ i ∧ i < S a (-1)) d 256 1320 [l0, l1, l2, l3] [(0, h a i), v2, v3, v4, v5] S h n) ∧
  (∀ (d : Nat) (x : Int) (l1 l2 l3 : Option mx_V) (v0 v1 v2 v3 v4 : mx_V) (S h : mx_H) (n : Int), mx_ex d 256 1320 [some (2, x), l1, l2, l3] [v0, v1, v2, v3, v4] S h n = mx_ex d 256 1321 [some (2, x), l1, l2, l3] [(2, x), v0, v1, v2, v3, v4] S h n) ∧
  (∀ (d : Nat) (x : Int) (l0 l1 l2 : Option mx_V) (v0 v1 v2 v3 v4 v5 : mx_V) (S h : mx_H) (n : Int), mx_ex d 256 1321 [l0, l1, l2, some (0, x)] [v0, v1, v2, v3, v4, v5] S h n = mx_ex d 256 1322 [l0, l1, l2, some (0, x)] [(0, x), v0, v1, v2, v3, v4, v5] S h n) ∧
  (∀ (d : Nat) (l0 l1 l2 l3 : Option mx_V) (v0 v1 v2 v3 v4 v5 v6 : mx_V) (S h : mx_H) (n : Int), mx_ex d 256 1322 [l0, l1, l2, l3] [v0, v1, v2, v3, v4, v5, v6] S h n = mx_ex d 256 1323 [l0, l1, l2, l3] [(0, 4), v0, v1, v2, v3, v4, v5, v6] S h n) ∧
  (∀ (d : Nat) (b a : Int) (l0 l1 l2 l3 : Option mx_V) (v2 v3 v4 v5 v6 v7 : mx_V) (S h : mx_H) (n : Int), mx_ex d 256 1323 [l0, l1, l2, l3] [(0, b), (0, a), v2, v3, v4, v5, v6, v7] S h n = mx_ex d 256 1324 [l0, l1, l2, l3] [(0, mx_w (a + b)), v2, v3, v4, v5, v6, v7] S h n) ∧
  (∀ (d : Nat) (i a : Int) (l0 l1 l2 l3 : Option mx_V) (v2 v3 v4 v5 v6 : mx_V) (S h : mx_H) (n : Int), mx_ex d 256 1324 [l0, l1, l2, l3] [(0, i), (2, a), v2, v3, v4, v5, v6] S h n = mx_gd ((S a (-2) = 20 ∨ S a (-2) = 24) ∧ 0 ≤ i ∧ i < S a (-1)) d 256 1325 [l0, l1, l2, l3] [(0, h a i), v2, v3, v4, v5, v6] S h n) ∧
  (∀ (d : Nat) (a : Int) (l0 l1 l2 l3 : Option mx_V) (v0 v1 v2 v3 v5 : mx_V) (S h : mx_H) (n : Int), mx_ex (d + 1) 256 1325 [l0, l1, l2, l3] [v0, v1, v2, v3, (2, a), v5] S h n = mx_cl (S a (-2) = 13) d 228 [(2, a), v3, v2, v1, v0] 256 1328 [l0, l1, l2, l3] [v5] S h n) ∧
  (∀ (d : Nat) (b a : Int) (l0 l1 l2 l3 : Option mx_V) (S h : mx_H) (n : Int), mx_ex d 256 1328 [l0, l1, l2, l3] [(0, b), (0, a)] S h n = mx_br (a = b) d 256 1653 1331 [l0, l1, l2, l3] [] S h n) ∧
  (∀ (d : Nat) (l0 l1 l2 l3 : Option mx_V) (S h : mx_H) (n : Int), mx_ex d 256 1331 [l0, l1, l2, l3] [] S h n = mx_ex d 256 1332 [l0, l1, l2, l3] [(0, 0)] S h n) ∧
  (∀ (d : Nat) (x : Int) (l0 l1 l2 l3 : Option mx_V) (S h : mx_H) (n : Int), mx_ex d 256 1332 [l0, l1, l2, l3] [(0, x)] S h n = mx_re (0 ≤ x ∧ x ≤ 1) (some (0, x)) S h n) ∧
  (∀ (d : Nat) (x : Int) (l0 l2 l3 : Option mx_V) (S h : mx_H) (n : Int), mx_ex d 256 1333 [l0, some (2, x), l2, l3] [] S h n = mx_ex d 256 1334 [l0, some (2, x), l2, l3] [(2, x)] S h n) ∧
  (∀ (d : Nat) (x : Int) (l1 l2 l3 : Option mx_V) (v0 : mx_V) (S h : mx_H) (n : Int), mx_ex d 256 1334 [some (2, x), l1, l2, l3] [v0] S h n = mx_ex d 256 1335 [some (2, x), l1, l2, l3] [(2, x), v0] S h n) ∧
  (∀ (d : Nat) (x : Int) (l0 l1 l2 : Option mx_V) (v0 v1 : mx_V) (S h : mx_H) (n : Int), mx_ex d 256 1335 [l0, l1, l2, some (0, x)] [v0, v1] S h n = mx_ex d 256 1336 [l0, l1, l2, some (0, x)] [(0, x), v0, v1] S h n) ∧
  (∀ (d : Nat) (l0 l1 l2 l3 : Option mx_V) (v0 v1 v2 : mx_V) (S h : mx_H) (n : Int), mx_ex d 256 1336 [l0, l1, l2, l3] [v0, v1, v2] S h n = mx_ex d 256 1337 [l0, l1, l2, l3] [(0, 1), v0, v1, v2] S h n) ∧
  (∀ (d : Nat) (b a : Int) (l0 l1 l2 l3 : Option mx_V) (v2 v3 : mx_V) (S h : mx_H) (n : Int), mx_ex d 256 1337 [l0, l1, l2, l3] [(0, b), (0, a), v2, v3] S h n = mx_ex d 256 1338 [l0, l1, l2, l3] [(0, mx_w (a + b)), v2, v3] S h n) ∧
  (∀ (d : Nat) (i a : Int) (l0 l1 l2 l3 : Option mx_V) (v2 : mx_V) (S h : mx_H) (n : Int), mx_ex d 256 1338 [l0, l1, l2, l3] [(0, i), (2, a), v2] S h n = mx_gd ((S a (-2) = 20 ∨ S a (-2) = 24) ∧ 0 ≤ i ∧ i < S a (-1)) d 256 1339 [l0, l1, l2, l3] [(0, h a i), v2] S h n) ∧
  (∀ (d : Nat) (x : Int) (l1 l2 l3 : Option mx_V) (v0 v1 : mx_V) (S h : mx_H) (n : Int), mx_ex d 256 1339 [some (2, x), l1, l2, l3] [v0, v1] S h n = mx_ex d 256 1340 [some (2, x), l1, l2, l3] [(2, x), v0, v1] S h n) ∧
  (∀ (d : Nat) (x : Int) (l0 l1 l2 : Option mx_V) (v0 v1 v2 : mx_V) (S h : mx_H) (n : Int), mx_ex d 256 1340 [l0, l1, l2, some (0, x)] [v0, v1, v2] S h n = mx_ex d 256 1341 [l0, l1, l2, some (0, x)] [(0, x), v0, v1, v2] S h n) ∧
  (∀ (d : Nat) (l0 l1 l2 l3 : Option mx_V) (v0 v1 v2 v3 : mx_V) (S h : mx_H) (n : Int), mx_ex d 256 1341 [l0, l1, l2, l3] [v0, v1, v2, v3] S h n = mx_ex d 256 1342 [l0, l1, l2, l3] [(0, 2), v0, v1, v2, v3] S h n) ∧
  (∀ (d : Nat) (b a : Int) (l0 l1 l2 l3 : Option mx_V) (v2 v3 v4 : mx_V) (S h : mx_H) (n : Int), mx_ex d 256 1342 [l0, l1, l2, l3] [(0, b), (0, a), v2, v3, v4] S h n = mx_ex d 256 1343 [l0, l1, l2, l3] [(0, mx_w (a + b)), v2, v3, v4] S h n) ∧
  (∀ (d : Nat) (i a : Int) (l0 l1 l2 l3 : Option mx_V) (v2 v3 : mx_V) (S h : mx_H) (n : Int), mx_ex d 256 1343 [l0, l1, l2, l3] [(0, i), (2, a), v2, v3] S h n = mx_gd ((S a (-2) = 20 ∨ S a (-2) = 24) ∧ 0 ≤ i ∧ i < S a (-1)) d 256 1344 [l0, l1, l2, l3] [(0, h a i), v2, v3] S h n) ∧
  (∀ (d : Nat) (x : Int) (l1 l2 l3 : Option mx_V) (v0 v1 v2 : mx_V) (S h : mx_H) (n : Int), mx_ex d 256 1344 [some (2, x), l1, l2, l3] [v0, v1, v2] S h n = mx_ex d 256 1345 [some (2, x), l1, l2, l3] [(2, x), v0, v1, v2] S h n) ∧
  (∀ (d : Nat) (x : Int) (l0 l1 l2 : Option mx_V) (v0 v1 v2 v3 : mx_V) (S h : mx_H) (n : Int), mx_ex d 256 1345 [l0, l1, l2, some (0, x)] [v0, v1, v2, v3] S h n = mx_ex d 256 1346 [l0, l1, l2, some (0, x)] [(0, x), v0, v1, v2, v3] S h n) ∧
  (∀ (d : Nat) (l0 l1 l2 l3 : Option mx_V) (v0 v1 v2 v3 v4 : mx_V) (S h : mx_H) (n : Int), mx_ex d 256 1346 [l0, l1, l2, l3] [v0, v1, v2, v3, v4] S h n = mx_ex d 256 1347 [l0, l1, l2, l3] [(0, 3), v0, v1, v2, v3, v4] S h n) ∧
  (∀ (d : Nat) (b a : Int) (l0 l1 l2 l3 : Option mx_V) (v2 v3 v4 v5 : mx_V) (S h : mx_H) (n : Int), mx_ex d 256 1347 [l0, l1, l2, l3] [(0, b), (0, a), v2, v3, v4, v5] S h n = mx_ex d 256 1348 [l0, l1, l2, l3] [(0, mx_w (a + b)), v2, v3, v4, v5] S h n) ∧
  (∀ (d : Nat) (i a : Int) (l0 l1 l2 l3 : Option mx_V) (v2 v3 v4 : mx_V) (S h : mx_H) (n : Int), mx_ex d 256 1348 [l0, l1, l2, l3] [(0, i), (2, a), v2, v3, v4] S h n = mx_gd ((S a (-2) = 20 ∨ S a (-2) = 24) ∧ 0 ≤ i ∧ i < S a (-1)) d 256 1349 [l0, l1, l2, l3] [(0, h a i), v2, v3, v4] S h n) ∧
  (∀ (d : Nat) (a : Int) (l0 l1 l2 l3 : Option mx_V) (v0 v1 v2 : mx_V) (S h : mx_H) (n : Int), mx_ex (d + 1) 256 1349 [l0, l1, l2, l3] [v0, v1, v2, (2, a)] S h n = mx_cl (S a (-2) = 7) d 134 [(2, a), v2, v1, v0] 256 1352 [l0, l1, l2, l3] [] S h n) ∧
  (∀ (d : Nat) (x : Int) (l0 l1 l3 : Option mx_V) (v0 : mx_V) (S h : mx_H) (n : Int), mx_ex d 256 1352 [l0, l1, some (2, x), l3] [v0] S h n = mx_ex d 256 1353 [l0, l1, some (2, x), l3] [(2, x), v0] S h n) ∧
  (∀ (d : Nat) (x : Int) (l1 l2 l3 : Option mx_V) (v0 v1 : mx_V) (S h : mx_H) (n : Int), mx_ex d 256 1353 [some (2, x), l1, l2, l3] [v0, v1] S h n = mx_ex d 256 1354 [some (2, x), l1, l2, l3] [(2, x), v0, v1] S h n) ∧
  (∀ (d : Nat) (x : Int) (l0 l1 l2 : Option mx_V) (v0 v1 v2 : mx_V) (S h : mx_H) (n : Int), mx_ex d 256 1354 [l0, l1, l2, some (0, x)] [v0, v1, v2] S h n = mx_ex d 256 1355 [l0, l1, l2, some (0, x)] [(0, x), v0, v1, v2] S h n) ∧
  (∀ (d : Nat) (l0 l1 l2 l3 : Option mx_V) (v0 v1 v2 v3 : mx_V) (S h : mx_H) (n : Int), mx_ex d 256 1355 [l0, l1, l2, l3] [v0, v1, v2, v3] S h n = mx_ex d 256 1356 [l0, l1, l2, l3] [(0, 1), v0, v1, v2, v3] S h n) ∧
  (∀ (d : Nat) (b a : Int) (l0 l1 l2 l3 : Option mx_V) (v2 v3 v4 : mx_V) (S h : mx_H) (n : Int), mx_ex d 256 1356 [l0, l1, l2, l3] [(0, b), (0, a), v2, v3, v4] S h n = mx_ex d 256 1357 [l0, l1, l2, l3] [(0, mx_w (a + b)), v2, v3, v4] S h n) ∧
  (∀ (d : Nat) (i a : Int) (l0 l1 l2 l3 : Option mx_V) (v2 v3 : mx_V) (S h : mx_H) (n : Int), mx_ex d 256 1357 [l0, l1, l2, l3] [(0, i), (2, a), v2, v3] S h n = mx_gd ((S a (-2) = 20 ∨ S a (-2) = 24) ∧ 0 ≤ i ∧ i < S a (-1)) d 256 1358 [l0, l1, l2, l3] [(0, h a i), v2, v3] S h n) ∧
  (∀ (d : Nat) (x : Int) (l1 l2 l3 : Option mx_V) (v0 v1 v2 : mx_V) (S h : mx_H) (n : Int), mx_ex d 256 1358 [some (2, x), l1, l2, l3] [v0, v1, v2] S h n = mx_ex d 256 1359 [some (2, x), l1, l2, l3] [(2, x), v0, v1, v2] S h n) ∧
  (∀ (d : Nat) (x : Int) (l0 l1 l2 : Option mx_V) (v0 v1 v2 v3 : mx_V) (S h : mx_H) (n : Int), mx_ex d 256 1359 [l0, l1, l2, some (0, x)] [v0, v1, v2, v3] S h n = mx_ex d 256 1360 [l0, l1, l2, some (0, x)] [(0, x), v0, v1, v2, v3] S h n) ∧
  (∀ (d : Nat) (l0 l1 l2 l3 : Option mx_V) (v0 v1 v2 v3 v4 : mx_V) (S h : mx_H) (n : Int), mx_ex d 256 1360 [l0, l1, l2, l3] [v0, v1, v2, v3, v4] S h n = mx_ex d 256 1361 [l0, l1, l2, l3] [(0, 2), v0, v1, v2, v3, v4] S h n) ∧
  (∀ (d : Nat) (b a : Int) (l0 l1 l2 l3 : Option mx_V) (v2 v3 v4 v5 : mx_V) (S h : mx_H) (n : Int), mx_ex d 256 1361 [l0, l1, l2, l3] [(0, b), (0, a), v2, v3, v4, v5] S h n = mx_ex d 256 1362 [l0, l1, l2, l3] [(0, mx_w (a + b)), v2, v3, v4, v5] S h n) ∧
  (∀ (d : Nat) (i a : Int) (l0 l1 l2 l3 : Option mx_V) (v2 v3 v4 : mx_V) (S h : mx_H) (n : Int), mx_ex d 256 1362 [l0, l1, l2, l3] [(0, i), (2, a), v2, v3, v4] S h n = mx_gd ((S a (-2) = 20 ∨ S a (-2) = 24) ∧ 0 ≤ i ∧ i < S a (-1)) d 256 1363 [l0, l1, l2, l3] [(0, h a i), v2, v3, v4] S h n) ∧
  (∀ (d : Nat) (x : Int) (l1 l2 l3 : Option mx_V) (v0 v1 v2 v3 : mx_V) (S h : mx_H) (n : Int), mx_ex d 256 1363 [some (2, x), l1, l2, l3] [v0, v1, v2, v3] S h n = mx_ex d 256 1364 [some (2, x), l1, l2, l3] [(2, x), v0, v1, v2, v3] S h n) ∧
  (∀ (d : Nat) (x : Int) (l0 l1 l2 : Option mx_V) (v0 v1 v2 v3 v4 : mx_V) (S h : mx_H) (n : Int), mx_ex d 256 1364 [l0, l1, l2, some (0, x)] [v0, v1, v2, v3, v4] S h n = mx_ex d 256 1365 [l0, l1, l2, some (0, x)] [(0, x), v0, v1, v2, v3, v4] S h n) ∧
  (∀ (d : Nat) (l0 l1 l2 l3 : Option mx_V) (v0 v1 v2 v3 v4 v5 : mx_V) (S h : mx_H) (n : Int), mx_ex d 256 1365 [l0, l1, l2, l3] [v0, v1, v2, v3, v4, v5] S h n = mx_ex d 256 1366 [l0, l1, l2, l3] [(0, 3), v0, v1, v2, v3, v4, v5] S h n) ∧
  (∀ (d : Nat) (b a : Int) (l0 l1 l2 l3 : Option mx_V) (v2 v3 v4 v5 v6 : mx_V) (S h : mx_H) (n : Int), mx_ex d 256 1366 [l0, l1, l2, l3] [(0, b), (0, a), v2, v3, v4, v5, v6] S h n = mx_ex d 256 1367 [l0, l1, l2, l3] [(0, mx_w (a + b)), v2, v3, v4, v5, v6] S h n) ∧
  (∀ (d : Nat) (i a : Int) (l0 l1 l2 l3 : Option mx_V) (v2 v3 v4 v5 : mx_V) (S h : mx_H) (n : Int), mx_ex d 256 1367 [l0, l1, l2, l3] [(0, i), (2, a), v2, v3, v4, v5] S h n = mx_gd ((S a (-2) = 20 ∨ S a (-2) = 24) ∧ 0 ≤ i ∧ i < S a (-1)) d 256 1368 [l0, l1, l2, l3] [(0, h a i), v2, v3, v4, v5] S h n) ∧
  (∀ (d : Nat) (a : Int) (l0 l1 l2 l3 : Option mx_V) (v0 v1 v2 v4 : mx_V) (S h : mx_H) (n : Int), mx_ex (d + 1) 256 1368 [l0, l1, l2, l3] [v0, v1, v2, (2, a), v4] S h n = mx_cl (S a (-2) = 13) d 229 [(2, a), v2, v1, v0] 256 1371 [l0, l1, l2, l3] [v4] S h n) ∧
  (∀ (d : Nat) (b a : Int) (l0 l1 l2 l3 : Option mx_V) (S h : mx_H) (n : Int), mx_ex d 256 1371 [l0, l1, l2, l3] [(0, b), (0, a)] S h n = mx_br (a = b) d 256 1653 1374 [l0, l1, l2, l3] [] S h n) ∧
  (∀ (d : Nat) (l0 l1 l2 l3 : Option mx_V) (S h : mx_H) (n : Int), mx_ex d 256 1374 [l0, l1, l2, l3] [] S h n = mx_ex d 256 1375 [l0, l1, l2, l3] [(0, 0)] S h n) ∧
  (∀ (d : Nat) (x : Int) (l0 l1 l2 l3 : Option mx_V) (S h : mx_H) (n : Int), mx_ex d 256 1375 [l0, l1, l2, l3] [(0, x)] S h n = mx_re (0 ≤ x ∧ x ≤ 1) (some (0, x)) S h n) ∧
  (∀ (d : Nat) (x : Int) (l0 l2 l3 : Option mx_V) (S h : mx_H) (n : Int), mx_ex d 256 1376 [l0, some (2, x), l2, l3] [] S h n = mx_ex d 256 1377 [l0, some (2, x), l2, l3] [(2, x)] S h n) ∧
  (∀ (d : Nat) (x : Int) (l1 l2 l3 : Option mx_V) (v0 : mx_V) (S h : mx_H) (n : Int), mx_ex d 256 1377 [some (2, x), l1, l2, l3] [v0] S h n = mx_ex d 256 1378 [some (2, x), l1, l2, l3] [(2, x), v0] S h n) ∧
  (∀ (d : Nat) (x : Int) (l0 l1 l2 : Option mx_V) (v0 v1 : mx_V) (S h : mx_H) (n : Int), mx_ex d 256 1378 [l0, l1, l2, some (0, x)] [v0, v1] S h n = mx_ex d 256 1379 [l0, l1, l2, some (0, x)] [(0, x), v0, v1] S h n) ∧
  (∀ (d : Nat) (l0 l1 l2 l3 : Option mx_V) (v0 v1 v2 : mx_V) (S h : mx_H) (n : Int), mx_ex d 256 1379 [l0, l1, l2, l3] [v0, v1, v2] S h n = mx_ex d 256 1380 [l0, l1, l2, l3] [(0, 1), v0, v1, v2] S h n) ∧
  (∀ (d : Nat) (b a : Int) (l0 l1 l2 l3 : Option mx_V) (v2 v3 : mx_V) (S h : mx_H) (n : Int), mx_ex d 256 1380 [l0, l1, l2, l3] [(0, b), (0, a), v2, v3] S h n = mx_ex d 256 1381 [l0, l1, l2, l3] [(0, mx_w (a + b)), v2, v3] S h n) ∧
  (∀ (d : Nat) (i a : Int) (l0 l1 l2 l3 : Option mx_V) (v2 : mx_V) (S h : mx_H) (n : Int), mx_ex d 256 1381 [l0, l1, l2, l3] [(0, i), (2, a), v2] S h n = mx_gd ((S a (-2) = 20 ∨ S a (-2) = 24) ∧ 0 ≤ i ∧ i < S a (-1)) d 256 1382 [l0, l1, l2, l3] [(0, h a i), v2] S h n) ∧
  (∀ (d : Nat) (x : Int) (l1 l2 l3 : Option mx_V) (v0 v1 : mx_V) (S h : mx_H) (n : Int), mx_ex d 256 1382 [some (2, x), l1, l2, l3] [v0, v1] S h n = mx_ex d 256 1383 [some (2, x), l1, l2, l3] [(2, x), v0, v1] S h n) ∧
  (∀ (d : Nat) (x : Int) (l0 l1 l2 : Option mx_V) (v0 v1 v2 : mx_V) (S h : mx_H) (n : Int), mx_ex d 256 1383 [l0, l1, l2, some (0, x)] [v0, v1, v2] S h n = mx_ex d 256 1384 [l0, l1, l2, some (0, x)] [(0, x), v0, v1, v2] S h n) ∧
  (∀ (d : Nat) (l0 l1 l2 l3 : Option mx_V) (v0 v1 v2 v3 : mx_V) (S h : mx_H) (n : Int), mx_ex d 256 1384 [l0, l1, l2, l3] [v0, v1, v2, v3] S h n = mx_ex d 256 1385 [l0, l1, l2, l3] [(0, 2), v0, v1, v2, v3] S h n) ∧
  (∀ (d : Nat) (b a : Int) (l0 l1 l2 l3 : Option mx_V) (v2 v3 v4 : mx_V) (S h : mx_H) (n : Int), mx_ex d 256 1385 [l0, l1, l2, l3] [(0, b), (0, a), v2, v3, v4] S h n = mx_ex d 256 1386 [l0, l1, l2, l3] [(0, mx_w (a + b)), v2, v3, v4] S h n) ∧
  (∀ (d : Nat) (i a : Int) (l0 l1 l2 l3 : Option mx_V) (v2 v3 : mx_V) (S h : mx_H) (n : Int), mx_ex d 256 1386 [l0, l1, l2, l3] [(0, i), (2, a), v2, v3] S h n = mx_gd ((S a (-2) = 20 ∨ S a (-2) = 24) ∧ 0 ≤ i ∧ i < S a (-1)) d 256 1387 [l0, l1, l2, l3] [(0, h a i), v2, v3] S h n) ∧
  (∀ (d : Nat) (x : Int) (l1 l2 l3 : Option mx_V) (v0 v1 v2 : mx_V) (S h : mx_H) (n : Int), mx_ex d 256 1387 [some (2, x), l1, l2, l3] [v0, v1, v2] S h n = mx_ex d 256 1388 [some (2, x), l1, l2, l3] [(2, x), v0, v1, v2] S h n) ∧
  (∀ (d : Nat) (x : Int) (l0 l1 l2 : Option mx_V) (v0 v1 v2 v3 : mx_V) (S h : mx_H) (n : Int), mx_ex d 256 1388 [l0, l1, l2, some (0, x)] [v0, v1, v2, v3] S h n = mx_ex d 256 1389 [l0, l1, l2, some (0, x)] [(0, x), v0, v1, v2, v3] S h n) ∧
  (∀ (d : Nat) (l0 l1 l2 l3 : Option mx_V) (v0 v1 v2 v3 v4 : mx_V) (S h : mx_H) (n : Int), mx_ex d 256 1389 [l0, l1, l2, l3] [v0, v1, v2, v3, v4] S h n = mx_ex d 256 1390 [l0, l1, l2, l3] [(0, 3), v0, v1, v2, v3, v4] S h n) ∧
  (∀ (d : Nat) (b a : Int) (l0 l1 l2 l3 : Option mx_V) (v2 v3 v4 v5 : mx_V) (S h : mx_H) (n : Int), mx_ex d 256 1390 [l0, l1, l2, l3] [(0, b), (0, a), v2, v3, v4, v5] S h n = mx_ex d 256 1391 [l0, l1, l2, l3] [(0, mx_w (a + b)), v2, v3, v4, v5] S h n) ∧
  (∀ (d : Nat) (i a : Int) (l0 l1 l2 l3 : Option mx_V) (v2 v3 v4 : mx_V) (S h : mx_H) (n : Int), mx_ex d 256 1391 [l0, l1, l2, l3] [(0, i), (2, a), v2, v3, v4] S h n = mx_gd ((S a (-2) = 20 ∨ S a (-2) = 24) ∧ 0 ≤ i ∧ i < S a (-1)) d 256 1392 [l0, l1, l2, l3] [(0, h a i), v2, v3, v4] S h n) ∧
  (∀ (d : Nat) (a : Int) (l0 l1 l2 l3 : Option mx_V) (v0 v1 v2 : mx_V) (S h : mx_H) (n : Int), mx_ex (d + 1) 256 1392 [l0, l1, l2, l3] [v0, v1, v2, (2, a)] S h n = mx_cl (S a (-2) = 7) d 135 [(2, a), v2, v1, v0] 256 1395 [l0, l1, l2, l3] [] S h n) :=
  ⟨by intros; exact eq_i2 (o := mx_add) rfl,
   by intros; exact eq_iald rfl,
   by intros; exact eq_ld rfl rfl,
   by intros; exact eq_ld rfl rfl,
   by intros; exact eq_push rfl,
   by intros; exact eq_i2 (o := mx_add) rfl,
   by intros; exact eq_iald rfl,
   by intros; exact eq_ld rfl rfl,
   by intros; exact eq_ld rfl rfl,
   by intros; exact eq_push rfl,
   by intros; exact eq_i2 (o := mx_add) rfl,
   by intros; exact eq_iald rfl,
   by intros; exact eq_cv rfl rfl (Nat.le_of_ble_eq_true rfl) rfl rfl,
   by intros; exact eq_ic0 rfl,
   by intros; exact eq_push rfl,
   by intros; exact eq_retz rfl,
   by intros; exact eq_ld rfl rfl,
   by intros; exact eq_ld rfl rfl,
   by intros; exact eq_ld rfl rfl,
   by intros; exact eq_push rfl,
   by intros; exact eq_i2 (o := mx_add) rfl,
   by intros; exact eq_iald rfl,
   by intros; exact eq_ld rfl rfl,
   by intros; exact eq_ld rfl rfl,
   by intros; exact eq_push rfl,
   by intros; exact eq_i2 (o := mx_add) rfl,
   by intros; exact eq_iald rfl,
   by intros; exact eq_ld rfl rfl,
   by intros; exact eq_ld rfl rfl,
   by intros; exact eq_push rfl,
   by intros; exact eq_i2 (o := mx_add) rfl,
   by intros; exact eq_iald rfl,
   by intros; exact eq_cv rfl rfl (Nat.le_of_ble_eq_true rfl) rfl rfl,
   by intros; exact eq_ld rfl rfl,
   by intros; exact eq_ld rfl rfl,
   by intros; exact eq_ld rfl rfl,
   by intros; exact eq_push rfl,
   by intros; exact eq_i2 (o := mx_add) rfl,
   by intros; exact eq_iald rfl,
   by intros; exact eq_ld rfl rfl,
   by intros; exact eq_ld rfl rfl,
   by intros; exact eq_push rfl,
   by intros; exact eq_i2 (o := mx_add) rfl,
   by intros; exact eq_iald rfl,
   by intros; exact eq_ld rfl rfl,
   by intros; exact eq_ld rfl rfl,
   by intros; exact eq_push rfl,
   by intros; exact eq_i2 (o := mx_add) rfl,
   by intros; exact eq_iald rfl,
   by intros; exact eq_cv rfl rfl (Nat.le_of_ble_eq_true rfl) rfl rfl,
   by intros; exact eq_ic0 rfl,
   by intros; exact eq_push rfl,
   by intros; exact eq_retz rfl,
   by intros; exact eq_ld rfl rfl,
   by intros; exact eq_ld rfl rfl,
   by intros; exact eq_ld rfl rfl,
   by intros; exact eq_push rfl,
   by intros; exact eq_i2 (o := mx_add) rfl,
   by intros; exact eq_iald rfl,
   by intros; exact eq_ld rfl rfl,
   by intros; exact eq_ld rfl rfl,
   by intros; exact eq_push rfl,
   by intros; exact eq_i2 (o := mx_add) rfl,
   by intros; exact eq_iald rfl,
   by intros; exact eq_ld rfl rfl,
   by intros; exact eq_ld rfl rfl,
   by intros; exact eq_push rfl,
   by intros; exact eq_i2 (o := mx_add) rfl,
   by intros; exact eq_iald rfl,
   by intros; exact eq_cv rfl rfl (Nat.le_of_ble_eq_true rfl) rfl rfl⟩
theorem rw_L_law_14 :
  (∀ (d : Nat) (x : Int) (l0 l1 l3 : Option mx_V) (v0 : mx_V) (S h : mx_H) (n : Int), mx_ex d 256 1395 [l0, l1, some (2, x), l3] [v0] S h n = mx_ex d 256 1396 [l0, l1, some (2, x), l3] [(2, x), v0] S h n) ∧
  (∀ (d : Nat) (x : Int) (l1 l2 l3 : Option mx_V) (v0 v1 : mx_V) (S h : mx_H) (n : Int), mx_ex d 256 1396 [some (2, x), l1, l2, l3] [v0, v1] S h n = mx_ex d 256 1397 [some (2, x), l1, l2, l3] [(2, x), v0, v1] S h n) ∧
  (∀ (d : Nat) (x : Int) (l0 l1 l2 : Option mx_V) (v0 v1 v2 : mx_V) (S h : mx_H) (n : Int), mx_ex d 256 1397 [l0, l1, l2, some (0, x)] [v0, v1, v2] S h n = mx_ex d 256 1398 [l0, l1, l2, some (0, x)] [(0, x), v0, v1, v2] S h n) ∧
  (∀ (d : Nat) (l0 l1 l2 l3 : Option mx_V) (v0 v1 v2 v3 : mx_V) (S h : mx_H) (n : Int), mx_ex d 256 1398 [l0, l1, l2, l3] [v0, v1, v2, v3] S h n = mx_ex d 256 1399 [l0, l1, l2, l3] [(0, 1), v0, v1, v2, v3] S h n) ∧
  (∀ (d : Nat) (b a : Int) (l0 l1 l2 l3 : Option mx_V) (v2 v3 v4 : mx_V) (S h : mx_H) (n : Int), mx_ex d 256 1399 [l0, l1, l2, l3] [(0, b), (0, a), v2, v3, v4] S h n = mx_ex d 256 1400 [l0, l1, l2, l3] [(0, mx_w (a + b)), v2, v3, v4] S h n) ∧
  (∀ (d : Nat) (i a : Int) (l0 l1 l2 l3 : Option mx_V) (v2 v3 : mx_V) (S h : mx_H) (n : Int), mx_ex d 256 1400 [l0, l1, l2, l3] [(0, i), (2, a), v2, v3] S h n = mx_gd ((S a (-2) = 20 ∨ S a (-2) = 24) ∧ 0 ≤ i ∧ i < S a (-1)) d 256 1401 [l0, l1, l2, l3] [(0, h a i), v2, v3] S h n) ∧
  (∀ (d : Nat) (x : Int) (l1 l2 l3 : Option mx_V) (v0 v1 v2 : mx_V) (S h : mx_H) (n : Int), mx_ex d 256 1401 [some (2, x), l1, l2, l3] [v0, v1, v2] S h n = mx_ex d 256 1402 [some (2, x), l1, l2, l3] [(2, x), v0, v1, v2] S h n) ∧
  (∀ (d : Nat) (x : Int) (l0 l1 l2 : Option mx_V) (v0 v1 v2 v3 : mx_V) (S h : mx_H) (n : Int), mx_ex d 256 1402 [l0, l1, l2, some (0, x)] [v0, v1, v2, v3] S h n = mx_ex d 256 1403 [l0, l1, l2, some (0, x)] [(0, x), v0, v1, v2, v3] S h n) ∧
  (∀ (d : Nat) (l0 l1 l2 l3 : Option mx_V) (v0 v1 v2 v3 v4 : mx_V) (S h : mx_H) (n : Int), mx_ex d 256 1403 [l0, l1, l2, l3] [v0, v1, v2, v3, v4] S h n = mx_ex d 256 1404 [l0, l1, l2, l3] [(0, 2), v0, v1, v2, v3, v4] S h n) ∧
  (∀ (d : Nat) (b a : Int) (l0 l1 l2 l3 : Option mx_V) (v2 v3 v4 v5 : mx_V) (S h : mx_H) (n : Int), mx_ex d 256 1404 [l0, l1, l2, l3] [(0, b), (0, a), v2, v3, v4, v5] S h n = mx_ex d 256 1405 [l0, l1, l2, l3] [(0, mx_w (a + b)), v2, v3, v4, v5] S h n) ∧
  (∀ (d : Nat) (i a : Int) (l0 l1 l2 l3 : Option mx_V) (v2 v3 v4 : mx_V) (S h : mx_H) (n : Int), mx_ex d 256 1405 [l0, l1, l2, l3] [(0, i), (2, a), v2, v3, v4] S h n = mx_gd ((S a (-2) = 20 ∨ S a (-2) = 24) ∧ 0 ≤ i ∧ i < S a (-1)) d 256 1406 [l0, l1, l2, l3] [(0, h a i), v2, v3, v4] S h n) ∧
  (∀ (d : Nat) (x : Int) (l1 l2 l3 : Option mx_V) (v0 v1 v2 v3 : mx_V) (S h : mx_H) (n : Int), mx_ex d 256 1406 [some (2, x), l1, l2, l3] [v0, v1, v2, v3] S h n = mx_ex d 256 1407 [some (2, x), l1, l2, l3] [(2, x), v0, v1, v2, v3] S h n) ∧
  (∀ (d : Nat) (x : Int) (l0 l1 l2 : Option mx_V) (v0 v1 v2 v3 v4 : mx_V) (S h : mx_H) (n : Int), mx_ex d 256 1407 [l0, l1, l2, some (0, x)] [v0, v1, v2, v3, v4] S h n = mx_ex d 256 1408 [l0, l1, l2, some (0, x)] [(0, x), v0, v1, v2, v3, v4] S h n) ∧
  (∀ (d : Nat) (l0 l1 l2 l3 : Option mx_V) (v0 v1 v2 v3 v4 v5 : mx_V) (S h : mx_H) (n : Int), mx_ex d 256 1408 [l0, l1, l2, l3] [v0, v1, v2, v3, v4, v5] S h n = mx_ex d 256 1409 [l0, l1, l2, l3] [(0, 3), v0, v1, v2, v3, v4, v5] S h n) ∧
  (∀ (d : Nat) (b a : Int) (l0 l1 l2 l3 : Option mx_V) (v2 v3 v4 v5 v6 : mx_V) (S h : mx_H) (n : Int), mx_ex d 256 1409 [l0, l1, l2, l3] [(0, b), (0, a), v2, v3, v4, v5, v6] S h n = mx_ex d 256 1410 [l0, l1, l2, l3] [(0, mx_w (a + b)), v2, v3, v4, v5, v6] S h n) ∧
  (∀ (d : Nat) (i a : Int) (l0 l1 l2 l3 : Option mx_V) (v2 v3 v4 v5 : mx_V) (S h : mx_H) (n : Int), mx_ex d 256 1410 [l0, l1, l2, l3] [(0, i), (2, a), v2, v3, v4, v5] S h n = mx_gd ((S a (-2) = 20 ∨ S a (-2) = 24) ∧ 0 ≤ i ∧ i < S a (-1)) d 256 1411 [l0, l1, l2, l3] [(0, h a i), v2, v3, v4, v5] S h n) ∧
  (∀ (d : Nat) (a : Int) (l0 l1 l2 l3 : Option mx_V) (v0 v1 v2 v4 : mx_V) (S h : mx_H) (n : Int), mx_ex (d + 1) 256 1411 [l0, l1, l2, l3] [v0, v1, v2, (2, a), v4] S h n = mx_cl (S a (-2) = 13) d 231 [(2, a), v2, v1, v0] 256 1414 [l0, l1, l2, l3] [v4] S h n) ∧
  (∀ (d : Nat) (b a : Int) (l0 l1 l2 l3 : Option mx_V) (S h : mx_H) (n : Int), mx_ex d 256 1414 [l0, l1, l2, l3] [(0, b), (0, a)] S h n = mx_br (a = b) d 256 1653 1417 [l0, l1, l2, l3] [] S h n) ∧
  (∀ (d : Nat) (l0 l1 l2 l3 : Option mx_V) (S h : mx_H) (n : Int), mx_ex d 256 1417 [l0, l1, l2, l3] [] S h n = mx_ex d 256 1418 [l0, l1, l2, l3] [(0, 0)] S h n) ∧
  (∀ (d : Nat) (x : Int) (l0 l1 l2 l3 : Option mx_V) (S h : mx_H) (n : Int), mx_ex d 256 1418 [l0, l1, l2, l3] [(0, x)] S h n = mx_re (0 ≤ x ∧ x ≤ 1) (some (0, x)) S h n) ∧
  (∀ (d : Nat) (x : Int) (l0 l2 l3 : Option mx_V) (S h : mx_H) (n : Int), mx_ex d 256 1419 [l0, some (2, x), l2, l3] [] S h n = mx_ex d 256 1420 [l0, some (2, x), l2, l3] [(2, x)] S h n) ∧
  (∀ (d : Nat) (x : Int) (l1 l2 l3 : Option mx_V) (v0 : mx_V) (S h : mx_H) (n : Int), mx_ex d 256 1420 [some (2, x), l1, l2, l3] [v0] S h n = mx_ex d 256 1421 [some (2, x), l1, l2, l3] [(2, x), v0] S h n) ∧
  (∀ (d : Nat) (x : Int) (l0 l1 l2 : Option mx_V) (v0 v1 : mx_V) (S h : mx_H) (n : Int), mx_ex d 256 1421 [l0, l1, l2, some (0, x)] [v0, v1] S h n = mx_ex d 256 1422 [l0, l1, l2, some (0, x)] [(0, x), v0, v1] S h n) ∧
  (∀ (d : Nat) (l0 l1 l2 l3 : Option mx_V) (v0 v1 v2 : mx_V) (S h : mx_H) (n : Int), mx_ex d 256 1422 [l0, l1, l2, l3] [v0, v1, v2] S h n = mx_ex d 256 1423 [l0, l1, l2, l3] [(0, 1), v0, v1, v2] S h n) ∧
  (∀ (d : Nat) (b a : Int) (l0 l1 l2 l3 : Option mx_V) (v2 v3 : mx_V) (S h : mx_H) (n : Int), mx_ex d 256 1423 [l0, l1, l2, l3] [(0, b), (0, a), v2, v3] S h n = mx_ex d 256 1424 [l0, l1, l2, l3] [(0, mx_w (a + b)), v2, v3] S h n) ∧
  (∀ (d : Nat) (i a : Int) (l0 l1 l2 l3 : Option mx_V) (v2 : mx_V) (S h : mx_H) (n : Int), mx_ex d 256 1424 [l0, l1, l2, l3] [(0, i), (2, a), v2] S h n = mx_gd ((S a (-2) = 20 ∨ S a (-2) = 24) ∧ 0 ≤ i ∧ i < S a (-1)) d 256 1425 [l0, l1, l2, l3] [(0, h a i), v2] S h n) ∧
  (∀ (d : Nat) (x : Int) (l1 l2 l3 : Option mx_V) (v0 v1 : mx_V) (S h : mx_H) (n : Int), mx_ex d 256 1425 [some (2, x), l1, l2, l3] [v0, v1] S h n = mx_ex d 256 1426 [some (2, x), l1, l2, l3] [(2, x), v0, v1] S h n) ∧
  (∀ (d : Nat) (x : Int) (l0 l1 l2 : Option mx_V) (v0 v1 v2 : mx_V) (S h : mx_H) (n : Int), mx_ex d 256 1426 [l0, l1, l2, some (0, x)] [v0, v1, v2] S h n = mx_ex d 256 1427 [l0, l1, l2, some (0, x)] [(0, x), v0, v1, v2] S h n) ∧
  (∀ (d : Nat) (l0 l1 l2 l3 : Option mx_V) (v0 v1 v2 v3 : mx_V) (S h : mx_H) (n : Int), mx_ex d 256 1427 [l0, l1, l2, l3] [v0, v1, v2, v3] S h n = mx_ex d 256 1428 [l0, l1, l2, l3] [(0, 2), v0, v1, v2, v3] S h n) ∧
  (∀ (d : Nat) (b a : Int) (l0 l1 l2 l3 : Option mx_V) (v2 v3 v4 : mx_V) (S h : mx_H) (n : Int), mx_ex d 256 1428 [l0, l1, l2, l3] [(0, b), (0, a), v2, v3, v4] S h n = mx_ex d 256 1429 [l0, l1, l2, l3] [(0, mx_w (a + b)), v2, v3, v4] S h n) ∧
  (∀ (d : Nat) (i a : Int) (l0 l1 l2 l3 : Option mx_V) (v2 v3 : mx_V) (S h : mx_H) (n : Int), mx_ex d 256 1429 [l0, l1, l2, l3] [(0, i), (2, a), v2, v3] S h n = mx_gd ((S a (-2) = 20 ∨ S a (-2) = 24) ∧ 0 ≤ i ∧ i < S a (-1)) d 256 1430 [l0, l1, l2, l3] [(0, h a i), v2, v3] S h n) ∧
  (∀ (d : Nat) (x : Int) (l1 l2 l3 : Option mx_V) (v0 v1 v2 : mx_V) (S h : mx_H) (n : Int), mx_ex d 256 1430 [some (2, x), l1, l2, l3] [v0, v1, v2] S h n = mx_ex d 256 1431 [some (2, x), l1, l2, l3] [(2, x), v0, v1, v2] S h n) ∧
  (∀ (d : Nat) (x : Int) (l0 l1 l2 : Option mx_V) (v0 v1 v2 v3 : mx_V) (S h : mx_H) (n : Int), mx_ex d 256 1431 [l0, l1, l2, some (0, x)] [v0, v1, v2, v3] S h n = mx_ex d 256 1432 [l0, l1, l2, some (0, x)] [(0, x), v0, v1, v2, v3] S h n) ∧
  (∀ (d : Nat) (l0 l1 l2 l3 : Option mx_V) (v0 v1 v2 v3 v4 : mx_V) (S h : mx_H) (n : Int), mx_ex d 256 1432 [l0, l1, l2, l3] [v0, v1, v2, v3, v4] S h n = mx_ex d 256 1433 [l0, l1, l2, l3] [(0, 3), v0, v1, v2, v3, v4] S h n) ∧
  (∀ (d : Nat) (b a : Int) (l0 l1 l2 l3 : Option mx_V) (v2 v3 v4 v5 : mx_V) (S h : mx_H) (n : Int), mx_ex d 256 1433 [l0, l1, l2, l3] [(0, b), (0, a), v2, v3, v4, v5] S h n = mx_ex d 256 1434 [l0, l1, l2, l3] [(0, mx_w (a + b)), v2, v3, v4, v5] S h n) ∧
  (∀ (d : Nat) (i a : Int) (l0 l1 l2 l3 : Option mx_V) (v2 v3 v4 : mx_V) (S h : mx_H) (n : Int), mx_ex d 256 1434 [l0, l1, l2, l3] [(0, i), (2, a), v2, v3, v4] S h n = mx_gd ((S a (-2) = 20 ∨ S a (-2) = 24) ∧ 0 ≤ i ∧ i < S a (-1)) d 256 1435 [l0, l1, l2, l3] [(0, h a i), v2, v3, v4] S h n) ∧
  (∀ (d : Nat) (a : Int) (l0 l1 l2 l3 : Option mx_V) (v0 v1 v2 : mx_V) (S h : mx_H) (n : Int), mx_ex (d + 1) 256 1435 [l0, l1, l2, l3] [v0, v1, v2, (2, a)] S h n = mx_cl (S a (-2) = 7) d 136 [(2, a), v2, v1, v0] 256 1438 [l0, l1, l2, l3] [] S h n) ∧
  (∀ (d : Nat) (x : Int) (l0 l1 l3 : Option mx_V) (v0 : mx_V) (S h : mx_H) (n : Int), mx_ex d 256 1438 [l0, l1, some (2, x), l3] [v0] S h n = mx_ex d 256 1439 [l0, l1, some (2, x), l3] [(2, x), v0] S h n) ∧
  (∀ (d : Nat) (x : Int) (l1 l2 l3 : Option mx_V) (v0 v1 : mx_V) (S h : mx_H) (n : Int), mx_ex d 256 1439 [some (2, x), l1, l2, l3] [v0, v1] S h n = mx_ex d 256 1440 [some (2, x), l1, l2, l3] [(2, x), v0, v1] S h n) ∧
  (∀ (d : Nat) (x : Int) (l0 l1 l2 : Option mx_V) (v0 v1 v2 : mx_V) (S h : mx_H) (n : Int), mx_ex d 256 1440 [l0, l1, l2, some (0, x)] [v0, v1, v2] S h n = mx_ex d 256 1441 [l0, l1, l2, some (0, x)] [(0, x), v0, v1, v2] S h n) ∧
  (∀ (d : Nat) (l0 l1 l2 l3 : Option mx_V) (v0 v1 v2 v3 : mx_V) (S h : mx_H) (n : Int), mx_ex d 256 1441 [l0, l1, l2, l3] [v0, v1, v2, v3] S h n = mx_ex d 256 1442 [l0, l1, l2, l3] [(0, 1), v0, v1, v2, v3] S h n) ∧
  (∀ (d : Nat) (b a : Int) (l0 l1 l2 l3 : Option mx_V) (v2 v3 v4 : mx_V) (S h : mx_H) (n : Int), mx_ex d 256 1442 [l0, l1, l2, l3] [(0, b), (0, a), v2, v3, v4] S h n = mx_ex d 256 1443 [l0, l1, l2, l3] [(0, mx_w (a + b)), v2, v3, v4] S h n) ∧
  (∀ (d : Nat) (i a : Int) (l0 l1 l2 l3 : Option mx_V) (v2 v3 : mx_V) (S h : mx_H) (n : Int), mx_ex d 256 1443 [l0, l1, l2, l3] [(0, i), (2, a), v2, v3] S h n = mx_gd ((S a (-2) = 20 ∨ S a (-2) = 24) ∧ 0 ≤ i ∧ i < S a (-1)) d 256 1444 [l0, l1, l2, l3] [(0, h a i), v2, v3] S h n) ∧
  (∀ (d : Nat) (x : Int) (l1 l2 l3 : Option mx_V) (v0 v1 v2 : mx_V) (S h : mx_H) (n : Int), mx_ex d 256 1444 [some (2, x), l1, l2, l3] [v0, v1, v2] S h n = mx_ex d 256 1445 [some (2, x), l1, l2, l3] [(2, x), v0, v1, v2] S h n) ∧
  (∀ (d : Nat) (x : Int) (l0 l1 l2 : Option mx_V) (v0 v1 v2 v3 : mx_V) (S h : mx_H) (n : Int), mx_ex d 256 1445 [l0, l1, l2, some (0, x)] [v0, v1, v2, v3] S h n = mx_ex d 256 1446 [l0, l1, l2, some (0, x)] [(0, x), v0, v1, v2, v3] S h n) ∧
  (∀ (d : Nat) (l0 l1 l2 l3 : Option mx_V) (v0 v1 v2 v3 v4 : mx_V) (S h : mx_H) (n : Int), mx_ex d 256 1446 [l0, l1, l2, l3] [v0, v1, v2, v3, v4] S h n = mx_ex d 256 1447 [l0, l1, l2, l3] [(0, 2), v0, v1, v2, v3, v4] S h n) ∧
  (∀ (d : Nat) (b a : Int) (l0 l1 l2 l3 : Option mx_V) (v2 v3 v4 v5 : mx_V) (S h : mx_H) (n : Int), mx_ex d 256 1447 [l0, l1, l2, l3] [(0, b), (0, a), v2, v3, v4, v5] S h n = mx_ex d 256 1448 [l0, l1, l2, l3] [(0, mx_w (a + b)), v2, v3, v4, v5] S h n) ∧
  (∀ (d : Nat) (i a : Int) (l0 l1 l2 l3 : Option mx_V) (v2 v3 v4 : mx_V) (S h : mx_H) (n : Int), mx_ex d 256 1448 [l0, l1, l2, l3] [(0, i), (2, a), v2, v3, v4] S h n = mx_gd ((S a (-2) = 20 ∨ S a (-2) = 24) ∧ 0 ≤ i ∧ i < S a (-1)) d 256 1449 [l0, l1, l2, l3] [(0, h a i), v2, v3, v4] S h n) ∧
  (∀ (d : Nat) (x : Int) (l1 l2 l3 : Option mx_V) (v0 v1 v2 v3 : mx_V) (S h : mx_H) (n : Int), mx_ex d 256 1449 [some (2, x), l1, l2, l3] [v0, v1, v2, v3] S h n = mx_ex d 256 1450 [some (2, x), l1, l2, l3] [(2, x), v0, v1, v2, v3] S h n) ∧
  (∀ (d : Nat) (x : Int) (l0 l1 l2 : Option mx_V) (v0 v1 v2 v3 v4 : mx_V) (S h : mx_H) (n : Int), mx_ex d 256 1450 [l0, l1, l2, some (0, x)] [v0, v1, v2, v3, v4] S h n = mx_ex d 256 1451 [l0, l1, l2, some (0, x)] [(0, x), v0, v1, v2, v3, v4] S h n) ∧
  (∀ (d : Nat) (l0 l1 l2 l3 : Option mx_V) (v0 v1 v2 v3 v4 v5 : mx_V) (S h : mx_H) (n : Int), mx_ex d 256 1451 [l0, l1, l2, l3] [v0, v1, v2, v3, v4, v5] S h n = mx_ex d 256 1452 [l0, l1, l2, l3] [(0, 3), v0, v1, v2, v3, v4, v5] S h n) ∧
  (∀ (d : Nat) (b a : Int) (l0 l1 l2 l3 : Option mx_V) (v2 v3 v4 v5 v6 : mx_V) (S h : mx_H) (n : Int), mx_ex d 256 1452 [l0, l1, l2, l3] [(0, b), (0, a), v2, v3, v4, v5, v6] S h n = mx_ex d 256 1453 [l0, l1, l2, l3] [(0, mx_w (a + b)), v2, v3, v4, v5, v6] S h n) ∧
  (∀ (d : Nat) (i a : Int) (l0 l1 l2 l3 : Option mx_V) (v2 v3 v4 v5 : mx_V) (S h : mx_H) (n : Int), mx_ex d 256 1453 [l0, l1, l2, l3] [(0, i), (2, a), v2, v3, v4, v5] S h n = mx_gd ((S a (-2) = 20 ∨ S a (-2) = 24) ∧ 0 ≤ i ∧ i < S a (-1)) d 256 1454 [l0, l1, l2, l3] [(0, h a i), v2, v3, v4, v5] S h n) ∧
  (∀ (d : Nat) (a : Int) (l0 l1 l2 l3 : Option mx_V) (v0 v1 v2 v4 : mx_V) (S h : mx_H) (n : Int), mx_ex (d + 1) 256 1454 [l0, l1, l2, l3] [v0, v1, v2, (2, a), v4] S h n = mx_cl (S a (-2) = 13) d 232 [(2, a), v2, v1, v0] 256 1457 [l0, l1, l2, l3] [v4] S h n) ∧
  (∀ (d : Nat) (b a : Int) (l0 l1 l2 l3 : Option mx_V) (S h : mx_H) (n : Int), mx_ex d 256 1457 [l0, l1, l2, l3] [(0, b), (0, a)] S h n = mx_br (a = b) d 256 1653 1460 [l0, l1, l2, l3] [] S h n) ∧
  (∀ (d : Nat) (l0 l1 l2 l3 : Option mx_V) (S h : mx_H) (n : Int), mx_ex d 256 1460 [l0, l1, l2, l3] [] S h n = mx_ex d 256 1461 [l0, l1, l2, l3] [(0, 0)] S h n) ∧
  (∀ (d : Nat) (x : Int) (l0 l1 l2 l3 : Option mx_V) (S h : mx_H) (n : Int), mx_ex d 256 1461 [l0, l1, l2, l3] [(0, x)] S h n = mx_re (0 ≤ x ∧ x ≤ 1) (some (0, x)) S h n) ∧
  (∀ (d : Nat) (x : Int) (l0 l2 l3 : Option mx_V) (S h : mx_H) (n : Int), mx_ex d 256 1462 [l0, some (2, x), l2, l3] [] S h n = mx_ex d 256 1463 [l0, some (2, x), l2, l3] [(2, x)] S h n) ∧
  (∀ (d : Nat) (x : Int) (l1 l2 l3 : Option mx_V) (v0 : mx_V) (S h : mx_H) (n : Int), mx_ex d 256 1463 [some (2, x), l1, l2, l3] [v0] S h n = mx_ex d 256 1464 [some (2, x), l1, l2, l3] [(2, x), v0] S h n) ∧
  (∀ (d : Nat) (x : Int) (l0 l1 l2 : Option mx_V) (v0 v1 : mx_V) (S h : mx_H) (n : Int), mx_ex d 256 1464 [l0, l1, l2, some (0, x)] [v0, v1] S h n = mx_ex d 256 1465 [l0, l1, l2, some (0, x)] [(0, x), v0, v1] S h n) ∧
  (∀ (d : Nat) (l0 l1 l2 l3 : Option mx_V) (v0 v1 v2 : mx_V) (S h : mx_H) (n : Int), mx_ex d 256 1465 [l0, l1, l2, l3] [v0, v1, v2] S h n = mx_ex d 256 1466 [l0, l1, l2, l3] [(0, 1), v0, v1, v2] S h n) ∧
  (∀ (d : Nat) (b a : Int) (l0 l1 l2 l3 : Option mx_V) (v2 v3 : mx_V) (S h : mx_H) (n : Int), mx_ex d 256 1466 [l0, l1, l2, l3] [(0, b), (0, a), v2, v3] S h n = mx_ex d 256 1467 [l0, l1, l2, l3] [(0, mx_w (a + b)), v2, v3] S h n) ∧
  (∀ (d : Nat) (i a : Int) (l0 l1 l2 l3 : Option mx_V) (v2 : mx_V) (S h : mx_H) (n : Int), mx_ex d 256 1467 [l0, l1, l2, l3] [(0, i), (2, a), v2] S h n = mx_gd ((S a (-2) = 20 ∨ S a (-2) = 24) ∧ 0 ≤ i ∧ i < S a (-1)) d 256 1468 [l0, l1, l2, l3] [(0, h a i), v2] S h n) ∧
  (∀ (d : Nat) (x : Int) (l1 l2 l3 : Option mx_V) (v0 v1 : mx_V) (S h : mx_H) (n : Int), mx_ex d 256 1468 [some (2, x), l1, l2, l3] [v0, v1] S h n = mx_ex d 256 1469 [some (2, x), l1, l2, l3] [(2, x), v0, v1] S h n) ∧
  (∀ (d : Nat) (x : Int) (l0 l1 l2 : Option mx_V) (v0 v1 v2 : mx_V) (S h : mx_H) (n : Int), mx_ex d 256 1469 [l0, l1, l2, some (0, x)] [v0, v1, v2] S h n = mx_ex d 256 1470 [l0, l1, l2, some (0, x)] [(0, x), v0, v1, v2] S h n) ∧
  (∀ (d : Nat) (l0 l1 l2 l3 : Option mx_V) (v0 v1 v2 v3 : mx_V) (S h : mx_H) (n : Int), mx_ex d 256 1470 [l0, l1, l2, l3] [v0, v1, v2, v3] S h n = mx_ex d 256 1471 [l0, l1, l2, l3] [(0, 2), v0, v1, v2, v3] S h n) ∧
  (∀ (d : Nat) (b a : Int) (l0 l1 l2 l3 : Option mx_V) (v2 v3 v4 : mx_V) (S h : mx_H) (n : Int), mx_ex d 256 1471 [l0, l1, l2, l3] [(0, b), (0, a), v2, v3, v4] S h n = mx_ex d 256 1472 [l0, l1, l2, l3] [(0, mx_w (a + b)), v2, v3, v4] S h n) ∧
  (∀ (d : Nat) (i a : Int) (l0 l1 l2 l3 : Option mx_V) (v2 v3 : mx_V) (S h : mx_H) (n : Int), mx_ex d 256 1472 [l0, l1, l2, l3] [(0, i), (2, a), v2, v3] S h n = mx_gd ((S a (-2) = 20 ∨ S a (-2) = 24) ∧ 0 ≤ i ∧ i < S a (-1)) d 256 1473 [l0, l1, l2, l3] [(0, h a i), v2, v3] S h n) ∧
  (∀ (d : Nat) (x : Int) (l1 l2 l3 : Option mx_V) (v0 v1 v2 : mx_V) (S h : mx_H) (n : Int), mx_ex d 256 1473 [some (2, x), l1, l2, l3] [v0, v1, v2] S h n = mx_ex d 256 1474 [some (2, x), l1, l2, l3] [(2, x), v0, v1, v2] S h n) ∧
  (∀ (d : Nat) (x : Int) (l0 l1 l2 : Option mx_V) (v0 v1 v2 v3 : mx_V) (S h : mx_H) (n : Int), mx_ex d 256 1474 [l0, l1, l2, some (0, x)] [v0, v1, v2, v3] S h n = mx_ex d 256 1475 [l0, l1, l2, some (0, x)] [(0, x), v0, v1, v2, v3] S h n) :=
  ⟨by intros; exact eq_ld rfl rfl,
   by intros; exact eq_ld rfl rfl,
   by intros; exact eq_ld rfl rfl,
   by intros; exact eq_push rfl,
   by intros; exact eq_i2 (o := mx_add) rfl,
   by intros; exact eq_iald rfl,
   by intros; exact eq_ld rfl rfl,
   by intros; exact eq_ld rfl rfl,
   by intros; exact eq_push rfl,
   by intros; exact eq_i2 (o := mx_add) rfl,
   by intros; exact eq_iald rfl,
   by intros; exact eq_ld rfl rfl,
   by intros; exact eq_ld rfl rfl,
   by intros; exact eq_push rfl,
   by intros; exact eq_i2 (o := mx_add) rfl,
   by intros; exact eq_iald rfl,
   by intros; exact eq_cv rfl rfl (Nat.le_of_ble_eq_true rfl) rfl rfl,
   by intros; exact eq_ic0 rfl,
   by intros; exact eq_push rfl,
   by intros; exact eq_retz rfl,
   by intros; exact eq_ld rfl rfl,
   by intros; exact eq_ld rfl rfl,
   by intros; exact eq_ld rfl rfl,
   by intros; exact eq_push rfl,
   by intros; exact eq_i2 (o := mx_add) rfl,
   by intros; exact eq_iald rfl,
   by intros; exact eq_ld rfl rfl,
   by intros; exact eq_ld rfl rfl,
   by intros; exact eq_push rfl,
   by intros; exact eq_i2 (o := mx_add) rfl,
   by intros; exact eq_iald rfl,
   by intros; exact eq_ld rfl rfl,
   by intros; exact eq_ld rfl rfl,
   by intros; exact eq_push rfl,
   by intros; exact eq_i2 (o := mx_add) rfl,
   by intros; exact eq_iald rfl,
   by intros; exact eq_cv rfl rfl (Nat.le_of_ble_eq_true rfl) rfl rfl,
   by intros; exact eq_ld rfl rfl,
   by intros; exact eq_ld rfl rfl,
   by intros; exact eq_ld rfl rfl,
   by intros; exact eq_push rfl,
   by intros; exact eq_i2 (o := mx_add) rfl,
   by intros; exact eq_iald rfl,
   by intros; exact eq_ld rfl rfl,
   by intros; exact eq_ld rfl rfl,
   by intros; exact eq_push rfl,
   by intros; exact eq_i2 (o := mx_add) rfl,
   by intros; exact eq_iald rfl,
   by intros; exact eq_ld rfl rfl,
   by intros; exact eq_ld rfl rfl,
   by intros; exact eq_push rfl,
   by intros; exact eq_i2 (o := mx_add) rfl,
   by intros; exact eq_iald rfl,
   by intros; exact eq_cv rfl rfl (Nat.le_of_ble_eq_true rfl) rfl rfl,
   by intros; exact eq_ic0 rfl,
   by intros; exact eq_push rfl,
   by intros; exact eq_retz rfl,
   by intros; exact eq_ld rfl rfl,
   by intros; exact eq_ld rfl rfl,
   by intros; exact eq_ld rfl rfl,
   by intros; exact eq_push rfl,
   by intros; exact eq_i2 (o := mx_add) rfl,
   by intros; exact eq_iald rfl,
   by intros; exact eq_ld rfl rfl,
   by intros; exact eq_ld rfl rfl,
   by intros; exact eq_push rfl,
   by intros; exact eq_i2 (o := mx_add) rfl,
   by intros; exact eq_iald rfl,
   by intros; exact eq_ld rfl rfl,
   by intros; exact eq_ld rfl rfl⟩
theorem rw_L_law_15 :
  (∀ (d : Nat) (l0 l1 l2 l3 : Option mx_V) (v0 v1 v2 v3 v4 : mx_V) (S h : mx_H) (n : Int), mx_ex d 256 1475 [l0, l1, l2, l3] [v0, v1, v2, v3, v4] S h n = mx_ex d 256 1476 [l0, l1, l2, l3] [(0, 3), v0, v1, v2, v3, v4] S h n) ∧
  (∀ (d : Nat) (b a : Int) (l0 l1 l2 l3 : Option mx_V) (v2 v3 v4 v5 : mx_V) (S h : mx_H) (n : Int), mx_ex d 256 1476 [l0, l1, l2, l3] [(0, b), (0, a), v2, v3, v4, v5] S h n = mx_ex d 256 1477 [l0, l1, l2, l3] [(0, mx_w (a + b)), v2, v3, v4, v5] S h n) ∧
  (∀ (d : Nat) (i a : Int) (l0 l1 l2 l3 : Option mx_V) (v2 v3 v4 : mx_V) (S h : mx_H) (n : Int), mx_ex d 256 1477 [l0, l1, l2, l3] [(0, i), (2, a), v2, v3, v4] S h n = mx_gd ((S a (-2) = 20 ∨ S a (-2) = 24) ∧ 0 ≤ i ∧ i < S a (-1)) d 256 1478 [l0, l1, l2, l3] [(0, h a i), v2, v3, v4] S h n) ∧
  (∀ (d : Nat) (a : Int) (l0 l1 l2 l3 : Option mx_V) (v0 v1 v2 : mx_V) (S h : mx_H) (n : Int), mx_ex (d + 1) 256 1478 [l0, l1, l2, l3] [v0, v1, v2, (2, a)] S h n = mx_cl (S a (-2) = 7) d 137 [(2, a), v2, v1, v0] 256 1481 [l0, l1, l2, l3] [] S h n) ∧
  (∀ (d : Nat) (x : Int) (l0 l1 l3 : Option mx_V) (v0 : mx_V) (S h : mx_H) (n : Int), mx_ex d 256 1481 [l0, l1, some (2, x), l3] [v0] S h n = mx_ex d 256 1482 [l0, l1, some (2, x), l3] [(2, x), v0] S h n) ∧
  (∀ (d : Nat) (x : Int) (l1 l2 l3 : Option mx_V) (v0 v1 : mx_V) (S h : mx_H) (n : Int), mx_ex d 256 1482 [some (2, x), l1, l2, l3] [v0, v1] S h n = mx_ex d 256 1483 [some (2, x), l1, l2, l3] [(2, x), v0, v1] S h n) ∧
  (∀ (d : Nat) (x : Int) (l0 l1 l2 : Option mx_V) (v0 v1 v2 : mx_V) (S h : mx_H) (n : Int), mx_ex d 256 1483 [l0, l1, l2, some (0, x)] [v0, v1, v2] S h n = mx_ex d 256 1484 [l0, l1, l2, some (0, x)] [(0, x), v0, v1, v2] S h n) ∧
  (∀ (d : Nat) (l0 l1 l2 l3 : Option mx_V) (v0 v1 v2 v3 : mx_V) (S h : mx_H) (n : Int), mx_ex d 256 1484 [l0, l1, l2, l3] [v0, v1, v2, v3] S h n = mx_ex d 256 1485 [l0, l1, l2, l3] [(0, 1), v0, v1, v2, v3] S h n) ∧
  (∀ (d : Nat) (b a : Int) (l0 l1 l2 l3 : Option mx_V) (v2 v3 v4 : mx_V) (S h : mx_H) (n : Int), mx_ex d 256 1485 [l0, l1, l2, l3] [(0, b), (0, a), v2, v3, v4] S h n = mx_ex d 256 1486 [l0, l1, l2, l3] [(0, mx_w (a + b)), v2, v3, v4] S h n) ∧
  (∀ (d : Nat) (i a : Int) (l0 l1 l2 l3 : Option mx_V) (v2 v3 : mx_V) (S h : mx_H) (n : Int), mx_ex d 256 1486 [l0, l1, l2, l3] [(0, i), (2, a), v2, v3] S h n = mx_gd ((S a (-2) = 20 ∨ S a (-2) = 24) ∧ 0 ≤ i ∧ i < S a (-1)) d 256 1487 [l0, l1, l2, l3] [(0, h a i), v2, v3] S h n) ∧
  (∀ (d : Nat) (x : Int) (l1 l2 l3 : Option mx_V) (v0 v1 v2 : mx_V) (S h : mx_H) (n : Int), mx_ex d 256 1487 [some (2, x), l1, l2, l3] [v0, v1, v2] S h n = mx_ex d 256 1488 [some (2, x), l1, l2, l3] [(2, x), v0, v1, v2] S h n) ∧
  (∀ (d : Nat) (x : Int) (l0 l1 l2 : Option mx_V) (v0 v1 v2 v3 : mx_V) (S h : mx_H) (n : Int), mx_ex d 256 1488 [l0, l1, l2, some (0, x)] [v0, v1, v2, v3] S h n = mx_ex d 256 1489 [l0, l1, l2, some (0, x)] [(0, x), v0, v1, v2, v3] S h n) ∧
  (∀ (d : Nat) (l0 l1 l2 l3 : Option mx_V) (v0 v1 v2 v3 v4 : mx_V) (S h : mx_H) (n : Int), mx_ex d 256 1489 [l0, l1, l2, l3] [v0, v1, v2, v3, v4] S h n = mx_ex d 256 1490 [l0, l1, l2, l3] [(0, 2), v0, v1, v2, v3, v4] S h n) ∧
  (∀ (d : Nat) (b a : Int) (l0 l1 l2 l3 : Option mx_V) (v2 v3 v4 v5 : mx_V) (S h : mx_H) (n : Int), mx_ex d 256 1490 [l0, l1, l2, l3] [(0, b), (0, a), v2, v3, v4, v5] S h n = mx_ex d 256 1491 [l0, l1, l2, l3] [(0, mx_w (a + b)), v2, v3, v4, v5] S h n) ∧
  (∀ (d : Nat) (i a : Int) (l0 l1 l2 l3 : Option mx_V) (v2 v3 v4 : mx_V) (S h : mx_H) (n : Int), mx_ex d 256 1491 [l0, l1, l2, l3] [(0, i), (2, a), v2, v3, v4] S h n = mx_gd ((S a (-2) = 20 ∨ S a (-2) = 24) ∧ 0 ≤ i ∧ i < S a (-1)) d 256 1492 [l0, l1, l2, l3] [(0, h a i), v2, v3, v4] S h n) ∧
  (∀ (d : Nat) (x : Int) (l1 l2 l3 : Option mx_V) (v0 v1 v2 v3 : mx_V) (S h : mx_H) (n : Int), mx_ex d 256 1492 [some (2, x), l1, l2, l3] [v0, v1, v2, v3] S h n = mx_ex d 256 1493 [some (2, x), l1, l2, l3] [(2, x), v0, v1, v2, v3] S h n) ∧
  (∀ (d : Nat) (x : Int) (l0 l1 l2 : Option mx_V) (v0 v1 v2 v3 v4 : mx_V) (S h : mx_H) (n : Int), mx_ex d 256 1493 [l0, l1, l2, some (0, x)] [v0, v1, v2, v3, v4] S h n = mx_ex d 256 1494 [l0, l1, l2, some (0, x)] [(0, x), v0, v1, v2, v3, v4] S h n) ∧
  (∀ (d : Nat) (l0 l1 l2 l3 : Option mx_V) (v0 v1 v2 v3 v4 v5 : mx_V) (S h : mx_H) (n : Int), mx_ex d 256 1494 [l0, l1, l2, l3] [v0, v1, v2, v3, v4, v5] S h n = mx_ex d 256 1495 [l0, l1, l2, l3] [(0, 3), v0, v1, v2, v3, v4, v5] S h n) ∧
  (∀ (d : Nat) (b a : Int) (l0 l1 l2 l3 : Option mx_V) (v2 v3 v4 v5 v6 : mx_V) (S h : mx_H) (n : Int), mx_ex d 256 1495 [l0, l1, l2, l3] [(0, b), (0, a), v2, v3, v4, v5, v6] S h n = mx_ex d 256 1496 [l0, l1, l2, l3] [(0, mx_w (a + b)), v2, v3, v4, v5, v6] S h n) ∧
  (∀ (d : Nat) (i a : Int) (l0 l1 l2 l3 : Option mx_V) (v2 v3 v4 v5 : mx_V) (S h : mx_H) (n : Int), mx_ex d 256 1496 [l0, l1, l2, l3] [(0, i), (2, a), v2, v3, v4, v5] S h n = mx_gd ((S a (-2) = 20 ∨ S a (-2) = 24) ∧ 0 ≤ i ∧ i < S a (-1)) d 256 1497 [l0, l1, l2, l3] [(0, h a i), v2, v3, v4, v5] S h n) ∧
  (∀ (d : Nat) (a : Int) (l0 l1 l2 l3 : Option mx_V) (v0 v1 v2 v4 : mx_V) (S h : mx_H) (n : Int), mx_ex (d + 1) 256 1497 [l0, l1, l2, l3] [v0, v1, v2, (2, a), v4] S h n = mx_cl (S a (-2) = 13) d 234 [(2, a), v2, v1, v0] 256 1500 [l0, l1, l2, l3] [v4] S h n) ∧
  (∀ (d : Nat) (b a : Int) (l0 l1 l2 l3 : Option mx_V) (S h : mx_H) (n : Int), mx_ex d 256 1500 [l0, l1, l2, l3] [(0, b), (0, a)] S h n = mx_br (a = b) d 256 1653 1503 [l0, l1, l2, l3] [] S h n) ∧
  (∀ (d : Nat) (l0 l1 l2 l3 : Option mx_V) (S h : mx_H) (n : Int), mx_ex d 256 1503 [l0, l1, l2, l3] [] S h n = mx_ex d 256 1504 [l0, l1, l2, l3] [(0, 0)] S h n) ∧
  (∀ (d : Nat) (x : Int) (l0 l1 l2 l3 : Option mx_V) (S h : mx_H) (n : Int), mx_ex d 256 1504 [l0, l1, l2, l3] [(0, x)] S h n = mx_re (0 ≤ x ∧ x ≤ 1) (some (0, x)) S h n) ∧
  (∀ (d : Nat) (x : Int) (l0 l2 l3 : Option mx_V) (S h : mx_H) (n : Int), mx_ex d 256 1505 [l0, some (2, x), l2, l3] [] S h n = mx_ex d 256 1506 [l0, some (2, x), l2, l3] [(2, x)] S h n) ∧
  (∀ (d : Nat) (x : Int) (l1 l2 l3 : Option mx_V) (v0 : mx_V) (S h : mx_H) (n : Int), mx_ex d 256 1506 [some (2, x), l1, l2, l3] [v0] S h n = mx_ex d 256 1507 [some (2, x), l1, l2, l3] [(2, x), v0] S h n) ∧
  (∀ (d : Nat) (x : Int) (l0 l1 l2 : Option mx_V) (v0 v1 : mx_V) (S h : mx_H) (n : Int), mx_ex d 256 1507 [l0, l1, l2, some (0, x)] [v0, v1] S h n = mx_ex d 256 1508 [l0, l1, l2, some (0, x)] [(0, x), v0, v1] S h n) ∧
  (∀ (d : Nat) (l0 l1 l2 l3 : Option mx_V) (v0 v1 v2 : mx_V) (S h : mx_H) (n : Int), mx_ex d 256 1508 [l0, l1, l2, l3] [v0, v1, v2] S h n = mx_ex d 256 1509 [l0, l1, l2, l3] [(0, 1), v0, v1, v2] S h n) ∧
  (∀ (d : Nat) (b a : Int) (l0 l1 l2 l3 : Option mx_V) (v2 v3 : mx_V) (S h : mx_H) (n : Int), mx_ex d 256 1509 [l0, l1, l2, l3] [(0, b), (0, a), v2, v3] S h n = mx_ex d 256 1510 [l0, l1, l2, l3] [(0, mx_w (a + b)), v2, v3] S h n) ∧
  (∀ (d : Nat) (i a : Int) (l0 l1 l2 l3 : Option mx_V) (v2 : mx_V) (S h : mx_H) (n : Int), mx_ex d 256 1510 [l0, l1, l2, l3] [(0, i), (2, a), v2] S h n = mx_gd ((S a (-2) = 20 ∨ S a (-2) = 24) ∧ 0 ≤ i ∧ i < S a (-1)) d 256 1511 [l0, l1, l2, l3] [(0, h a i), v2] S h n) ∧
  (∀ (d : Nat) (x : Int) (l1 l2 l3 : Option mx_V) (v0 v1 : mx_V) (S h : mx_H) (n : Int), mx_ex d 256 1511 [some (2, x), l1, l2, l3] [v0, v1] S h n = mx_ex d 256 1512 [some (2, x), l1, l2, l3] [(2, x), v0, v1] S h n) ∧
  (∀ (d : Nat) (x : Int) (l0 l1 l2 : Option mx_V) (v0 v1 v2 : mx_V) (S h : mx_H) (n : Int), mx_ex d 256 1512 [l0, l1, l2, some (0, x)] [v0, v1, v2] S h n = mx_ex d 256 1513 [l0, l1, l2, some (0, x)] [(0, x), v0, v1, v2] S h n) ∧
  (∀ (d : Nat) (l0 l1 l2 l3 : Option mx_V) (v0 v1 v2 v3 : mx_V) (S h : mx_H) (n : Int), mx_ex d 256 1513 [l0, l1, l2, l3] [v0, v1, v2, v3] S h n = mx_ex d 256 1514 [l0, l1, l2, l3] [(0, 2), v0, v1, v2, v3] S h n) ∧
  (∀ (d : Nat) (b a : Int) (l0 l1 l2 l3 : Option mx_V) (v2 v3 v4 : mx_V) (S h : mx_H) (n : Int), mx_ex d 256 1514 [l0, l1, l2, l3] [(0, b), (0, a), v2, v3, v4] S h n = mx_ex d 256 1515 [l0, l1, l2, l3] [(0, mx_w (a + b)), v2, v3, v4] S h n) ∧
  (∀ (d : Nat) (i a : Int) (l0 l1 l2 l3 : Option mx_V) (v2 v3 : mx_V) (S h : mx_H) (n : Int), mx_ex d 256 1515 [l0, l1, l2, l3] [(0, i), (2, a), v2, v3] S h n = mx_gd ((S a (-2) = 20 ∨ S a (-2) = 24) ∧ 0 ≤ i ∧ i < S a (-1)) d 256 1516 [l0, l1, l2, l3] [(0, h a i), v2, v3] S h n) ∧
  (∀ (d : Nat) (a : Int) (l0 l1 l2 l3 : Option mx_V) (v0 v1 : mx_V) (S h : mx_H) (n : Int), mx_ex (d + 1) 256 1516 [l0, l1, l2, l3] [v0, v1, (2, a)] S h n = mx_cl (S a (-2) = 7) d 138 [(2, a), v1, v0] 256 1519 [l0, l1, l2, l3] [] S h n) ∧
  (∀ (d : Nat) (x : Int) (l0 l1 l3 : Option mx_V) (v0 : mx_V) (S h : mx_H) (n : Int), mx_ex d 256 1519 [l0, l1, some (2, x), l3] [v0] S h n = mx_ex d 256 1520 [l0, l1, some (2, x), l3] [(2, x), v0] S h n) ∧
  (∀ (d : Nat) (x : Int) (l1 l2 l3 : Option mx_V) (v0 v1 : mx_V) (S h : mx_H) (n : Int), mx_ex d 256 1520 [some (2, x), l1, l2, l3] [v0, v1] S h n = mx_ex d 256 1521 [some (2, x), l1, l2, l3] [(2, x), v0, v1] S h n) ∧
  (∀ (d : Nat) (x : Int) (l0 l1 l2 : Option mx_V) (v0 v1 v2 : mx_V) (S h : mx_H) (n : Int), mx_ex d 256 1521 [l0, l1, l2, some (0, x)] [v0, v1, v2] S h n = mx_ex d 256 1522 [l0, l1, l2, some (0, x)] [(0, x), v0, v1, v2] S h n) ∧
  (∀ (d : Nat) (l0 l1 l2 l3 : Option mx_V) (v0 v1 v2 v3 : mx_V) (S h : mx_H) (n : Int), mx_ex d 256 1522 [l0, l1, l2, l3] [v0, v1, v2, v3] S h n = mx_ex d 256 1523 [l0, l1, l2, l3] [(0, 1), v0, v1, v2, v3] S h n) ∧
  (∀ (d : Nat) (b a : Int) (l0 l1 l2 l3 : Option mx_V) (v2 v3 v4 : mx_V) (S h : mx_H) (n : Int), mx_ex d 256 1523 [l0, l1, l2, l3] [(0, b), (0, a), v2, v3, v4] S h n = mx_ex d 256 1524 [l0, l1, l2, l3] [(0, mx_w (a + b)), v2, v3, v4] S h n) ∧
  (∀ (d : Nat) (i a : Int) (l0 l1 l2 l3 : Option mx_V) (v2 v3 : mx_V) (S h : mx_H) (n : Int), mx_ex d 256 1524 [l0, l1, l2, l3] [(0, i), (2, a), v2, v3] S h n = mx_gd ((S a (-2) = 20 ∨ S a (-2) = 24) ∧ 0 ≤ i ∧ i < S a (-1)) d 256 1525 [l0, l1, l2, l3] [(0, h a i), v2, v3] S h n) ∧
  (∀ (d : Nat) (x : Int) (l1 l2 l3 : Option mx_V) (v0 v1 v2 : mx_V) (S h : mx_H) (n : Int), mx_ex d 256 1525 [some (2, x), l1, l2, l3] [v0, v1, v2] S h n = mx_ex d 256 1526 [some (2, x), l1, l2, l3] [(2, x), v0, v1, v2] S h n) ∧
  (∀ (d : Nat) (x : Int) (l0 l1 l2 : Option mx_V) (v0 v1 v2 v3 : mx_V) (S h : mx_H) (n : Int), mx_ex d 256 1526 [l0, l1, l2, some (0, x)] [v0, v1, v2, v3] S h n = mx_ex d 256 1527 [l0, l1, l2, some (0, x)] [(0, x), v0, v1, v2, v3] S h n) ∧
  (∀ (d : Nat) (l0 l1 l2 l3 : Option mx_V) (v0 v1 v2 v3 v4 : mx_V) (S h : mx_H) (n : Int), mx_ex d 256 1527 [l0, l1, l2, l3] [v0, v1, v2, v3, v4] S h n = mx_ex d 256 1528 [l0, l1, l2, l3] [(0, 2), v0, v1, v2, v3, v4] S h n) ∧
  (∀ (d : Nat) (b a : Int) (l0 l1 l2 l3 : Option mx_V) (v2 v3 v4 v5 : mx_V) (S h : mx_H) (n : Int), mx_ex d 256 1528 [l0, l1, l2, l3] [(0, b), (0, a), v2, v3, v4, v5] S h n = mx_ex d 256 1529 [l0, l1, l2, l3] [(0, mx_w (a + b)), v2, v3, v4, v5] S h n) ∧
  (∀ (d : Nat) (i a : Int) (l0 l1 l2 l3 : Option mx_V) (v2 v3 v4 : mx_V) (S h : mx_H) (n : Int), mx_ex d 256 1529 [l0, l1, l2, l3] [(0, i), (2, a), v2, v3, v4] S h n = mx_gd ((S a (-2) = 20 ∨ S a (-2) = 24) ∧ 0 ≤ i ∧ i < S a (-1)) d 256 1530 [l0, l1, l2, l3] [(0, h a i), v2, v3, v4] S h n) ∧
  (∀ (d : Nat) (a : Int) (l0 l1 l2 l3 : Option mx_V) (v0 v1 v3 : mx_V) (S h : mx_H) (n : Int), mx_ex (d + 1) 256 1530 [l0, l1, l2, l3] [v0, v1, (2, a), v3] S h n = mx_cl (S a (-2) = 13) d 237 [(2, a), v1, v0] 256 1533 [l0, l1, l2, l3] [v3] S h n) ∧
  (∀ (d : Nat) (b a : Int) (l0 l1 l2 l3 : Option mx_V) (S h : mx_H) (n : Int), mx_ex d 256 1533 [l0, l1, l2, l3] [(0, b), (0, a)] S h n = mx_br (a = b) d 256 1653 1536 [l0, l1, l2, l3] [] S h n) ∧
  (∀ (d : Nat) (l0 l1 l2 l3 : Option mx_V) (S h : mx_H) (n : Int), mx_ex d 256 1536 [l0, l1, l2, l3] [] S h n = mx_ex d 256 1537 [l0, l1, l2, l3] [(0, 0)] S h n) ∧
  (∀ (d : Nat) (x : Int) (l0 l1 l2 l3 : Option mx_V) (S h : mx_H) (n : Int), mx_ex d 256 1537 [l0, l1, l2, l3] [(0, x)] S h n = mx_re (0 ≤ x ∧ x ≤ 1) (some (0, x)) S h n) ∧
  (∀ (d : Nat) (x : Int) (l0 l2 l3 : Option mx_V) (S h : mx_H) (n : Int), mx_ex d 256 1538 [l0, some (2, x), l2, l3] [] S h n = mx_ex d 256 1539 [l0, some (2, x), l2, l3] [(2, x)] S h n) ∧
  (∀ (d : Nat) (x : Int) (l1 l2 l3 : Option mx_V) (v0 : mx_V) (S h : mx_H) (n : Int), mx_ex d 256 1539 [some (2, x), l1, l2, l3] [v0] S h n = mx_ex d 256 1540 [some (2, x), l1, l2, l3] [(2, x), v0] S h n) ∧
  (∀ (d : Nat) (x : Int) (l0 l1 l2 : Option mx_V) (v0 v1 : mx_V) (S h : mx_H) (n : Int), mx_ex d 256 1540 [l0, l1, l2, some (0, x)] [v0, v1] S h n = mx_ex d 256 1541 [l0, l1, l2, some (0, x)] [(0, x), v0, v1] S h n) ∧
  (∀ (d : Nat) (l0 l1 l2 l3 : Option mx_V) (v0 v1 v2 : mx_V) (S h : mx_H) (n : Int), mx_ex d 256 1541 [l0, l1, l2, l3] [v0, v1, v2] S h n = mx_ex d 256 1542 [l0, l1, l2, l3] [(0, 1), v0, v1, v2] S h n) ∧
  (∀ (d : Nat) (b a : Int) (l0 l1 l2 l3 : Option mx_V) (v2 v3 : mx_V) (S h : mx_H) (n : Int), mx_ex d 256 1542 [l0, l1, l2, l3] [(0, b), (0, a), v2, v3] S h n = mx_ex d 256 1543 [l0, l1, l2, l3] [(0, mx_w (a + b)), v2, v3] S h n) ∧
  (∀ (d : Nat) (i a : Int) (l0 l1 l2 l3 : Option mx_V) (v2 : mx_V) (S h : mx_H) (n : Int), mx_ex d 256 1543 [l0, l1, l2, l3] [(0, i), (2, a), v2] S h n = mx_gd ((S a (-2) = 20 ∨ S a (-2) = 24) ∧ 0 ≤ i ∧ i < S a (-1)) d 256 1544 [l0, l1, l2, l3] [(0, h a i), v2] S h n) ∧
  (∀ (d : Nat) (x : Int) (l1 l2 l3 : Option mx_V) (v0 v1 : mx_V) (S h : mx_H) (n : Int), mx_ex d 256 1544 [some (2, x), l1, l2, l3] [v0, v1] S h n = mx_ex d 256 1545 [some (2, x), l1, l2, l3] [(2, x), v0, v1] S h n) ∧
  (∀ (d : Nat) (x : Int) (l0 l1 l2 : Option mx_V) (v0 v1 v2 : mx_V) (S h : mx_H) (n : Int), mx_ex d 256 1545 [l0, l1, l2, some (0, x)] [v0, v1, v2] S h n = mx_ex d 256 1546 [l0, l1, l2, some (0, x)] [(0, x), v0, v1, v2] S h n) ∧
  (∀ (d : Nat) (l0 l1 l2 l3 : Option mx_V) (v0 v1 v2 v3 : mx_V) (S h : mx_H) (n : Int), mx_ex d 256 1546 [l0, l1, l2, l3] [v0, v1, v2, v3] S h n = mx_ex d 256 1547 [l0, l1, l2, l3] [(0, 2), v0, v1, v2, v3] S h n) ∧
  (∀ (d : Nat) (b a : Int) (l0 l1 l2 l3 : Option mx_V) (v2 v3 v4 : mx_V) (S h : mx_H) (n : Int), mx_ex d 256 1547 [l0, l1, l2, l3] [(0, b), (0, a), v2, v3, v4] S h n = mx_ex d 256 1548 [l0, l1, l2, l3] [(0, mx_w (a + b)), v2, v3, v4] S h n) ∧
  (∀ (d : Nat) (i a : Int) (l0 l1 l2 l3 : Option mx_V) (v2 v3 : mx_V) (S h : mx_H) (n : Int), mx_ex d 256 1548 [l0, l1, l2, l3] [(0, i), (2, a), v2, v3] S h n = mx_gd ((S a (-2) = 20 ∨ S a (-2) = 24) ∧ 0 ≤ i ∧ i < S a (-1)) d 256 1549 [l0, l1, l2, l3] [(0, h a i), v2, v3] S h n) ∧
  (∀ (d : Nat) (x : Int) (l1 l2 l3 : Option mx_V) (v0 v1 v2 : mx_V) (S h : mx_H) (n : Int), mx_ex d 256 1549 [some (2, x), l1, l2, l3] [v0, v1, v2] S h n = mx_ex d 256 1550 [some (2, x), l1, l2, l3] [(2, x), v0, v1, v2] S h n) ∧
  (∀ (d : Nat) (x : Int) (l0 l1 l2 : Option mx_V) (v0 v1 v2 v3 : mx_V) (S h : mx_H) (n : Int), mx_ex d 256 1550 [l0, l1, l2, some (0, x)] [v0, v1, v2, v3] S h n = mx_ex d 256 1551 [l0, l1, l2, some (0, x)] [(0, x), v0, v1, v2, v3] S h n) ∧
  (∀ (d : Nat) (l0 l1 l2 l3 : Option mx_V) (v0 v1 v2 v3 v4 : mx_V) (S h : mx_H) (n : Int), mx_ex d 256 1551 [l0, l1, l2, l3] [v0, v1, v2, v3, v4] S h n = mx_ex d 256 1552 [l0, l1, l2, l3] [(0, 3), v0, v1, v2, v3, v4] S h n) ∧
  (∀ (d : Nat) (b a : Int) (l0 l1 l2 l3 : Option mx_V) (v2 v3 v4 v5 : mx_V) (S h : mx_H) (n : Int), mx_ex d 256 1552 [l0, l1, l2, l3] [(0, b), (0, a), v2, v3, v4, v5] S h n = mx_ex d 256 1553 [l0, l1, l2, l3] [(0, mx_w (a + b)), v2, v3, v4, v5] S h n) ∧
  (∀ (d : Nat) (i a : Int) (l0 l1 l2 l3 : Option mx_V) (v2 v3 v4 : mx_V) (S h : mx_H) (n : Int), mx_ex d 256 1553 [l0, l1, l2, l3] [(0, i), (2, a), v2, v3, v4] S h n = mx_gd ((S a (-2) = 20 ∨ S a (-2) = 24) ∧ 0 ≤ i ∧ i < S a (-1)) d 256 1554 [l0, l1, l2, l3] [(0, h a i), v2, v3, v4] S h n) ∧
  (∀ (d : Nat) (a : Int) (l0 l1 l2 l3 : Option mx_V) (v0 v1 v2 : mx_V) (S h : mx_H) (n : Int), mx_ex (d + 1) 256 1554 [l0, l1, l2, l3] [v0, v1, v2, (2, a)] S h n = mx_cl (S a (-2) = 7) d 139 [(2, a), v2, v1, v0] 256 1557 [l0, l1, l2, l3] [] S h n) ∧
  (∀ (d : Nat) (x : Int) (l0 l1 l3 : Option mx_V) (v0 : mx_V) (S h : mx_H) (n : Int), mx_ex d 256 1557 [l0, l1, some (2, x), l3] [v0] S h n = mx_ex d 256 1558 [l0, l1, some (2, x), l3] [(2, x), v0] S h n) ∧
  (∀ (d : Nat) (x : Int) (l1 l2 l3 : Option mx_V) (v0 v1 : mx_V) (S h : mx_H) (n : Int), mx_ex d 256 1558 [some (2, x), l1, l2, l3] [v0, v1] S h n = mx_ex d 256 1559 [some (2, x), l1, l2, l3] [(2, x), v0, v1] S h n) :=
  ⟨by intros; exact eq_push rfl,
   by intros; exact eq_i2 (o := mx_add) rfl,
   by intros; exact eq_iald rfl,
   by intros; exact eq_cv rfl rfl (Nat.le_of_ble_eq_true rfl) rfl rfl,
   by intros; exact eq_ld rfl rfl,
   by intros; exact eq_ld rfl rfl,
   by intros; exact eq_ld rfl rfl,
   by intros; exact eq_push rfl,
   by intros; exact eq_i2 (o := mx_add) rfl,
   by intros; exact eq_iald rfl,
   by intros; exact eq_ld rfl rfl,
   by intros; exact eq_ld rfl rfl,
   by intros; exact eq_push rfl,
   by intros; exact eq_i2 (o := mx_add) rfl,
   by intros; exact eq_iald rfl,
   by intros; exact eq_ld rfl rfl,
   by intros; exact eq_ld rfl rfl,
   by intros; exact eq_push rfl,
   by intros; exact eq_i2 (o := mx_add) rfl,
   by intros; exact eq_iald rfl,
   by intros; exact eq_cv rfl rfl (Nat.le_of_ble_eq_true rfl) rfl rfl,
   by intros; exact eq_ic0 rfl,
   by intros; exact eq_push rfl,
   by intros; exact eq_retz rfl,
   by intros; exact eq_ld rfl rfl,
   by intros; exact eq_ld rfl rfl,
   by intros; exact eq_ld rfl rfl,
   by intros; exact eq_push rfl,
   by intros; exact eq_i2 (o := mx_add) rfl,
   by intros; exact eq_iald rfl,
   by intros; exact eq_ld rfl rfl,
   by intros; exact eq_ld rfl rfl,
   by intros; exact eq_push rfl,
   by intros; exact eq_i2 (o := mx_add) rfl,
   by intros; exact eq_iald rfl,
   by intros; exact eq_cv rfl rfl (Nat.le_of_ble_eq_true rfl) rfl rfl,
   by intros; exact eq_ld rfl rfl,
   by intros; exact eq_ld rfl rfl,
   by intros; exact eq_ld rfl rfl,
   by intros; exact eq_push rfl,
   by intros; exact eq_i2 (o := mx_add) rfl,
   by intros; exact eq_iald rfl,
   by intros; exact eq_ld rfl rfl,
   by intros; exact eq_ld rfl rfl,
   by intros; exact eq_push rfl,
   by intros; exact eq_i2 (o := mx_add) rfl,
   by intros; exact eq_iald rfl,
   by intros; exact eq_cv rfl rfl (Nat.le_of_ble_eq_true rfl) rfl rfl,
   by intros; exact eq_ic0 rfl,
   by intros; exact eq_push rfl,
   by intros; exact eq_retz rfl,
   by intros; exact eq_ld rfl rfl,
   by intros; exact eq_ld rfl rfl,
   by intros; exact eq_ld rfl rfl,
   by intros; exact eq_push rfl,
   by intros; exact eq_i2 (o := mx_add) rfl,
   by intros; exact eq_iald rfl,
   by intros; exact eq_ld rfl rfl,
   by intros; exact eq_ld rfl rfl,
   by intros; exact eq_push rfl,
   by intros; exact eq_i2 (o := mx_add) rfl,
   by intros; exact eq_iald rfl,
   by intros; exact eq_ld rfl rfl,
   by intros; exact eq_ld rfl rfl,
   by intros; exact eq_push rfl,
   by intros; exact eq_i2 (o := mx_add) rfl,
   by intros; exact eq_iald rfl,
   by intros; exact eq_cv rfl rfl (Nat.le_of_ble_eq_true rfl) rfl rfl,
   by intros; exact eq_ld rfl rfl,
   by intros; exact eq_ld rfl rfl⟩
theorem rw_L_law_16 :
  (∀ (d : Nat) (x : Int) (l0 l1 l2 : Option mx_V) (v0 v1 v2 : mx_V) (S h : mx_H) (n : Int), mx_ex d 256 1559 [l0, l1, l2, some (0, x)] [v0, v1, v2] S h n = mx_ex d 256 1560 [l0, l1, l2, some (0, x)] [(0, x), v0, v1, v2] S h n) ∧
  (∀ (d : Nat) (l0 l1 l2 l3 : Option mx_V) (v0 v1 v2 v3 : mx_V) (S h : mx_H) (n : Int), mx_ex d 256 1560 [l0, l1, l2, l3] [v0, v1, v2, v3] S h n = mx_ex d 256 1561 [l0, l1, l2, l3] [(0, 1), v0, v1, v2, v3] S h n) ∧
  (∀ (d : Nat) (b a : Int) (l0 l1 l2 l3 : Option mx_V) (v2 v3 v4 : mx_V) (S h : mx_H) (n : Int), mx_ex d 256 1561 [l0, l1, l2, l3] [(0, b), (0, a), v2, v3, v4] S h n = mx_ex d 256 1562 [l0, l1, l2, l3] [(0, mx_w (a + b)), v2, v3, v4] S h n) ∧
  (∀ (d : Nat) (i a : Int) (l0 l1 l2 l3 : Option mx_V) (v2 v3 : mx_V) (S h : mx_H) (n : Int), mx_ex d 256 1562 [l0, l1, l2, l3] [(0, i), (2, a), v2, v3] S h n = mx_gd ((S a (-2) = 20 ∨ S a (-2) = 24) ∧ 0 ≤ i ∧ i < S a (-1)) d 256 1563 [l0, l1, l2, l3] [(0, h a i), v2, v3] S h n) ∧
  (∀ (d : Nat) (x : Int) (l1 l2 l3 : Option mx_V) (v0 v1 v2 : mx_V) (S h : mx_H) (n : Int), mx_ex d 256 1563 [some (2, x), l1, l2, l3] [v0, v1, v2] S h n = mx_ex d 256 1564 [some (2, x), l1, l2, l3] [(2, x), v0, v1, v2] S h n) ∧
  (∀ (d : Nat) (x : Int) (l0 l1 l2 : Option mx_V) (v0 v1 v2 v3 : mx_V) (S h : mx_H) (n : Int), mx_ex d 256 1564 [l0, l1, l2, some (0, x)] [v0, v1, v2, v3] S h n = mx_ex d 256 1565 [l0, l1, l2, some (0, x)] [(0, x), v0, v1, v2, v3] S h n) ∧
  (∀ (d : Nat) (l0 l1 l2 l3 : Option mx_V) (v0 v1 v2 v3 v4 : mx_V) (S h : mx_H) (n : Int), mx_ex d 256 1565 [l0, l1, l2, l3] [v0, v1, v2, v3, v4] S h n = mx_ex d 256 1566 [l0, l1, l2, l3] [(0, 2), v0, v1, v2, v3, v4] S h n) ∧
  (∀ (d : Nat) (b a : Int) (l0 l1 l2 l3 : Option mx_V) (v2 v3 v4 v5 : mx_V) (S h : mx_H) (n : Int), mx_ex d 256 1566 [l0, l1, l2, l3] [(0, b), (0, a), v2, v3, v4, v5] S h n = mx_ex d 256 1567 [l0, l1, l2, l3] [(0, mx_w (a + b)), v2, v3, v4, v5] S h n) ∧
  (∀ (d : Nat) (i a : Int) (l0 l1 l2 l3 : Option mx_V) (v2 v3 v4 : mx_V) (S h : mx_H) (n : Int), mx_ex d 256 1567 [l0, l1, l2, l3] [(0, i), (2, a), v2, v3, v4] S h n = mx_gd ((S a (-2) = 20 ∨ S a (-2) = 24) ∧ 0 ≤ i ∧ i < S a (-1)) d 256 1568 [l0, l1, l2, l3] [(0, h a i), v2, v3, v4] S h n) ∧
  (∀ (d : Nat) (x : Int) (l1 l2 l3 : Option mx_V) (v0 v1 v2 v3 : mx_V) (S h : mx_H) (n : Int), mx_ex d 256 1568 [some (2, x), l1, l2, l3] [v0, v1, v2, v3] S h n = mx_ex d 256 1569 [some (2, x), l1, l2, l3] [(2, x), v0, v1, v2, v3] S h n) ∧
  (∀ (d : Nat) (x : Int) (l0 l1 l2 : Option mx_V) (v0 v1 v2 v3 v4 : mx_V) (S h : mx_H) (n : Int), mx_ex d 256 1569 [l0, l1, l2, some (0, x)] [v0, v1, v2, v3, v4] S h n = mx_ex d 256 1570 [l0, l1, l2, some (0, x)] [(0, x), v0, v1, v2, v3, v4] S h n) ∧
  (∀ (d : Nat) (l0 l1 l2 l3 : Option mx_V) (v0 v1 v2 v3 v4 v5 : mx_V) (S h : mx_H) (n : Int), mx_ex d 256 1570 [l0, l1, l2, l3] [v0, v1, v2, v3, v4, v5] S h n = mx_ex d 256 1571 [l0, l1, l2, l3] [(0, 3), v0, v1, v2, v3, v4, v5] S h n) ∧
  (∀ (d : Nat) (b a : Int) (l0 l1 l2 l3 : Option mx_V) (v2 v3 v4 v5 v6 : mx_V) (S h : mx_H) (n : Int), mx_ex d 256 1571 [l0, l1, l2, l3] [(0, b), (0, a), v2, v3, v4, v5, v6] S h n = mx_ex d 256 1572 [l0, l1, l2, l3] [(0, mx_w (a + b)), v2, v3, v4, v5, v6] S h n) ∧
  (∀ (d : Nat) (i a : Int) (l0 l1 l2 l3 : Option mx_V) (v2 v3 v4 v5 : mx_V) (S h : mx_H) (n : Int), mx_ex d 256 1572 [l0, l1, l2, l3] [(0, i), (2, a), v2, v3, v4, v5] S h n = mx_gd ((S a (-2) = 20 ∨ S a (-2) = 24) ∧ 0 ≤ i ∧ i < S a (-1)) d 256 1573 [l0, l1, l2, l3] [(0, h a i), v2, v3, v4, v5] S h n) ∧
  (∀ (d : Nat) (a : Int) (l0 l1 l2 l3 : Option mx_V) (v0 v1 v2 v4 : mx_V) (S h : mx_H) (n : Int), mx_ex (d + 1) 256 1573 [l0, l1, l2, l3] [v0, v1, v2, (2, a), v4] S h n = mx_cl (S a (-2) = 13) d 245 [(2, a), v2, v1, v0] 256 1576 [l0, l1, l2, l3] [v4] S h n) ∧
  (∀ (d : Nat) (b a : Int) (l0 l1 l2 l3 : Option mx_V) (S h : mx_H) (n : Int), mx_ex d 256 1576 [l0, l1, l2, l3] [(0, b), (0, a)] S h n = mx_br (a = b) d 256 1653 1579 [l0, l1, l2, l3] [] S h n) ∧
  (∀ (d : Nat) (l0 l1 l2 l3 : Option mx_V) (S h : mx_H) (n : Int), mx_ex d 256 1579 [l0, l1, l2, l3] [] S h n = mx_ex d 256 1580 [l0, l1, l2, l3] [(0, 0)] S h n) ∧
  (∀ (d : Nat) (x : Int) (l0 l1 l2 l3 : Option mx_V) (S h : mx_H) (n : Int), mx_ex d 256 1580 [l0, l1, l2, l3] [(0, x)] S h n = mx_re (0 ≤ x ∧ x ≤ 1) (some (0, x)) S h n) ∧
  (∀ (d : Nat) (x : Int) (l0 l2 l3 : Option mx_V) (S h : mx_H) (n : Int), mx_ex d 256 1581 [l0, some (2, x), l2, l3] [] S h n = mx_ex d 256 1582 [l0, some (2, x), l2, l3] [(2, x)] S h n) ∧
  (∀ (d : Nat) (x : Int) (l1 l2 l3 : Option mx_V) (v0 : mx_V) (S h : mx_H) (n : Int), mx_ex d 256 1582 [some (2, x), l1, l2, l3] [v0] S h n = mx_ex d 256 1583 [some (2, x), l1, l2, l3] [(2, x), v0] S h n) ∧
  (∀ (d : Nat) (x : Int) (l0 l1 l2 : Option mx_V) (v0 v1 : mx_V) (S h : mx_H) (n : Int), mx_ex d 256 1583 [l0, l1, l2, some (0, x)] [v0, v1] S h n = mx_ex d 256 1584 [l0, l1, l2, some (0, x)] [(0, x), v0, v1] S h n) ∧
  (∀ (d : Nat) (l0 l1 l2 l3 : Option mx_V) (v0 v1 v2 : mx_V) (S h : mx_H) (n : Int), mx_ex d 256 1584 [l0, l1, l2, l3] [v0, v1, v2] S h n = mx_ex d 256 1585 [l0, l1, l2, l3] [(0, 1), v0, v1, v2] S h n) ∧
  (∀ (d : Nat) (b a : Int) (l0 l1 l2 l3 : Option mx_V) (v2 v3 : mx_V) (S h : mx_H) (n : Int), mx_ex d 256 1585 [l0, l1, l2, l3] [(0, b), (0, a), v2, v3] S h n = mx_ex d 256 1586 [l0, l1, l2, l3] [(0, mx_w (a + b)), v2, v3] S h n) ∧
  (∀ (d : Nat) (i a : Int) (l0 l1 l2 l3 : Option mx_V) (v2 : mx_V) (S h : mx_H) (n : Int), mx_ex d 256 1586 [l0, l1, l2, l3] [(0, i), (2, a), v2] S h n = mx_gd ((S a (-2) = 20 ∨ S a (-2) = 24) ∧ 0 ≤ i ∧ i < S a (-1)) d 256 1587 [l0, l1, l2, l3] [(0, h a i), v2] S h n) ∧
  (∀ (d : Nat) (a : Int) (l0 l1 l2 l3 : Option mx_V) (v0 : mx_V) (S h : mx_H) (n : Int), mx_ex (d + 1) 256 1587 [l0, l1, l2, l3] [v0, (2, a)] S h n = mx_cl (S a (-2) = 7) d 140 [(2, a), v0] 256 1590 [l0, l1, l2, l3] [] S h n) ∧
  (∀ (d : Nat) (x : Int) (l0 l1 l3 : Option mx_V) (v0 : mx_V) (S h : mx_H) (n : Int), mx_ex d 256 1590 [l0, l1, some (2, x), l3] [v0] S h n = mx_ex d 256 1591 [l0, l1, some (2, x), l3] [(2, x), v0] S h n) ∧
  (∀ (d : Nat) (x : Int) (l1 l2 l3 : Option mx_V) (v0 v1 : mx_V) (S h : mx_H) (n : Int), mx_ex d 256 1591 [some (2, x), l1, l2, l3] [v0, v1] S h n = mx_ex d 256 1592 [some (2, x), l1, l2, l3] [(2, x), v0, v1] S h n) ∧
  (∀ (d : Nat) (x : Int) (l0 l1 l2 : Option mx_V) (v0 v1 v2 : mx_V) (S h : mx_H) (n : Int), mx_ex d 256 1592 [l0, l1, l2, some (0, x)] [v0, v1, v2] S h n = mx_ex d 256 1593 [l0, l1, l2, some (0, x)] [(0, x), v0, v1, v2] S h n) ∧
  (∀ (d : Nat) (l0 l1 l2 l3 : Option mx_V) (v0 v1 v2 v3 : mx_V) (S h : mx_H) (n : Int), mx_ex d 256 1593 [l0, l1, l2, l3] [v0, v1, v2, v3] S h n = mx_ex d 256 1594 [l0, l1, l2, l3] [(0, 1), v0, v1, v2, v3] S h n) ∧
  (∀ (d : Nat) (b a : Int) (l0 l1 l2 l3 : Option mx_V) (v2 v3 v4 : mx_V) (S h : mx_H) (n : Int), mx_ex d 256 1594 [l0, l1, l2, l3] [(0, b), (0, a), v2, v3, v4] S h n = mx_ex d 256 1595 [l0, l1, l2, l3] [(0, mx_w (a + b)), v2, v3, v4] S h n) ∧
  (∀ (d : Nat) (i a : Int) (l0 l1 l2 l3 : Option mx_V) (v2 v3 : mx_V) (S h : mx_H) (n : Int), mx_ex d 256 1595 [l0, l1, l2, l3] [(0, i), (2, a), v2, v3] S h n = mx_gd ((S a (-2) = 20 ∨ S a (-2) = 24) ∧ 0 ≤ i ∧ i < S a (-1)) d 256 1596 [l0, l1, l2, l3] [(0, h a i), v2, v3] S h n) ∧
  (∀ (d : Nat) (a : Int) (l0 l1 l2 l3 : Option mx_V) (v0 v2 : mx_V) (S h : mx_H) (n : Int), mx_ex (d + 1) 256 1596 [l0, l1, l2, l3] [v0, (2, a), v2] S h n = mx_cl (S a (-2) = 13) d 246 [(2, a), v0] 256 1599 [l0, l1, l2, l3] [v2] S h n) ∧
  (∀ (d : Nat) (b a : Int) (l0 l1 l2 l3 : Option mx_V) (S h : mx_H) (n : Int), mx_ex d 256 1599 [l0, l1, l2, l3] [(0, b), (0, a)] S h n = mx_br (a = b) d 256 1653 1602 [l0, l1, l2, l3] [] S h n) ∧
  (∀ (d : Nat) (l0 l1 l2 l3 : Option mx_V) (S h : mx_H) (n : Int), mx_ex d 256 1602 [l0, l1, l2, l3] [] S h n = mx_ex d 256 1603 [l0, l1, l2, l3] [(0, 0)] S h n) ∧
  (∀ (d : Nat) (x : Int) (l0 l1 l2 l3 : Option mx_V) (S h : mx_H) (n : Int), mx_ex d 256 1603 [l0, l1, l2, l3] [(0, x)] S h n = mx_re (0 ≤ x ∧ x ≤ 1) (some (0, x)) S h n) ∧
  (∀ (d : Nat) (x : Int) (l0 l2 l3 : Option mx_V) (S h : mx_H) (n : Int), mx_ex d 256 1604 [l0, some (2, x), l2, l3] [] S h n = mx_ex d 256 1605 [l0, some (2, x), l2, l3] [(2, x)] S h n) ∧
  (∀ (d : Nat) (x : Int) (l1 l2 l3 : Option mx_V) (v0 : mx_V) (S h : mx_H) (n : Int), mx_ex d 256 1605 [some (2, x), l1, l2, l3] [v0] S h n = mx_ex d 256 1606 [some (2, x), l1, l2, l3] [(2, x), v0] S h n) ∧
  (∀ (d : Nat) (x : Int) (l0 l1 l2 : Option mx_V) (v0 v1 : mx_V) (S h : mx_H) (n : Int), mx_ex d 256 1606 [l0, l1, l2, some (0, x)] [v0, v1] S h n = mx_ex d 256 1607 [l0, l1, l2, some (0, x)] [(0, x), v0, v1] S h n) ∧
  (∀ (d : Nat) (l0 l1 l2 l3 : Option mx_V) (v0 v1 v2 : mx_V) (S h : mx_H) (n : Int), mx_ex d 256 1607 [l0, l1, l2, l3] [v0, v1, v2] S h n = mx_ex d 256 1608 [l0, l1, l2, l3] [(0, 1), v0, v1, v2] S h n) ∧
  (∀ (d : Nat) (b a : Int) (l0 l1 l2 l3 : Option mx_V) (v2 v3 : mx_V) (S h : mx_H) (n : Int), mx_ex d 256 1608 [l0, l1, l2, l3] [(0, b), (0, a), v2, v3] S h n = mx_ex d 256 1609 [l0, l1, l2, l3] [(0, mx_w (a + b)), v2, v3] S h n) ∧
  (∀ (d : Nat) (i a : Int) (l0 l1 l2 l3 : Option mx_V) (v2 : mx_V) (S h : mx_H) (n : Int), mx_ex d 256 1609 [l0, l1, l2, l3] [(0, i), (2, a), v2] S h n = mx_gd ((S a (-2) = 20 ∨ S a (-2) = 24) ∧ 0 ≤ i ∧ i < S a (-1)) d 256 1610 [l0, l1, l2, l3] [(0, h a i), v2] S h n) ∧
  (∀ (d : Nat) (a : Int) (l0 l1 l2 l3 : Option mx_V) (v0 : mx_V) (S h : mx_H) (n : Int), mx_ex (d + 1) 256 1610 [l0, l1, l2, l3] [v0, (2, a)] S h n = mx_cl (S a (-2) = 7) d 141 [(2, a), v0] 256 1613 [l0, l1, l2, l3] [] S h n) ∧
  (∀ (d : Nat) (x : Int) (l0 l1 l3 : Option mx_V) (v0 : mx_V) (S h : mx_H) (n : Int), mx_ex d 256 1613 [l0, l1, some (2, x), l3] [v0] S h n = mx_ex d 256 1614 [l0, l1, some (2, x), l3] [(2, x), v0] S h n) ∧
  (∀ (d : Nat) (x : Int) (l1 l2 l3 : Option mx_V) (v0 v1 : mx_V) (S h : mx_H) (n : Int), mx_ex d 256 1614 [some (2, x), l1, l2, l3] [v0, v1] S h n = mx_ex d 256 1615 [some (2, x), l1, l2, l3] [(2, x), v0, v1] S h n) ∧
  (∀ (d : Nat) (x : Int) (l0 l1 l2 : Option mx_V) (v0 v1 v2 : mx_V) (S h : mx_H) (n : Int), mx_ex d 256 1615 [l0, l1, l2, some (0, x)] [v0, v1, v2] S h n = mx_ex d 256 1616 [l0, l1, l2, some (0, x)] [(0, x), v0, v1, v2] S h n) ∧
  (∀ (d : Nat) (l0 l1 l2 l3 : Option mx_V) (v0 v1 v2 v3 : mx_V) (S h : mx_H) (n : Int), mx_ex d 256 1616 [l0, l1, l2, l3] [v0, v1, v2, v3] S h n = mx_ex d 256 1617 [l0, l1, l2, l3] [(0, 1), v0, v1, v2, v3] S h n) ∧
  (∀ (d : Nat) (b a : Int) (l0 l1 l2 l3 : Option mx_V) (v2 v3 v4 : mx_V) (S h : mx_H) (n : Int), mx_ex d 256 1617 [l0, l1, l2, l3] [(0, b), (0, a), v2, v3, v4] S h n = mx_ex d 256 1618 [l0, l1, l2, l3] [(0, mx_w (a + b)), v2, v3, v4] S h n) ∧
  (∀ (d : Nat) (i a : Int) (l0 l1 l2 l3 : Option mx_V) (v2 v3 : mx_V) (S h : mx_H) (n : Int), mx_ex d 256 1618 [l0, l1, l2, l3] [(0, i), (2, a), v2, v3] S h n = mx_gd ((S a (-2) = 20 ∨ S a (-2) = 24) ∧ 0 ≤ i ∧ i < S a (-1)) d 256 1619 [l0, l1, l2, l3] [(0, h a i), v2, v3] S h n) ∧
  (∀ (d : Nat) (a : Int) (l0 l1 l2 l3 : Option mx_V) (v0 v2 : mx_V) (S h : mx_H) (n : Int), mx_ex (d + 1) 256 1619 [l0, l1, l2, l3] [v0, (2, a), v2] S h n = mx_cl (S a (-2) = 13) d 247 [(2, a), v0] 256 1622 [l0, l1, l2, l3] [v2] S h n) ∧
  (∀ (d : Nat) (b a : Int) (l0 l1 l2 l3 : Option mx_V) (S h : mx_H) (n : Int), mx_ex d 256 1622 [l0, l1, l2, l3] [(0, b), (0, a)] S h n = mx_br (a = b) d 256 1653 1625 [l0, l1, l2, l3] [] S h n) ∧
  (∀ (d : Nat) (l0 l1 l2 l3 : Option mx_V) (S h : mx_H) (n : Int), mx_ex d 256 1625 [l0, l1, l2, l3] [] S h n = mx_ex d 256 1626 [l0, l1, l2, l3] [(0, 0)] S h n) ∧
  (∀ (d : Nat) (x : Int) (l0 l1 l2 l3 : Option mx_V) (S h : mx_H) (n : Int), mx_ex d 256 1626 [l0, l1, l2, l3] [(0, x)] S h n = mx_re (0 ≤ x ∧ x ≤ 1) (some (0, x)) S h n) ∧
  (∀ (d : Nat) (x : Int) (l0 l2 l3 : Option mx_V) (S h : mx_H) (n : Int), mx_ex d 256 1627 [l0, some (2, x), l2, l3] [] S h n = mx_ex d 256 1628 [l0, some (2, x), l2, l3] [(2, x)] S h n) ∧
  (∀ (d : Nat) (a : Int) (l0 l1 l2 l3 : Option mx_V) (S h : mx_H) (n : Int), mx_ex (d + 1) 256 1628 [l0, l1, l2, l3] [(2, a)] S h n = mx_cl (S a (-2) = 7) d 142 [(2, a)] 256 1631 [l0, l1, l2, l3] [] S h n) ∧
  (∀ (d : Nat) (x : Int) (l0 l1 l3 : Option mx_V) (v0 : mx_V) (S h : mx_H) (n : Int), mx_ex d 256 1631 [l0, l1, some (2, x), l3] [v0] S h n = mx_ex d 256 1632 [l0, l1, some (2, x), l3] [(2, x), v0] S h n) ∧
  (∀ (d : Nat) (a : Int) (l0 l1 l2 l3 : Option mx_V) (v1 : mx_V) (S h : mx_H) (n : Int), mx_ex (d + 1) 256 1632 [l0, l1, l2, l3] [(2, a), v1] S h n = mx_cl (S a (-2) = 13) d 248 [(2, a)] 256 1635 [l0, l1, l2, l3] [v1] S h n) ∧
  (∀ (d : Nat) (b a : Int) (l0 l1 l2 l3 : Option mx_V) (S h : mx_H) (n : Int), mx_ex d 256 1635 [l0, l1, l2, l3] [(0, b), (0, a)] S h n = mx_br (a = b) d 256 1653 1638 [l0, l1, l2, l3] [] S h n) ∧
  (∀ (d : Nat) (l0 l1 l2 l3 : Option mx_V) (S h : mx_H) (n : Int), mx_ex d 256 1638 [l0, l1, l2, l3] [] S h n = mx_ex d 256 1639 [l0, l1, l2, l3] [(0, 0)] S h n) ∧
  (∀ (d : Nat) (x : Int) (l0 l1 l2 l3 : Option mx_V) (S h : mx_H) (n : Int), mx_ex d 256 1639 [l0, l1, l2, l3] [(0, x)] S h n = mx_re (0 ≤ x ∧ x ≤ 1) (some (0, x)) S h n) ∧
  (∀ (d : Nat) (x : Int) (l0 l2 l3 : Option mx_V) (S h : mx_H) (n : Int), mx_ex d 256 1640 [l0, some (2, x), l2, l3] [] S h n = mx_ex d 256 1641 [l0, some (2, x), l2, l3] [(2, x)] S h n) ∧
  (∀ (d : Nat) (a : Int) (l0 l1 l2 l3 : Option mx_V) (S h : mx_H) (n : Int), mx_ex (d + 1) 256 1641 [l0, l1, l2, l3] [(2, a)] S h n = mx_cl (S a (-2) = 7) d 143 [(2, a)] 256 1644 [l0, l1, l2, l3] [] S h n) ∧
  (∀ (d : Nat) (x : Int) (l0 l1 l3 : Option mx_V) (v0 : mx_V) (S h : mx_H) (n : Int), mx_ex d 256 1644 [l0, l1, some (2, x), l3] [v0] S h n = mx_ex d 256 1645 [l0, l1, some (2, x), l3] [(2, x), v0] S h n) ∧
  (∀ (d : Nat) (a : Int) (l0 l1 l2 l3 : Option mx_V) (v1 : mx_V) (S h : mx_H) (n : Int), mx_ex (d + 1) 256 1645 [l0, l1, l2, l3] [(2, a), v1] S h n = mx_cl (S a (-2) = 13) d 249 [(2, a)] 256 1648 [l0, l1, l2, l3] [v1] S h n) ∧
  (∀ (d : Nat) (b a : Int) (l0 l1 l2 l3 : Option mx_V) (S h : mx_H) (n : Int), mx_ex d 256 1648 [l0, l1, l2, l3] [(0, b), (0, a)] S h n = mx_br (a = b) d 256 1653 1651 [l0, l1, l2, l3] [] S h n) ∧
  (∀ (d : Nat) (l0 l1 l2 l3 : Option mx_V) (S h : mx_H) (n : Int), mx_ex d 256 1651 [l0, l1, l2, l3] [] S h n = mx_ex d 256 1652 [l0, l1, l2, l3] [(0, 0)] S h n) ∧
  (∀ (d : Nat) (x : Int) (l0 l1 l2 l3 : Option mx_V) (S h : mx_H) (n : Int), mx_ex d 256 1652 [l0, l1, l2, l3] [(0, x)] S h n = mx_re (0 ≤ x ∧ x ≤ 1) (some (0, x)) S h n) ∧
  (∀ (d : Nat) (x : Int) (l0 l1 l2 : Option mx_V) (S h : mx_H) (n : Int), mx_ex d 256 1653 [l0, l1, l2, some (0, x)] [] S h n = mx_ex d 256 1656 [l0, l1, mx_nl l2, some (0, mx_w (x + 6))] [] S h n) ∧
  (∀ (d : Nat) (l0 l1 l2 l3 : Option mx_V) (S h : mx_H) (n : Int), mx_ex d 256 1656 [l0, l1, l2, l3] [] S h n = mx_ex d 256 18 [l0, l1, l2, l3] [] S h n) ∧
  (∀ (d : Nat) (l0 l1 l2 l3 : Option mx_V) (S h : mx_H) (n : Int), mx_ex d 256 1659 [l0, l1, l2, l3] [] S h n = mx_ex d 256 1660 [l0, l1, l2, l3] [(0, 1)] S h n) ∧
  (∀ (d : Nat) (x : Int) (l0 l1 l2 l3 : Option mx_V) (S h : mx_H) (n : Int), mx_ex d 256 1660 [l0, l1, l2, l3] [(0, x)] S h n = mx_re (0 ≤ x ∧ x ≤ 1) (some (0, x)) S h n) :=
  ⟨by intros; exact eq_ld rfl rfl,
   by intros; exact eq_push rfl,
   by intros; exact eq_i2 (o := mx_add) rfl,
   by intros; exact eq_iald rfl,
   by intros; exact eq_ld rfl rfl,
   by intros; exact eq_ld rfl rfl,
   by intros; exact eq_push rfl,
   by intros; exact eq_i2 (o := mx_add) rfl,
   by intros; exact eq_iald rfl,
   by intros; exact eq_ld rfl rfl,
   by intros; exact eq_ld rfl rfl,
   by intros; exact eq_push rfl,
   by intros; exact eq_i2 (o := mx_add) rfl,
   by intros; exact eq_iald rfl,
   by intros; exact eq_cv rfl rfl (Nat.le_of_ble_eq_true rfl) rfl rfl,
   by intros; exact eq_ic0 rfl,
   by intros; exact eq_push rfl,
   by intros; exact eq_retz rfl,
   by intros; exact eq_ld rfl rfl,
   by intros; exact eq_ld rfl rfl,
   by intros; exact eq_ld rfl rfl,
   by intros; exact eq_push rfl,
   by intros; exact eq_i2 (o := mx_add) rfl,
   by intros; exact eq_iald rfl,
   by intros; exact eq_cv rfl rfl (Nat.le_of_ble_eq_true rfl) rfl rfl,
   by intros; exact eq_ld rfl rfl,
   by intros; exact eq_ld rfl rfl,
   by intros; exact eq_ld rfl rfl,
   by intros; exact eq_push rfl,
   by intros; exact eq_i2 (o := mx_add) rfl,
   by intros; exact eq_iald rfl,
   by intros; exact eq_cv rfl rfl (Nat.le_of_ble_eq_true rfl) rfl rfl,
   by intros; exact eq_ic0 rfl,
   by intros; exact eq_push rfl,
   by intros; exact eq_retz rfl,
   by intros; exact eq_ld rfl rfl,
   by intros; exact eq_ld rfl rfl,
   by intros; exact eq_ld rfl rfl,
   by intros; exact eq_push rfl,
   by intros; exact eq_i2 (o := mx_add) rfl,
   by intros; exact eq_iald rfl,
   by intros; exact eq_cv rfl rfl (Nat.le_of_ble_eq_true rfl) rfl rfl,
   by intros; exact eq_ld rfl rfl,
   by intros; exact eq_ld rfl rfl,
   by intros; exact eq_ld rfl rfl,
   by intros; exact eq_push rfl,
   by intros; exact eq_i2 (o := mx_add) rfl,
   by intros; exact eq_iald rfl,
   by intros; exact eq_cv rfl rfl (Nat.le_of_ble_eq_true rfl) rfl rfl,
   by intros; exact eq_ic0 rfl,
   by intros; exact eq_push rfl,
   by intros; exact eq_retz rfl,
   by intros; exact eq_ld rfl rfl,
   by intros; exact eq_cv rfl rfl (Nat.le_of_ble_eq_true rfl) rfl rfl,
   by intros; exact eq_ld rfl rfl,
   by intros; exact eq_cv rfl rfl (Nat.le_of_ble_eq_true rfl) rfl rfl,
   by intros; exact eq_ic0 rfl,
   by intros; exact eq_push rfl,
   by intros; exact eq_retz rfl,
   by intros; exact eq_ld rfl rfl,
   by intros; exact eq_cv rfl rfl (Nat.le_of_ble_eq_true rfl) rfl rfl,
   by intros; exact eq_ld rfl rfl,
   by intros; exact eq_cv rfl rfl (Nat.le_of_ble_eq_true rfl) rfl rfl,
   by intros; exact eq_ic0 rfl,
   by intros; exact eq_push rfl,
   by intros; exact eq_retz rfl,
   by intros; exact eq_inc rfl rfl rfl,
   by intros; exact eq_go rfl,
   by intros; exact eq_push rfl,
   by intros; exact eq_retz rfl⟩
