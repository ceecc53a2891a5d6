/-! Numbers that fit, truth as 0 and 1, reading what was written, and what a run ends with -/
theorem mx_w_id {x : Int} (h1 : -2147483648 ≤ x) (h2 : x ≤ 2147483647) : mx_w x = x := by
  unfold mx_w; simp only [Int.bmod]; split <;> omega
theorem mx_l_id {x : Int} (h1 : -9223372036854775808 ≤ x) (h2 : x ≤ 9223372036854775807) : mx_l x = x := by
  unfold mx_l; simp only [Int.bmod]; split <;> omega
theorem mx_w_in (x : Int) : -2147483648 ≤ mx_w x ∧ mx_w x ≤ 2147483647 := by
  unfold mx_w; simp only [Int.bmod]; split <;> omega
theorem mx_l_in (x : Int) : -9223372036854775808 ≤ mx_l x ∧ mx_l x ≤ 9223372036854775807 := by
  unfold mx_l; simp only [Int.bmod]; split <;> omega
noncomputable def mx_b (c : Prop) : Int := mx_if c 1 0
theorem mx_b_t {c : Prop} (q : c) : mx_b c = 1 := mx_if_t q
theorem mx_b_f {c : Prop} (q : ¬ c) : mx_b c = 0 := mx_if_f q
theorem mx_b_0 (c : Prop) : (mx_b c = 0) = ¬ c := by
  by_cases q : c
  · rw [mx_b_t q]; simp [q]
  · rw [mx_b_f q]; simp [q]
theorem mx_b_1 (c : Prop) : (mx_b c = 1) = c := by
  by_cases q : c
  · rw [mx_b_t q]; simp [q]
  · rw [mx_b_f q]; simp [q]
theorem mx_b_r (c : Prop) : (0 ≤ mx_b c ∧ mx_b c ≤ 1) = True := by
  by_cases q : c
  · rw [mx_b_t q]; simp
  · rw [mx_b_f q]; simp
theorem mx_b_w (c : Prop) : mx_w (mx_b c) = mx_b c := by
  by_cases q : c
  · rw [mx_b_t q]; rfl
  · rw [mx_b_f q]; rfl
theorem mx_b_i {c e : Prop} (q : c ↔ e) : mx_b c = mx_b e := by rw [propext q]
theorem mx_br_n {d m t f : Nat} {L : mx_L} {st : List mx_V} {S h : mx_H} {n : Int} {c : Prop} : mx_br (¬ c) d m t f L st S h n = mx_br c d m f t L st S h n := by
  by_cases q : c
  · rw [mx_br_t q, mx_br_f (fun r => r q)]
  · rw [mx_br_f q, mx_br_t q]
theorem mx_nl_0 {x : Int} : mx_nl (some (0, x)) = some (0, x) := rfl
theorem mx_nl_2 {x : Int} : mx_nl (some (2, x)) = some (2, x) := rfl
theorem mx_nl_1 {x : Int} : mx_nl (some (1, x)) = none := rfl
theorem mx_nl_n : mx_nl none = none := rfl
theorem mx_nl_l {o : Option mx_V} : mx_nl (mx_nl o) = mx_nl o := by
  cases o with
  | none => rfl
  | some v =>
    obtain ⟨t, x⟩ := v
    match t with
    | 0 => rfl
    | 1 => rfl
    | t + 2 => rfl
theorem mx_u_s {h : mx_H} {a k v : Int} : mx_u h a k v a k = v := by unfold mx_u; simp
theorem mx_u_e {h : mx_H} {a k v b j : Int} (q : b = a) (r : j = k) : mx_u h a k v b j = v := by unfold mx_u; simp [q, r]
theorem mx_u_a {h : mx_H} {a k v b : Int} (q : ¬ b = a) : mx_u h a k v b = h b := by funext j; unfold mx_u; simp [q]
theorem mx_u_k {h : mx_H} {a k v b j : Int} (q : ¬ j = k) : mx_u h a k v b j = h b j := by unfold mx_u; simp [q]
theorem mx_z_a {h : mx_H} {n b : Int} (q : ¬ b = n) : mx_z h n b = h b := by funext j; unfold mx_z; simp [q]
theorem mx_z_s {h : mx_H} {n j : Int} : mx_z h n n j = 0 := by unfold mx_z; simp
theorem mx_t_a {S : mx_H} {n t l b : Int} (q : ¬ b = n) : mx_t S n t l b = S b := by funext j; unfold mx_t; simp [q]
theorem mx_t_2 {S : mx_H} {n t l : Int} : mx_t S n t l n (-2) = t := by unfold mx_t; simp
theorem mx_t_1 {S : mx_H} {n t l : Int} : mx_t S n t l n (-1) = l := by unfold mx_t; simp
theorem mx_t_0 {S : mx_H} {n t l j : Int} (q : 0 ≤ j) : mx_t S n t l n j = -1 := by
  have h1 : ¬ j = -2 := by omega
  have h2 : ¬ j = -1 := by omega
  unfold mx_t; simp [h1, h2]
theorem mx_y_a {h : mx_H} {a i b j x c : Int} (q : ¬ c = b) : mx_y h a i b j x c = h c := by funext k; unfold mx_y; simp [q]
theorem mx_y_i {h : mx_H} {a i b j x k : Int} (q : j ≤ k) (r : k < j + x) : mx_y h a i b j x b k = h a (i + (k - j)) := by unfold mx_y; simp [q, r]
theorem mx_y_o {h : mx_H} {a i b j x k : Int} (q : k < j ∨ j + x ≤ k) : mx_y h a i b j x b k = h b k := by
  have : ¬ (j ≤ k ∧ k < j + x) := by omega
  unfold mx_y; simp [this]
theorem mx_vt_h {t k : Int} {y : Nat} {ks : List (Int × Nat)} (q : t = k) : mx_vt t ((k, y) :: ks) = some y := by rw [mx_vt, if_pos q]
theorem mx_vt_m {t k : Int} {y : Nat} {ks : List (Int × Nat)} (q : ¬ t = k) : mx_vt t ((k, y) :: ks) = mx_vt t ks := by rw [mx_vt, if_neg q]
theorem mx_cmp_0 {a b : Int} : (mx_cmp a b = 0) = (a = b) := by
  apply propext; unfold mx_cmp; split
  · omega
  · split <;> omega
theorem mx_cmp_1 {a b : Int} : (mx_cmp a b < 0) = (a < b) := by
  apply propext; unfold mx_cmp; split
  · omega
  · split <;> omega
theorem mx_cmp_2 {a b : Int} : (0 < mx_cmp a b) = (b < a) := by
  apply propext; unfold mx_cmp; split
  · omega
  · split <;> omega
theorem mx_cmp_3 {a b : Int} : (0 ≤ mx_cmp a b) = (b ≤ a) := by
  apply propext; unfold mx_cmp; split
  · omega
  · split <;> omega
theorem mx_cmp_4 {a b : Int} : (mx_cmp a b ≤ 0) = (a ≤ b) := by
  apply propext; unfold mx_cmp; split
  · omega
  · split <;> omega
/-- the run ends, and what it ends with is so -/
def mx_W (r : mx_R) (Q : Option mx_V → mx_H → mx_H → Int → Prop) : Prop := ∃ v S h n, r = some (v, S, h, n) ∧ Q v S h n
section
variable {d m pc t f : Nat} {L : mx_L} {st : List mx_V} {S h : mx_H} {n : Int} {c : Prop} {Q R : Option mx_V → mx_H → mx_H → Int → Prop} {r : mx_R}
theorem mx_W_s {v : Option mx_V} (q : Q v S h n) : mx_W (some (v, S, h, n)) Q := ⟨_, _, _, _, rfl, q⟩
theorem mx_W_b (h1 : c → mx_W (mx_ex d m t L st S h n) Q) (h2 : ¬ c → mx_W (mx_ex d m f L st S h n) Q) : mx_W (mx_br c d m t f L st S h n) Q := by
  by_cases q : c
  · rw [mx_br_t q]; exact h1 q
  · rw [mx_br_f q]; exact h2 q
theorem mx_W_r (q : mx_W r (fun v S h n => mx_W (mx_ex d m pc L (v.toList ++ st) S h n) Q)) : mx_W (mx_rt r d m pc L st) Q := by
  obtain ⟨v, S, h, n, e, q⟩ := q
  subst e; exact q
theorem mx_W_m (q : mx_W r R) (i : ∀ v S h n, R v S h n → Q v S h n) : mx_W r Q := by
  obtain ⟨v, S, h, n, e, q⟩ := q
  exact ⟨v, S, h, n, e, i _ _ _ _ q⟩
theorem mx_W_rm (q : mx_W r R) (i : ∀ v S h n, R v S h n → mx_W (mx_ex d m pc L (v.toList ++ st) S h n) Q) : mx_W (mx_rt r d m pc L st) Q := mx_W_r (mx_W_m q i)
end
/-- the shape of the reference's cells -/
def sh_M (S : mx_H) : Prop := (S 38 (-2) = 13 ∧ S 38 0 = 39 ∧ S 38 1 = 40 ∧ S 38 2 = 41 ∧ S 38 4 = 42 ∧ S 38 11 = 43 ∧ S 38 12 = 44 ∧ S 38 13 = 45 ∧ S 38 14 = 46 ∧ S 38 16 = 47 ∧ S 38 17 = 48 ∧ S 38 18 = 49 ∧ S 38 19 = 50 ∧ S 38 20 = 51 ∧ S 38 21 = 52 ∧
  S 39 (-2) = 20 ∧ S 39 (-1) = 93 ∧ S 40 (-2) = 20 ∧ S 40 (-1) = 93 ∧ S 41 (-2) = 20 ∧ S 41 (-1) = 93 ∧ S 42 (-2) = 20 ∧ S 42 (-1) = 200 ∧ S 43 (-2) = 20 ∧ S 43 (-1) = 3 ∧ S 44 (-2) = 20 ∧ S 44 (-1) = 3 ∧ S 45 (-2) = 20 ∧ S 45 (-1) = 3 ∧ S 46 (-2) = 21 ∧ S 46 (-1) = 18 ∧
  S 47 (-2) = 20 ∧ S 47 (-1) = 4 ∧ S 48 (-2) = 20 ∧ S 48 (-1) = 4 ∧ S 49 (-2) = 21 ∧ S 49 (-1) = 160 ∧ S 50 (-2) = 20 ∧ S 50 (-1) = 4 ∧ S 51 (-2) = 20 ∧ S 51 (-1) = 4 ∧ S 52 (-2) = 20 ∧ S 52 (-1) = 30)
theorem sh_M.mk {S : mx_H} (x0 : S 38 (-2) = 13 ∧ S 38 0 = 39 ∧ S 38 1 = 40 ∧ S 38 2 = 41 ∧ S 38 4 = 42 ∧ S 38 11 = 43 ∧ S 38 12 = 44 ∧ S 38 13 = 45 ∧ S 38 14 = 46 ∧ S 38 16 = 47 ∧ S 38 17 = 48 ∧ S 38 18 = 49 ∧ S 38 19 = 50 ∧ S 38 20 = 51 ∧ S 38 21 = 52 ∧
  S 39 (-2) = 20 ∧ S 39 (-1) = 93 ∧ S 40 (-2) = 20 ∧ S 40 (-1) = 93 ∧ S 41 (-2) = 20 ∧ S 41 (-1) = 93 ∧ S 42 (-2) = 20 ∧ S 42 (-1) = 200 ∧ S 43 (-2) = 20 ∧ S 43 (-1) = 3 ∧ S 44 (-2) = 20 ∧ S 44 (-1) = 3 ∧ S 45 (-2) = 20 ∧ S 45 (-1) = 3 ∧ S 46 (-2) = 21 ∧ S 46 (-1) = 18 ∧
  S 47 (-2) = 20 ∧ S 47 (-1) = 4 ∧ S 48 (-2) = 20 ∧ S 48 (-1) = 4 ∧ S 49 (-2) = 21 ∧ S 49 (-1) = 160 ∧ S 50 (-2) = 20 ∧ S 50 (-1) = 4 ∧ S 51 (-2) = 20 ∧ S 51 (-1) = 4 ∧ S 52 (-2) = 20 ∧ S 52 (-1) = 30) : sh_M S := x0
theorem sh_M.e {S : mx_H} (q : sh_M S) : S 38 (-2) = 13 ∧ S 38 0 = 39 ∧ S 38 1 = 40 ∧ S 38 2 = 41 ∧ S 38 4 = 42 ∧ S 38 11 = 43 ∧ S 38 12 = 44 ∧ S 38 13 = 45 ∧ S 38 14 = 46 ∧ S 38 16 = 47 ∧ S 38 17 = 48 ∧ S 38 18 = 49 ∧ S 38 19 = 50 ∧ S 38 20 = 51 ∧ S 38 21 = 52 ∧
  S 39 (-2) = 20 ∧ S 39 (-1) = 93 ∧ S 40 (-2) = 20 ∧ S 40 (-1) = 93 ∧ S 41 (-2) = 20 ∧ S 41 (-1) = 93 ∧ S 42 (-2) = 20 ∧ S 42 (-1) = 200 ∧ S 43 (-2) = 20 ∧ S 43 (-1) = 3 ∧ S 44 (-2) = 20 ∧ S 44 (-1) = 3 ∧ S 45 (-2) = 20 ∧ S 45 (-1) = 3 ∧ S 46 (-2) = 21 ∧ S 46 (-1) = 18 ∧
  S 47 (-2) = 20 ∧ S 47 (-1) = 4 ∧ S 48 (-2) = 20 ∧ S 48 (-1) = 4 ∧ S 49 (-2) = 21 ∧ S 49 (-1) = 160 ∧ S 50 (-2) = 20 ∧ S 50 (-1) = 4 ∧ S 51 (-2) = 20 ∧ S 51 (-1) = 4 ∧ S 52 (-2) = 20 ∧ S 52 (-1) = 30 := q
