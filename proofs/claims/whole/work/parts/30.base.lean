/-! Numbers that fit, truth as 0 and 1, and what is read where nothing was written -/
theorem mx_w_id {x : Int} (h1 : -2147483648 ≤ x) (h2 : x ≤ 2147483647) : mx_w x = x := by
  unfold mx_w; simp only [Int.bmod]; split <;> omega
theorem mx_l_id {x : Int} (h1 : -9223372036854775808 ≤ x) (h2 : x ≤ 9223372036854775807) : mx_l x = x := by
  unfold mx_l; simp only [Int.bmod]; split <;> omega
theorem mx_w_in (x : Int) : -2147483648 ≤ mx_w x ∧ mx_w x ≤ 2147483647 := by
  unfold mx_w; simp only [Int.bmod]; split <;> omega
theorem mx_l_in (x : Int) : -9223372036854775808 ≤ mx_l x ∧ mx_l x ≤ 9223372036854775807 := by
  unfold mx_l; simp only [Int.bmod]; split <;> omega
noncomputable def mx_b (c : Prop) : Int := mx_if c 1 0
theorem mx_b_t {c : Prop} (q : c) : mx_b c = 1 := mx_if_t q
theorem mx_b_f {c : Prop} (q : ¬ c) : mx_b c = 0 := mx_if_f q
theorem mx_b_0 (c : Prop) : (mx_b c = 0) = ¬ c := by
  by_cases q : c
  · rw [mx_b_t q]; simp [q]
  · rw [mx_b_f q]; simp [q]
theorem mx_b_1 (c : Prop) : (mx_b c = 1) = c := by
  by_cases q : c
  · rw [mx_b_t q]; simp [q]
  · rw [mx_b_f q]; simp [q]
theorem mx_b_r (c : Prop) : (0 ≤ mx_b c ∧ mx_b c ≤ 1) = True := by
  by_cases q : c
  · rw [mx_b_t q]; simp
  · rw [mx_b_f q]; simp
theorem mx_b_w (c : Prop) : mx_w (mx_b c) = mx_b c := by
  by_cases q : c
  · rw [mx_b_t q]; rfl
  · rw [mx_b_f q]; rfl
theorem mx_br_n {d m t f : Nat} {L : mx_L} {st : List mx_V} {S h : mx_H} {n : Int} {c : Prop} : mx_br (¬ c) d m t f L st S h n = mx_br c d m f t L st S h n := by
  by_cases q : c
  · rw [mx_br_t q, mx_br_f (fun r => r q)]
  · rw [mx_br_f q, mx_br_t q]
theorem mx_nl_0 {x : Int} : mx_nl (some (0, x)) = some (0, x) := rfl
theorem mx_nl_2 {x : Int} : mx_nl (some (2, x)) = some (2, x) := rfl
theorem mx_nl_1 {x : Int} : mx_nl (some (1, x)) = none := rfl
theorem mx_nl_n : mx_nl none = none := rfl
theorem mx_nl_l {o : Option mx_V} : mx_nl (mx_nl o) = mx_nl o := by
  cases o with
  | none => rfl
  | some v =>
    obtain ⟨t, x⟩ := v
    match t with
    | 0 => rfl
    | 1 => rfl
    | t + 2 => rfl
/-- the shape of the reference's cells -/
abbrev sh_M (S : mx_H) : Prop := S 38 (-2) = 13 ∧ S 38 0 = 39 ∧ S 38 1 = 40 ∧ S 38 2 = 41 ∧ S 38 4 = 42 ∧ S 38 11 = 43 ∧ S 38 12 = 44 ∧ S 38 13 = 45 ∧ S 38 14 = 46 ∧ S 38 16 = 47 ∧ S 38 17 = 48 ∧ S 38 18 = 49 ∧ S 38 19 = 50 ∧ S 38 20 = 51 ∧ S 38 21 = 52 ∧
  S 39 (-2) = 20 ∧ S 39 (-1) = 93 ∧ S 40 (-2) = 20 ∧ S 40 (-1) = 93 ∧ S 41 (-2) = 20 ∧ S 41 (-1) = 93 ∧ S 42 (-2) = 20 ∧ S 42 (-1) = 200 ∧ S 43 (-2) = 20 ∧ S 43 (-1) = 3 ∧ S 44 (-2) = 20 ∧ S 44 (-1) = 3 ∧ S 45 (-2) = 20 ∧ S 45 (-1) = 3 ∧ S 46 (-2) = 21 ∧ S 46 (-1) = 18 ∧
  S 47 (-2) = 20 ∧ S 47 (-1) = 4 ∧ S 48 (-2) = 20 ∧ S 48 (-1) = 4 ∧ S 49 (-2) = 21 ∧ S 49 (-1) = 160 ∧ S 50 (-2) = 20 ∧ S 50 (-1) = 4 ∧ S 51 (-2) = 20 ∧ S 51 (-1) = 4 ∧ S 52 (-2) = 20 ∧ S 52 (-1) = 30
section
variable {d : Nat} {S h : mx_H} {n : Int}
theorem c_in {v lo hi : Int} : mx_M d 159 [(0, v), (0, lo), (0, hi)] S h n = some (some (0, mx_b (lo ≤ v ∧ v ≤ hi)), S, h, n) := by
  simp only [rw_X12_in]
  refine mx_br_c (fun q => ?_) (fun q => ?_)
  · rw [mx_b_f (by omega)]; simp only [rw_X12_in, mx_re_t, Int.reduceLE, and_self]
  · simp only [rw_X12_in]
    refine mx_br_c (fun q => ?_) (fun q => ?_)
    · rw [mx_b_f (by omega)]; simp only [rw_X12_in, mx_re_t, Int.reduceLE, and_self]
    · rw [mx_b_t (by omega)]; simp only [rw_X12_in, mx_re_t, Int.reduceLE, and_self]
theorem c_its (hS : sh_M S) {a k : Int} (h0 : 0 ≤ a) (h1 : a ≤ 6) (h2 : 0 ≤ k) (h3 : k ≤ 9) (h4 : 10 * a + k ≤ 83) : mx_M d 163 [(2, 38), (0, a), (0, k)] S h n = some (some (0, h 39 (9 + 10 * a + k)), S, h, n) := by
  simp (disch := omega) only [rw_X12_its, hS, mx_gd_t, mx_gd_T, mx_w_id, Int.reduceLE, and_self, true_or, true_and]
end
