/-! One equation for each kind of instruction -/
noncomputable def mx_ex : Nat → Nat → Nat → mx_L → List mx_V → mx_H → mx_H → Int → mx_R := mx_exG mx_cd mx_ml
noncomputable def mx_rt : mx_R → Nat → Nat → Nat → mx_L → List mx_V → mx_R := mx_rtG mx_cd mx_ml
noncomputable def mx_M : Nat → Nat → List mx_V → mx_H → mx_H → Int → mx_R := mx_MG mx_cd mx_ml
noncomputable def mx_if {α : Type} (c : Prop) (x y : α) : α := @ite α c (Classical.propDecidable c) x y
theorem mx_if_t {α : Type} {c : Prop} {x y : α} (q : c) : mx_if c x y = x := if_pos q
theorem mx_if_f {α : Type} {c : Prop} {x y : α} (q : ¬ c) : mx_if c x y = y := if_neg q
/-- goes on where c holds -/
noncomputable def mx_gd (c : Prop) (d m pc : Nat) (L : mx_L) (st : List mx_V) (S h : mx_H) (n : Int) : mx_R := mx_if c (mx_ex d m pc L st S h n) none
/-- goes on at t where c holds, else at f -/
noncomputable def mx_br (c : Prop) (d m t f : Nat) (L : mx_L) (st : List mx_V) (S h : mx_H) (n : Int) : mx_R := mx_if c (mx_ex d m t L st S h n) (mx_ex d m f L st S h n)
/-- calls y where c holds -/
noncomputable def mx_cl (c : Prop) (d y : Nat) (as : List mx_V) (m pc : Nat) (L : mx_L) (st : List mx_V) (S h : mx_H) (n : Int) : mx_R := mx_if c (mx_rt (mx_M d y as S h n) (d + 1) m pc L st) none
noncomputable def mx_cu (o : Option Nat) (d : Nat) (as : List mx_V) (m pc : Nat) (L : mx_L) (st : List mx_V) (S h : mx_H) (n : Int) : mx_R := match o with
  | some y => mx_rt (mx_M d y as S h n) (d + 1) m pc L st
  | none => none
noncomputable def mx_re (c : Prop) (v : Option mx_V) (S h : mx_H) (n : Int) : mx_R := mx_if c (some (v, S, h, n)) none
noncomputable def mx_sw (x : Int) (ks : List (Int × Nat)) (d m dflt : Nat) (L : mx_L) (st : List mx_V) (S h : mx_H) (n : Int) : mx_R := mx_ex d m (mx_pick x ks dflt) L st S h n
theorem mx_ite {c : Prop} {i : Decidable c} {α : Type} {x y : α} : @ite α c i x y = mx_if c x y := by
  by_cases q : c
  · rw [if_pos q, mx_if_t q]
  · rw [if_neg q, mx_if_f q]
section
variable {d m pc pc1 t f k : Nat} {L L1 : mx_L} {st : List mx_V} {S h : mx_H} {n a b x i j v lo hi tag : Int} {c : Prop} {o : Int → Int → Int} {o1 : Int → Int} {u w : mx_V}
theorem mx_gd_t (q : c) : mx_gd c d m pc L st S h n = mx_ex d m pc L st S h n := mx_if_t q
theorem mx_br_t (q : c) : mx_br c d m t f L st S h n = mx_ex d m t L st S h n := mx_if_t q
theorem mx_br_f (q : ¬ c) : mx_br c d m t f L st S h n = mx_ex d m f L st S h n := mx_if_f q
theorem mx_cl_t {as : List mx_V} {y : Nat} (q : c) : mx_cl c d y as m pc L st S h n = mx_rt (mx_M d y as S h n) (d + 1) m pc L st := mx_if_t q
theorem mx_cu_t {as : List mx_V} {y : Nat} : mx_cu (some y) d as m pc L st S h n = mx_rt (mx_M d y as S h n) (d + 1) m pc L st := rfl
theorem mx_re_t {v : Option mx_V} (q : c) : mx_re c v S h n = some (v, S, h, n) := mx_if_t q
theorem mx_sw_h {ks : List (Int × Nat)} {dflt : Nat} (q : x = a) : mx_sw x ((a, t) :: ks) d m dflt L st S h n = mx_ex d m t L st S h n := by unfold mx_sw; rw [mx_pick, if_pos q]
theorem mx_sw_m {ks : List (Int × Nat)} {dflt : Nat} (q : ¬ x = a) : mx_sw x ((a, t) :: ks) d m dflt L st S h n = mx_sw x ks d m dflt L st S h n := by unfold mx_sw; rw [mx_pick, if_neg q]
theorem mx_sw_n {dflt : Nat} : mx_sw x [] d m dflt L st S h n = mx_ex d m dflt L st S h n := rfl
theorem mx_rt_v {v : mx_V} : mx_rt (some (some v, S, h, n)) d m pc L st = mx_ex d m pc L (v :: st) S h n := rfl
theorem mx_rt_0 : mx_rt (some (none, S, h, n)) d m pc L st = mx_ex d m pc L st S h n := rfl
theorem mx_br_c {X : mx_R} (h1 : c → mx_ex d m t L st S h n = X) (h2 : ¬ c → mx_ex d m f L st S h n = X) : mx_br c d m t f L st S h n = X := by
  by_cases q : c
  · rw [mx_br_t q]; exact h1 q
  · rw [mx_br_f q]; exact h2 q
theorem mx_gd_T : mx_gd True d m pc L st S h n = mx_ex d m pc L st S h n := mx_if_t trivial
theorem mx_br_T : mx_br True d m t f L st S h n = mx_ex d m t L st S h n := mx_if_t trivial
theorem mx_br_F : mx_br False d m t f L st S h n = mx_ex d m f L st S h n := mx_if_f id
theorem mx_cl_T {as : List mx_V} {y : Nat} : mx_cl True d y as m pc L st S h n = mx_rt (mx_M d y as S h n) (d + 1) m pc L st := mx_if_t trivial
theorem mx_re_T {v : Option mx_V} : mx_re True v S h n = some (v, S, h, n) := mx_if_t trivial
theorem mx_s1 (o : mx_S) (hc : mx_cd m pc = o) : mx_ex d m pc L st S h n = mx_goG mx_cd mx_ml d m (o L st S h n) S h n := by subst hc; exact mx_step mx_cd mx_ml d m pc L st S h n
theorem eq_push (hc : mx_cd m pc = sf_push u pc1) : mx_ex d m pc L st S h n = mx_ex d m pc1 L (u :: st) S h n := mx_s1 _ hc
theorem eq_ld (hc : mx_cd m pc = sf_ld t k pc1) (hl : L[k]? = some (some (t, x))) : mx_ex d m pc L st S h n = mx_ex d m pc1 L ((t, x) :: st) S h n := by
  rw [mx_s1 _ hc]; unfold sf_ld; rw [hl]; simp only [if_true]; rfl
theorem eq_st (hc : mx_cd m pc = sf_st t k pc1) (ht : t ≠ 1) (hk : k < L.length) (hl : mx_sto L k (t, x) = L1) : mx_ex d m pc L ((t, x) :: st) S h n = mx_ex d m pc1 L1 st S h n := by
  rw [mx_s1 _ hc]; subst hl; unfold sf_st; simp only [ht, hk, ne_eq, not_false_iff, and_self, if_true]; rfl
theorem eq_st2 (hc : mx_cd m pc = sf_st2 k pc1) (hk : k + 1 < L.length) (hl : mx_sto2 L k (1, x) = L1) : mx_ex d m pc L ((1, x) :: st) S h n = mx_ex d m pc1 L1 st S h n := by
  rw [mx_s1 _ hc]; subst hl; unfold sf_st2; simp only [hk, and_self, if_true]; rfl
theorem eq_inc (hc : mx_cd m pc = sf_inc k a pc1) (hg : L[k]? = some (some (0, x))) (hl : mx_sto L k (0, mx_w (x + a)) = L1) : mx_ex d m pc L st S h n = mx_ex d m pc1 L1 st S h n := by
  rw [mx_s1 _ hc]; subst hl; unfold sf_inc; rw [hg]; simp only [if_true]; rfl
theorem eq_i2 (hc : mx_cd m pc = sf_i2 o pc1) : mx_ex d m pc L ((0, b) :: (0, a) :: st) S h n = mx_ex d m pc1 L ((0, o a b) :: st) S h n := mx_s1 _ hc
theorem eq_gd {N : mx_N} {X : mx_R} {i : Decidable c} (e : mx_ex d m pc L st S h n = mx_goG mx_cd mx_ml d m (@ite mx_O c i (some (.inl N)) none) S h n) (e2 : mx_goG mx_cd mx_ml d m (some (.inl N)) S h n = X) : mx_ex d m pc L st S h n = mx_if c X none := by
  rw [e]
  by_cases q : c
  · rw [if_pos q, mx_if_t q]; exact e2
  · rw [if_neg q, mx_if_f q]; rfl
theorem eq_i2d (hc : mx_cd m pc = sf_i2d o pc1) : mx_ex d m pc L ((0, b) :: (0, a) :: st) S h n = mx_gd (¬ b = 0) d m pc1 L ((0, o a b) :: st) S h n := eq_gd (mx_s1 _ hc) rfl
theorem eq_i1 (hc : mx_cd m pc = sf_i1 o1 pc1) : mx_ex d m pc L ((0, a) :: st) S h n = mx_ex d m pc1 L ((0, o1 a) :: st) S h n := mx_s1 _ hc
theorem eq_l2 (hc : mx_cd m pc = sf_l2 o pc1) : mx_ex d m pc L ((1, b) :: (1, a) :: st) S h n = mx_ex d m pc1 L ((1, o a b) :: st) S h n := mx_s1 _ hc
theorem eq_l2d (hc : mx_cd m pc = sf_l2d o pc1) : mx_ex d m pc L ((1, b) :: (1, a) :: st) S h n = mx_gd (¬ b = 0) d m pc1 L ((1, o a b) :: st) S h n := eq_gd (mx_s1 _ hc) rfl
theorem eq_ls (hc : mx_cd m pc = sf_ls o pc1) : mx_ex d m pc L ((0, b) :: (1, a) :: st) S h n = mx_ex d m pc1 L ((1, o a b) :: st) S h n := mx_s1 _ hc
theorem eq_i2l (hc : mx_cd m pc = sf_i2l pc1) : mx_ex d m pc L ((0, a) :: st) S h n = mx_ex d m pc1 L ((1, a) :: st) S h n := mx_s1 _ hc
theorem eq_l2i (hc : mx_cd m pc = sf_l2i pc1) : mx_ex d m pc L ((1, a) :: st) S h n = mx_ex d m pc1 L ((0, mx_w a) :: st) S h n := mx_s1 _ hc
theorem eq_lcmp (hc : mx_cd m pc = sf_lcmp pc1) : mx_ex d m pc L ((1, b) :: (1, a) :: st) S h n = mx_ex d m pc1 L ((0, mx_cmp a b) :: st) S h n := mx_s1 _ hc
theorem eq_dup (hc : mx_cd m pc = sf_dup pc1) (hu : t ≠ 1) : mx_ex d m pc L ((t, x) :: st) S h n = mx_ex d m pc1 L ((t, x) :: (t, x) :: st) S h n := by
  rw [mx_s1 _ hc]; unfold sf_dup; simp only [hu, ne_eq, not_false_iff, if_true]; rfl
theorem eq_pop (hc : mx_cd m pc = sf_pop pc1) (hu : t ≠ 1) : mx_ex d m pc L ((t, x) :: st) S h n = mx_ex d m pc1 L st S h n := by
  rw [mx_s1 _ hc]; unfold sf_pop; simp only [hu, ne_eq, not_false_iff, if_true]; rfl
theorem eq_dx1 (hc : mx_cd m pc = sf_dx1 pc1) (hu : t ≠ 1) (hw : f ≠ 1) : mx_ex d m pc L ((t, x) :: (f, v) :: st) S h n = mx_ex d m pc1 L ((t, x) :: (f, v) :: (t, x) :: st) S h n := by
  rw [mx_s1 _ hc]; unfold sf_dx1; simp only [hu, hw, ne_eq, not_false_iff, and_self, if_true]; rfl
theorem eq_dup2 (hc : mx_cd m pc = sf_dup2 pc1) (hu : t ≠ 1) (hw : f ≠ 1) : mx_ex d m pc L ((t, x) :: (f, v) :: st) S h n = mx_ex d m pc1 L ((t, x) :: (f, v) :: (t, x) :: (f, v) :: st) S h n := by
  rw [mx_s1 _ hc]; unfold sf_dup2; simp only [hu, hw, ne_eq, not_false_iff, and_self, if_true]; rfl
theorem eq_br {pt pf : Nat} {B : Bool} (e : mx_ex d m pc L st S h n = mx_goG mx_cd mx_ml d m (mx_nx (bif B then pt else pf) L (st.drop k) S h n) S h n) (hB : B = true ↔ c) : mx_ex d m pc L st S h n = mx_br c d m pt pf L (st.drop k) S h n := by
  rw [e]
  by_cases q : c
  · rw [mx_br_t q, hB.mpr q]; rfl
  · rw [mx_br_f q]
    have : B = false := by cases hb : B with
      | true => exact absurd (hB.mp hb) q
      | false => rfl
    rw [this]; rfl
theorem eq_brn {pt pf : Nat} {B : Bool} (e : mx_ex d m pc L st S h n = mx_goG mx_cd mx_ml d m (mx_nx (bif !B then pt else pf) L (st.drop k) S h n) S h n) (hB : B = true ↔ c) : mx_ex d m pc L st S h n = mx_br c d m pf pt L (st.drop k) S h n := by
  rw [e]
  by_cases q : c
  · rw [mx_br_t q, hB.mpr q]; rfl
  · rw [mx_br_f q]
    have : B = false := by cases hb : B with
      | true => exact absurd (hB.mp hb) q
      | false => rfl
    rw [this]; rfl
theorem eq_if0 (hc : mx_cd m pc = sf_if 0 t f) : mx_ex d m pc L ((0, a) :: st) S h n = mx_br (a = 0) d m t f L st S h n := eq_br (k := 1) (mx_s1 _ hc) (by simp [mx_cc])
theorem eq_if1 (hc : mx_cd m pc = sf_if 1 t f) : mx_ex d m pc L ((0, a) :: st) S h n = mx_br (a = 0) d m f t L st S h n := eq_brn (k := 1) (mx_s1 _ hc) (by simp)
theorem eq_if2 (hc : mx_cd m pc = sf_if 2 t f) : mx_ex d m pc L ((0, a) :: st) S h n = mx_br (a < 0) d m t f L st S h n := eq_br (k := 1) (mx_s1 _ hc) (by simp [mx_cc])
theorem eq_if3 (hc : mx_cd m pc = sf_if 3 t f) : mx_ex d m pc L ((0, a) :: st) S h n = mx_br (a < 0) d m f t L st S h n := eq_brn (k := 1) (mx_s1 _ hc) (by simp)
theorem eq_if4 (hc : mx_cd m pc = sf_if 4 t f) : mx_ex d m pc L ((0, a) :: st) S h n = mx_br (0 < a) d m t f L st S h n := eq_br (k := 1) (mx_s1 _ hc) (by simp [mx_cc])
theorem eq_if5 (hc : mx_cd m pc = sf_if 5 t f) : mx_ex d m pc L ((0, a) :: st) S h n = mx_br (0 < a) d m f t L st S h n := eq_brn (k := 1) (mx_s1 _ hc) (by simp)
theorem eq_ic0 (hc : mx_cd m pc = sf_ic 0 t f) : mx_ex d m pc L ((0, b) :: (0, a) :: st) S h n = mx_br (a = b) d m t f L st S h n := eq_br (k := 2) (mx_s1 _ hc) (by simp [mx_cc])
theorem eq_ic1 (hc : mx_cd m pc = sf_ic 1 t f) : mx_ex d m pc L ((0, b) :: (0, a) :: st) S h n = mx_br (a = b) d m f t L st S h n := eq_brn (k := 2) (mx_s1 _ hc) (by simp)
theorem eq_ic2 (hc : mx_cd m pc = sf_ic 2 t f) : mx_ex d m pc L ((0, b) :: (0, a) :: st) S h n = mx_br (a < b) d m t f L st S h n := eq_br (k := 2) (mx_s1 _ hc) (by simp [mx_cc])
theorem eq_ic3 (hc : mx_cd m pc = sf_ic 3 t f) : mx_ex d m pc L ((0, b) :: (0, a) :: st) S h n = mx_br (a < b) d m f t L st S h n := eq_brn (k := 2) (mx_s1 _ hc) (by simp)
theorem eq_ic4 (hc : mx_cd m pc = sf_ic 4 t f) : mx_ex d m pc L ((0, b) :: (0, a) :: st) S h n = mx_br (b < a) d m t f L st S h n := eq_br (k := 2) (mx_s1 _ hc) (by simp [mx_cc])
theorem eq_ic5 (hc : mx_cd m pc = sf_ic 5 t f) : mx_ex d m pc L ((0, b) :: (0, a) :: st) S h n = mx_br (b < a) d m f t L st S h n := eq_brn (k := 2) (mx_s1 _ hc) (by simp)
theorem eq_nul (hc : mx_cd m pc = sf_nul t f) : mx_ex d m pc L ((2, a) :: st) S h n = mx_br (a = -1) d m t f L st S h n := by
  rw [mx_s1 _ hc]
  show mx_goG mx_cd mx_ml d m (mx_nx (if a = -1 then t else f) L st S h n) S h n = _
  by_cases q : a = -1
  · rw [mx_br_t q, if_pos q]; rfl
  · rw [mx_br_f q, if_neg q]; rfl
theorem eq_go (hc : mx_cd m pc = sf_go t) : mx_ex d m pc L st S h n = mx_ex d m t L st S h n := mx_s1 _ hc
theorem eq_sw {ks : List (Int × Nat)} (hc : mx_cd m pc = sf_sw ks t) : mx_ex d m pc L ((0, x) :: st) S h n = mx_sw x ks d m t L st S h n := mx_s1 _ hc
theorem eq_gi (hc : mx_cd m pc = sf_gi lo hi i pc1) : mx_ex d m pc L ((2, a) :: st) S h n = mx_gd (lo ≤ S a (-2) ∧ S a (-2) ≤ hi) d m pc1 L ((0, h a i) :: st) S h n := eq_gd (mx_s1 _ hc) rfl
theorem eq_gr (hc : mx_cd m pc = sf_gr lo hi i pc1) : mx_ex d m pc L ((2, a) :: st) S h n = mx_gd (lo ≤ S a (-2) ∧ S a (-2) ≤ hi) d m pc1 L ((2, S a i) :: st) S h n := eq_gd (mx_s1 _ hc) rfl
theorem eq_pi (hc : mx_cd m pc = sf_pi lo hi i pc1) : mx_ex d m pc L ((0, v) :: (2, a) :: st) S h n = mx_gd (lo ≤ S a (-2) ∧ S a (-2) ≤ hi) d m pc1 L st S (mx_u h a i v) n := eq_gd (mx_s1 _ hc) rfl
theorem eq_pz (hc : mx_cd m pc = sf_pz lo hi i pc1) : mx_ex d m pc L ((0, v) :: (2, a) :: st) S h n = mx_gd (lo ≤ S a (-2) ∧ S a (-2) ≤ hi ∧ 0 ≤ v ∧ v ≤ 1) d m pc1 L st S (mx_u h a i v) n := eq_gd (mx_s1 _ hc) rfl
theorem eq_pr (hc : mx_cd m pc = sf_pr lo hi i pc1) : mx_ex d m pc L ((2, v) :: (2, a) :: st) S h n = mx_gd (lo ≤ S a (-2) ∧ S a (-2) ≤ hi) d m pc1 L st (mx_u S a i v) h n := eq_gd (mx_s1 _ hc) rfl
theorem eq_alen (hc : mx_cd m pc = sf_alen pc1) : mx_ex d m pc L ((2, a) :: st) S h n = mx_gd (20 ≤ S a (-2) ∧ S a (-2) ≤ 25) d m pc1 L ((0, S a (-1)) :: st) S h n := eq_gd (mx_s1 _ hc) rfl
theorem eq_iald (hc : mx_cd m pc = sf_iald pc1) : mx_ex d m pc L ((0, i) :: (2, a) :: st) S h n = mx_gd ((S a (-2) = 20 ∨ S a (-2) = 24) ∧ 0 ≤ i ∧ i < S a (-1)) d m pc1 L ((0, h a i) :: st) S h n := eq_gd (mx_s1 _ hc) rfl
theorem eq_iast (hc : mx_cd m pc = sf_iast pc1) : mx_ex d m pc L ((0, v) :: (0, i) :: (2, a) :: st) S h n = mx_gd (S a (-2) = 20 ∧ 0 ≤ i ∧ i < S a (-1)) d m pc1 L st S (mx_u h a i v) n := eq_gd (mx_s1 _ hc) rfl
theorem eq_lald (hc : mx_cd m pc = sf_lald pc1) : mx_ex d m pc L ((0, i) :: (2, a) :: st) S h n = mx_gd (S a (-2) = 21 ∧ 0 ≤ i ∧ i < S a (-1)) d m pc1 L ((1, h a i) :: st) S h n := eq_gd (mx_s1 _ hc) rfl
theorem eq_last (hc : mx_cd m pc = sf_last pc1) : mx_ex d m pc L ((1, v) :: (0, i) :: (2, a) :: st) S h n = mx_gd (S a (-2) = 21 ∧ 0 ≤ i ∧ i < S a (-1)) d m pc1 L st S (mx_u h a i v) n := eq_gd (mx_s1 _ hc) rfl
theorem eq_aald (hc : mx_cd m pc = sf_aald tag pc1) : mx_ex d m pc L ((0, i) :: (2, a) :: st) S h n = mx_gd (S a (-2) = tag ∧ 0 ≤ i ∧ i < S a (-1)) d m pc1 L ((2, S a i) :: st) S h n := eq_gd (mx_s1 _ hc) rfl
theorem eq_aast (hc : mx_cd m pc = sf_aast tag lo hi pc1) : mx_ex d m pc L ((2, v) :: (0, i) :: (2, a) :: st) S h n = mx_gd (S a (-2) = tag ∧ 0 ≤ i ∧ i < S a (-1) ∧ (v = -1 ∨ lo ≤ S v (-2) ∧ S v (-2) ≤ hi)) d m pc1 L st (mx_u S a i v) h n := eq_gd (mx_s1 _ hc) rfl
theorem eq_new (hc : mx_cd m pc = sf_new tag pc1) : mx_ex d m pc L st S h n = mx_ex d m pc1 L ((2, n) :: st) (mx_t S n tag 0) (mx_z h n) (n + 1) := mx_s1 _ hc
theorem eq_newa (hc : mx_cd m pc = sf_newa tag pc1) : mx_ex d m pc L ((0, x) :: st) S h n = mx_gd (0 ≤ x ∧ x ≤ 300) d m pc1 L ((2, n) :: st) (mx_t S n tag x) (mx_z h n) (n + 1) := eq_gd (mx_s1 _ hc) rfl
theorem eq_inst (hc : mx_cd m pc = sf_inst lo hi pc1) : mx_ex d m pc L ((2, a) :: st) S h n = mx_gd (1 ≤ S a (-2) ∧ S a (-2) ≤ 6) d m pc1 L ((0, if S a (-2) = lo ∨ S a (-2) = hi then 1 else 0) :: st) S h n := eq_gd (mx_s1 _ hc) rfl
theorem eq_bald (hc : mx_cd m pc = sf_bald pc1) : mx_ex d m pc L ((0, i) :: (2, a) :: st) S h n = mx_gd (S a (-2) = 25 ∧ 0 ≤ i ∧ i < S a (-1)) d m pc1 L ((0, h a i) :: st) S h n := eq_gd (mx_s1 _ hc) rfl
theorem eq_gl {N : mx_N} {X : mx_R} {c2 c3 : Prop} {i : Decidable c3} (e : mx_ex d m pc L st S h n = mx_goG mx_cd mx_ml d m (@ite mx_O c3 i (some (.inl N)) none) S h n) (e2 : mx_goG mx_cd mx_ml d m (some (.inl N)) S h n = X) (h2 : c2) (h3 : c3 ↔ c ∧ c2) : mx_ex d m pc L st S h n = mx_if c X none := by
  rw [e]
  by_cases q : c
  · rw [if_pos (h3.mpr ⟨q, h2⟩), mx_if_t q]; exact e2
  · rw [if_neg (fun z => q (h3.mp z).1), mx_if_f q]; rfl
theorem eq_copy (hc : mx_cd m pc = sf_copy pc1) (hs : st.length ≤ 4) : mx_ex d m pc L ((0, x) :: (0, j) :: (2, b) :: (0, i) :: (2, a) :: st) S h n = mx_gd (S a (-2) = 20 ∧ S b (-2) = 20 ∧ 0 ≤ x ∧ 0 ≤ i ∧ 0 ≤ j ∧ i + x ≤ S a (-1) ∧ j + x ≤ S b (-1)) d m pc1 L st S (mx_y h a i b j x) n := eq_gl (mx_s1 _ hc) rfl hs (by simp only [and_assoc])
theorem eq_clon (hc : mx_cd m pc = sf_clon pc1) (hs : st.length ≤ 4) : mx_ex d m pc L ((2, a) :: st) S h n = mx_gd (S a (-2) = 20 ∧ S a (-1) ≤ 300) d m pc1 L ((2, n) :: st) (mx_t S n 20 (S a (-1))) (mx_y (mx_z h n) a 0 n 0 (S a (-1))) (n + 1) := eq_gl (mx_s1 _ hc) rfl hs (by simp only [and_assoc])
theorem eq_cast (hc : mx_cd m pc = sf_cast pc1) : mx_ex d m pc L ((2, a) :: st) S h n = mx_gd (S a (-2) = 20) d m pc1 L ((2, a) :: st) S h n := eq_gd (mx_s1 _ hc) rfl
theorem eq_oini (hc : mx_cd m pc = sf_oini pc1) (hs : st.length ≤ 4) : mx_ex d m pc L ((2, a) :: st) S h n = mx_gd (0 ≤ a) d m pc1 L st S h n := by
  rw [mx_s1 _ hc]
  show mx_goG mx_cd mx_ml d m (if 0 ≤ a ∧ st.length ≤ 4 then mx_nx pc1 L st S h n else none) S h n = _
  by_cases q : 0 ≤ a
  · rw [if_pos ⟨q, hs⟩, mx_gd_t q]; rfl
  · rw [if_neg (fun r => q r.1)]; unfold mx_gd; rw [mx_if_f q]; rfl
theorem eq_m2 (hc : mx_cd m pc = sf_m2 o pc1) (hs : st.length ≤ 4) : mx_ex d m pc L ((0, b) :: (0, a) :: st) S h n = mx_ex d m pc1 L ((0, o a b) :: st) S h n := by
  rw [mx_s1 _ hc]; unfold sf_m2; simp only [hs, if_true]; rfl
theorem eq_ml (hc : mx_cd m pc = sf_ml o pc1) (hs : st.length ≤ 4) : mx_ex d m pc L ((1, b) :: (1, a) :: st) S h n = mx_ex d m pc1 L ((1, o a b) :: st) S h n := by
  rw [mx_s1 _ hc]; unfold sf_ml; simp only [hs, if_true]; rfl
theorem eq_cs {y : Nat} {ts : List Nat} {as : List mx_V} {st1 : List mx_V} (hc : mx_cd m pc = sf_cs ts y pc1) (hk : ts.length ≤ st.length) (ha : (st.take ts.length).reverse = as) (ht : as.map Prod.fst = ts) (hr : st.drop ts.length = st1) (h4 : st1.length ≤ 4) : mx_ex (d + 1) m pc L st S h n = mx_rt (mx_M d y as S h n) (d + 1) m pc1 L st1 := by
  rw [mx_s1 _ hc]; subst hr; unfold sf_cs; rw [ha, if_pos ⟨hk, ht, h4⟩]; rfl
theorem eq_cv {y : Nat} {ts : List Nat} {as : List mx_V} {st1 : List mx_V} (hc : mx_cd m pc = sf_cv tag ts y pc1) (hk : ts.length ≤ st.length) (ha : (st.take ts.length).reverse = (2, a) :: as) (ht : ((2, a) :: as).map Prod.fst = ts) (hr : st.drop ts.length = st1) (h4 : st1.length ≤ 4) : mx_ex (d + 1) m pc L st S h n = mx_cl (S a (-2) = tag) d y ((2, a) :: as) m pc1 L st1 S h n := by
  rw [mx_s1 _ hc]; subst hr; unfold sf_cv; rw [ha]
  by_cases q : S a (-2) = tag
  · rw [mx_cl_t q]; simp only []; rw [if_pos ⟨q, hk, ht, h4⟩]; rfl
  · unfold mx_cl; rw [mx_if_f q]; simp only []; rw [if_neg (fun r => q r.1)]; rfl
theorem eq_ci {y : Nat} {ts : List Nat} {as : List mx_V} {st1 : List mx_V} (hc : mx_cd m pc = sf_ci lo hi ts y pc1) (hk : ts.length ≤ st.length) (ha : (st.take ts.length).reverse = (2, a) :: as) (ht : ((2, a) :: as).map Prod.fst = ts) (hr : st.drop ts.length = st1) (h4 : st1.length ≤ 4) : mx_ex (d + 1) m pc L st S h n = mx_cl (lo ≤ S a (-2) ∧ S a (-2) ≤ hi) d y ((2, a) :: as) m pc1 L st1 S h n := by
  rw [mx_s1 _ hc]; subst hr; unfold sf_ci; rw [ha]
  by_cases q : lo ≤ S a (-2) ∧ S a (-2) ≤ hi
  · rw [mx_cl_t q]; simp only []; rw [if_pos ⟨q, hk, ht, h4⟩]; rfl
  · unfold mx_cl; rw [mx_if_f q]; simp only []; rw [if_neg (fun r => q r.1)]; rfl
theorem eq_cu {vt : List (Int × Nat)} {ts : List Nat} {as : List mx_V} {st1 : List mx_V} (hc : mx_cd m pc = sf_cu vt ts pc1) (hk : ts.length ≤ st.length) (ha : (st.take ts.length).reverse = (2, a) :: as) (ht : ((2, a) :: as).map Prod.fst = ts) (hr : st.drop ts.length = st1) (h4 : st1.length ≤ 4) : mx_ex (d + 1) m pc L st S h n = mx_cu (mx_vt (S a (-2)) vt) d ((2, a) :: as) m pc1 L st1 S h n := by
  rw [mx_s1 _ hc]; subst hr; unfold sf_cu; rw [ha]
  simp only []
  cases q : mx_vt (S a (-2)) vt with
  | none => rfl
  | some y => simp only []; rw [if_pos ⟨hk, ht, h4⟩]; rfl
theorem eq_ret (hc : mx_cd m pc = sf_ret t) : mx_ex d m pc L [(t, x)] S h n = some (some (t, x), S, h, n) := by
  rw [mx_s1 _ hc]; unfold sf_ret; simp only [if_true]; rfl
theorem eq_rr (hc : mx_cd m pc = sf_rr lo hi) : mx_ex d m pc L [(0, x)] S h n = mx_re (lo ≤ x ∧ x ≤ hi) (some (0, x)) S h n := by
  rw [mx_s1 _ hc]
  show mx_goG mx_cd mx_ml d m (if lo ≤ x ∧ x ≤ hi then some (.inr (.inr (some (0, x)))) else none) S h n = _
  by_cases q : lo ≤ x ∧ x ≤ hi
  · rw [if_pos q, mx_re_t q]; rfl
  · rw [if_neg q]; unfold mx_re; rw [mx_if_f q]; rfl
theorem eq_retv (hc : mx_cd m pc = sf_retv) : mx_ex d m pc L [] S h n = some (none, S, h, n) := mx_s1 _ hc
end
