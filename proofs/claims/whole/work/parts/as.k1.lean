/-! A run leaves alone what was there before the law -/
/-- the given rows stay, and so do kinds -/
def ng_P (S h : mx_H) (n : Int) (T g : mx_H) : Prop := (∀ a, a < 0 → T a = S a ∧ g a = h a) ∧ ∀ a, a < n → T a (-2) = S a (-2)
def ng_T (S : mx_H) : Prop := ∀ a, a < 0 → S a (-2) = 0 ∨ 24 ≤ S a (-2)
def ng_S (f : mx_S) : Prop := ∀ (L : mx_L) (st : List mx_V) (S h : mx_H) (n : Int) (q : mx_N), f L st S h n = some (.inl q) → 0 ≤ n → ng_T S → ng_P S h n q.2.2.2.1 q.2.2.2.2.1
theorem ng_no : ng_S mx_no := fun _ _ _ _ _ _ e => by cases e
theorem ng_bf {b : Bool} {f g : mx_S} (hf : ng_S f) (hg : ng_S g) : ng_S (bif b then f else g) := by cases b <;> assumption
theorem ng_bg {pc : Nat} {b : Bool} {f g : Nat → mx_S} (hf : ng_S (f pc)) (hg : ng_S (g pc)) : ng_S ((bif b then f else g) pc) := by cases b <;> assumption
theorem ng_0 {L : mx_L} {st : List mx_V} {S h : mx_H} {n n1 : Int} {pc : Nat} {q : mx_N} (e : mx_nx pc L st S h n1 = some (.inl q)) : ng_P S h n q.2.2.2.1 q.2.2.2.2.1 := by cases e; exact ⟨fun _ _ => ⟨rfl, rfl⟩, fun _ _ => rfl⟩
theorem ng_1 {L : mx_L} {st : List mx_V} {S h T g : mx_H} {n n1 : Int} {pc : Nat} {q : mx_N} (z : ng_P S h n T g) (e : mx_nx pc L st T g n1 = some (.inl q)) : ng_P S h n q.2.2.2.1 q.2.2.2.2.1 := by cases e; exact z
theorem ng_uh {S h : mx_H} {n a k v : Int} (t : ng_T S) (q : 1 ≤ S a (-2) ∧ S a (-2) ≤ 23) : ng_P S h n S (mx_u h a k v) := by
  refine ⟨fun b b0 => ⟨rfl, ?_⟩, fun _ _ => rfl⟩
  have ne : ¬ b = a := fun z => by subst z; have := t b b0; omega
  funext j; unfold mx_u; rw [if_neg (fun z => ne z.1)]
theorem ng_uS {S h : mx_H} {n a k v : Int} (t : ng_T S) (q : 1 ≤ S a (-2) ∧ S a (-2) ≤ 23) (k0 : 0 ≤ k) : ng_P S h n (mx_u S a k v) h := by
  refine ⟨fun b b0 => ⟨?_, rfl⟩, fun b _ => ?_⟩
  · have ne : ¬ b = a := fun z => by subst z; have := t b b0; omega
    funext j; unfold mx_u; rw [if_neg (fun z => ne z.1)]
  · unfold mx_u; rw [if_neg (by omega)]
theorem ng_yh {S h : mx_H} {n a i b j k : Int} (t : ng_T S) (q : S b (-2) = 20) : ng_P S h n S (mx_y h a i b j k) := by
  refine ⟨fun c c0 => ⟨rfl, ?_⟩, fun _ _ => rfl⟩
  have ne : ¬ c = b := fun z => by subst z; have := t c c0; omega
  funext l; unfold mx_y; rw [if_neg (fun z => ne z.1)]
theorem ng_tz {S h : mx_H} {n g l : Int} (n0 : 0 ≤ n) : ng_P S h n (mx_t S n g l) (mx_z h n) := by
  refine ⟨fun b b0 => ⟨?_, ?_⟩, fun b b0 => ?_⟩
  · funext j; unfold mx_t; rw [if_neg (by omega)]
  · funext j; unfold mx_z; rw [if_neg (by omega)]
  · unfold mx_t; rw [if_neg (by omega)]
theorem ng_tc {S h : mx_H} {n g l a k : Int} (n0 : 0 ≤ n) : ng_P S h n (mx_t S n g l) (mx_y (mx_z h n) a 0 n 0 k) := by
  refine ⟨fun b b0 => ⟨?_, ?_⟩, fun b b0 => ?_⟩
  · funext j; unfold mx_t; rw [if_neg (by omega)]
  · funext j; unfold mx_y mx_z; rw [if_neg (by omega), if_neg (by omega)]
  · unfold mx_t; rw [if_neg (by omega)]
theorem ng_push {u : mx_V} {pc : Nat} : ng_S (sf_push u pc) := fun _ _ _ _ _ _ e _ _ => ng_0 e
theorem ng_go {t : Nat} : ng_S (sf_go t) := fun _ _ _ _ _ _ e _ _ => ng_0 e
theorem ng_new {t : Int} {pc : Nat} : ng_S (sf_new t pc) := fun _ _ _ _ _ _ e n0 _ => ng_1 (ng_tz n0) e
theorem ng_inst {lo hi : Int} {pc : Nat} : ng_S (sf_inst lo hi pc) := by
  intro L st S h n q e n0 t; unfold sf_inst at e
  split at e
  · rename_i a st1
    by_cases w : 1 ≤ S a (-2) ∧ S a (-2) ≤ 6
    · rw [if_pos w] at e; exact ng_0 e
    · rw [if_neg w] at e; cases e
  · cases e
theorem ng_ld {tt k pc : Nat} : ng_S (sf_ld tt k pc) := by
  intro L st S h n q e n0 t; unfold sf_ld at e
  (repeat' split at e) <;> first | exact ng_0 e | cases e
theorem ng_st {tt k pc : Nat} : ng_S (sf_st tt k pc) := by
  intro L st S h n q e n0 t; unfold sf_st at e
  (repeat' split at e) <;> first | exact ng_0 e | cases e
theorem ng_st2 {k pc : Nat} : ng_S (sf_st2 k pc) := by
  intro L st S h n q e n0 t; unfold sf_st2 at e
  (repeat' split at e) <;> first | exact ng_0 e | cases e
theorem ng_inc {k pc : Nat} {c : Int} : ng_S (sf_inc k c pc) := by
  intro L st S h n q e n0 t; unfold sf_inc at e
  (repeat' split at e) <;> first | exact ng_0 e | cases e
theorem ng_i2 {o : Int → Int → Int} {pc : Nat} : ng_S (sf_i2 o pc) := by
  intro L st S h n q e n0 t; unfold sf_i2 at e
  (repeat' split at e) <;> first | exact ng_0 e | cases e
theorem ng_i2d {o : Int → Int → Int} {pc : Nat} : ng_S (sf_i2d o pc) := by
  intro L st S h n q e n0 t; unfold sf_i2d at e
  (repeat' split at e) <;> first | exact ng_0 e | cases e
theorem ng_m2 {o : Int → Int → Int} {pc : Nat} : ng_S (sf_m2 o pc) := by
  intro L st S h n q e n0 t; unfold sf_m2 at e
  (repeat' split at e) <;> first | exact ng_0 e | cases e
theorem ng_ml {o : Int → Int → Int} {pc : Nat} : ng_S (sf_ml o pc) := by
  intro L st S h n q e n0 t; unfold sf_ml at e
  (repeat' split at e) <;> first | exact ng_0 e | cases e
theorem ng_i1 {o : Int → Int} {pc : Nat} : ng_S (sf_i1 o pc) := by
  intro L st S h n q e n0 t; unfold sf_i1 at e
  (repeat' split at e) <;> first | exact ng_0 e | cases e
theorem ng_l2 {o : Int → Int → Int} {pc : Nat} : ng_S (sf_l2 o pc) := by
  intro L st S h n q e n0 t; unfold sf_l2 at e
  (repeat' split at e) <;> first | exact ng_0 e | cases e
theorem ng_l2d {o : Int → Int → Int} {pc : Nat} : ng_S (sf_l2d o pc) := by
  intro L st S h n q e n0 t; unfold sf_l2d at e
  (repeat' split at e) <;> first | exact ng_0 e | cases e
theorem ng_ls {o : Int → Int → Int} {pc : Nat} : ng_S (sf_ls o pc) := by
  intro L st S h n q e n0 t; unfold sf_ls at e
  (repeat' split at e) <;> first | exact ng_0 e | cases e
theorem ng_i2l {pc : Nat} : ng_S (sf_i2l pc) := by
  intro L st S h n q e n0 t; unfold sf_i2l at e
  (repeat' split at e) <;> first | exact ng_0 e | cases e
theorem ng_l2i {pc : Nat} : ng_S (sf_l2i pc) := by
  intro L st S h n q e n0 t; unfold sf_l2i at e
  (repeat' split at e) <;> first | exact ng_0 e | cases e
theorem ng_lcmp {pc : Nat} : ng_S (sf_lcmp pc) := by
  intro L st S h n q e n0 t; unfold sf_lcmp at e
  (repeat' split at e) <;> first | exact ng_0 e | cases e
theorem ng_dup {pc : Nat} : ng_S (sf_dup pc) := by
  intro L st S h n q e n0 t; unfold sf_dup at e
  (repeat' split at e) <;> first | exact ng_0 e | cases e
theorem ng_pop {pc : Nat} : ng_S (sf_pop pc) := by
  intro L st S h n q e n0 t; unfold sf_pop at e
  (repeat' split at e) <;> first | exact ng_0 e | cases e
theorem ng_dx1 {pc : Nat} : ng_S (sf_dx1 pc) := by
  intro L st S h n q e n0 t; unfold sf_dx1 at e
  (repeat' split at e) <;> first | exact ng_0 e | cases e
theorem ng_dup2 {pc : Nat} : ng_S (sf_dup2 pc) := by
  intro L st S h n q e n0 t; unfold sf_dup2 at e
  (repeat' split at e) <;> first | exact ng_0 e | cases e
theorem ng_if {o tt f : Nat} : ng_S (sf_if o tt f) := by
  intro L st S h n q e n0 t; unfold sf_if at e
  (repeat' split at e) <;> first | exact ng_0 e | cases e
theorem ng_ic {o tt f : Nat} : ng_S (sf_ic o tt f) := by
  intro L st S h n q e n0 t; unfold sf_ic at e
  (repeat' split at e) <;> first | exact ng_0 e | cases e
theorem ng_nul {tt f : Nat} : ng_S (sf_nul tt f) := by
  intro L st S h n q e n0 t; unfold sf_nul at e
  (repeat' split at e) <;> first | exact ng_0 e | cases e
theorem ng_sw {ks : List (Int × Nat)} {tt : Nat} : ng_S (sf_sw ks tt) := by
  intro L st S h n q e n0 t; unfold sf_sw at e
  (repeat' split at e) <;> first | exact ng_0 e | cases e
theorem ng_gi {lo hi k : Int} {pc : Nat} : ng_S (sf_gi lo hi k pc) := by
  intro L st S h n q e n0 t; unfold sf_gi at e
  (repeat' split at e) <;> first | exact ng_0 e | cases e
theorem ng_gr {lo hi k : Int} {pc : Nat} : ng_S (sf_gr lo hi k pc) := by
  intro L st S h n q e n0 t; unfold sf_gr at e
  (repeat' split at e) <;> first | exact ng_0 e | cases e
theorem ng_pi {lo hi k : Int} {pc : Nat} (c : 1 ≤ lo ∧ hi ≤ 19 := by decide) : ng_S (sf_pi lo hi k pc) := by
  intro L st S h n q e n0 t; unfold sf_pi at e
  (repeat' split at e) <;> first | exact ng_1 (ng_uh t (by omega)) e | cases e
theorem ng_pz {lo hi k : Int} {pc : Nat} (c : 1 ≤ lo ∧ hi ≤ 19 := by decide) : ng_S (sf_pz lo hi k pc) := by
  intro L st S h n q e n0 t; unfold sf_pz at e
  (repeat' split at e) <;> first | exact ng_1 (ng_uh t (by omega)) e | cases e
theorem ng_pr {lo hi k : Int} {pc : Nat} (c : 1 ≤ lo ∧ hi ≤ 19 ∧ 0 ≤ k := by decide) : ng_S (sf_pr lo hi k pc) := by
  intro L st S h n q e n0 t; unfold sf_pr at e
  (repeat' split at e) <;> first | exact ng_1 (ng_uS t (by omega) c.2.2) e | cases e
theorem ng_alen {pc : Nat} : ng_S (sf_alen pc) := by
  intro L st S h n q e n0 t; unfold sf_alen at e
  (repeat' split at e) <;> first | exact ng_0 e | cases e
theorem ng_iald {pc : Nat} : ng_S (sf_iald pc) := by
  intro L st S h n q e n0 t; unfold sf_iald at e
  (repeat' split at e) <;> first | exact ng_0 e | cases e
theorem ng_iast {pc : Nat} : ng_S (sf_iast pc) := by
  intro L st S h n q e n0 t; unfold sf_iast at e
  (repeat' split at e) <;> first | exact ng_1 (ng_uh t (by omega)) e | cases e
theorem ng_lald {pc : Nat} : ng_S (sf_lald pc) := by
  intro L st S h n q e n0 t; unfold sf_lald at e
  (repeat' split at e) <;> first | exact ng_0 e | cases e
theorem ng_last {pc : Nat} : ng_S (sf_last pc) := by
  intro L st S h n q e n0 t; unfold sf_last at e
  (repeat' split at e) <;> first | exact ng_1 (ng_uh t (by omega)) e | cases e
theorem ng_bald {pc : Nat} : ng_S (sf_bald pc) := by
  intro L st S h n q e n0 t; unfold sf_bald at e
  (repeat' split at e) <;> first | exact ng_0 e | cases e
theorem ng_aald {tt : Int} {pc : Nat} : ng_S (sf_aald tt pc) := by
  intro L st S h n q e n0 t; unfold sf_aald at e
  (repeat' split at e) <;> first | exact ng_0 e | cases e
theorem ng_aast {tg lo hi : Int} {pc : Nat} (c : 20 ≤ tg ∧ tg ≤ 23 := by decide) : ng_S (sf_aast tg lo hi pc) := by
  intro L st S h n q e n0 t; unfold sf_aast at e
  (repeat' split at e) <;> first | exact ng_1 (ng_uS t (by omega) (by omega)) e | cases e
theorem ng_newa {tg : Int} {pc : Nat} : ng_S (sf_newa tg pc) := by
  intro L st S h n q e n0 t; unfold sf_newa at e
  (repeat' split at e) <;> first | exact ng_1 (ng_tz n0) e | cases e
theorem ng_copy {pc : Nat} : ng_S (sf_copy pc) := by
  intro L st S h n q e n0 t; unfold sf_copy at e
  (repeat' split at e) <;> first | exact ng_1 (ng_yh t (by omega)) e | cases e
theorem ng_clon {pc : Nat} : ng_S (sf_clon pc) := by
  intro L st S h n q e n0 t; unfold sf_clon at e
  (repeat' split at e) <;> first | exact ng_1 (ng_tc n0) e | cases e
theorem ng_cast {pc : Nat} : ng_S (sf_cast pc) := by
  intro L st S h n q e n0 t; unfold sf_cast at e
  (repeat' split at e) <;> first | exact ng_0 e | cases e
theorem ng_oini {pc : Nat} : ng_S (sf_oini pc) := by
  intro L st S h n q e n0 t; unfold sf_oini at e
  (repeat' split at e) <;> first | exact ng_0 e | cases e
theorem ng_cs {ts : List Nat} {y pc : Nat} : ng_S (sf_cs ts y pc) := by
  intro L st S h n q e n0 t; unfold sf_cs at e
  (repeat' split at e) <;> first | exact ng_0 e | cases e
theorem ng_cv {tt : Int} {ts : List Nat} {y pc : Nat} : ng_S (sf_cv tt ts y pc) := by
  intro L st S h n q e n0 t; unfold sf_cv at e
  (repeat' split at e) <;> first | exact ng_0 e | cases e
theorem ng_ci {lo hi : Int} {ts : List Nat} {y pc : Nat} : ng_S (sf_ci lo hi ts y pc) := by
  intro L st S h n q e n0 t; unfold sf_ci at e
  (repeat' split at e) <;> first | exact ng_0 e | cases e
theorem ng_cu {vt : List (Int × Nat)} {ts : List Nat} {pc : Nat} : ng_S (sf_cu vt ts pc) := by
  intro L st S h n q e n0 t; unfold sf_cu at e
  (repeat' split at e) <;> first | exact ng_0 e | cases e
theorem ng_ret {tt : Nat} : ng_S (sf_ret tt) := by
  intro L st S h n q e n0 t; unfold sf_ret at e
  (repeat' split at e) <;> first | exact ng_0 e | cases e
theorem ng_rr {lo hi : Int} : ng_S (sf_rr lo hi) := by
  intro L st S h n q e n0 t; unfold sf_rr at e
  (repeat' split at e) <;> first | exact ng_0 e | cases e
theorem ng_retv : ng_S sf_retv := by
  intro L st S h n q e n0 t; unfold sf_retv at e
  (repeat' split at e) <;> cases e
theorem ng_t {S h T g U k : mx_H} {n m : Int} (a : ng_P S h n T g) (b : ng_P T g m U k) (nm : n ≤ m) : ng_P S h n U k := ⟨fun q z => ⟨(b.1 q z).1.trans (a.1 q z).1, (b.1 q z).2.trans (a.1 q z).2⟩, fun q z => (b.2 q (by omega)).trans (a.2 q z)⟩
theorem ng_c {S h T g : mx_H} {n : Int} (a : ng_P S h n T g) (t : ng_T S) : ng_T T := fun q z => by rw [(a.1 q z).1]; exact t q z
theorem ng_rn (hng : ∀ M pc, ng_S (mx_cd M pc)) : ∀ (f d M pc : Nat) (L : mx_L) (st : List mx_V) (S h : mx_H) (n : Int) (v : Option mx_V) (S1 h1 : mx_H) (n1 : Int), mx_rn mx_cd mx_ml f d M pc L st S h n = some (v, S1, h1, n1) → 0 ≤ n → ng_T S → ng_P S h n S1 h1 := by
  intro f
  induction f with
  | zero => intro d M pc L st S h n v S1 h1 n1 hr; simp [mx_rn] at hr
  | succ f ih =>
    intro d M pc L st S h n v S1 h1 n1 hr n0 t
    rw [mx_rn] at hr
    cases ho : mx_cd M pc L st S h n with
    | none => rw [ho] at hr; cases hr
    | some o =>
      rw [ho] at hr
      cases o with
      | inl q =>
        have a := hng M pc L st S h n q ho n0 t
        have b := st_mo M pc L st S h n q ho
        obtain ⟨pc1, L1, st1, S2, h2, n2⟩ := q
        have b : n ≤ n2 := b
        exact ng_t a (ih _ _ _ _ _ _ _ _ _ _ _ _ hr (by omega) (ng_c a t)) b
      | inr o =>
        cases o with
        | inl q =>
          obtain ⟨y, as, pc1, L1, st1⟩ := q
          cases d with
          | zero => cases hr
          | succ d =>
            simp only at hr
            cases hc : mx_rn mx_cd mx_ml f d y 0 (mx_lay as (mx_ml y)) [] S h n with
            | none => rw [hc] at hr; cases hr
            | some q =>
              obtain ⟨v2, S2, h2, n2⟩ := q
              rw [hc] at hr
              have a := ih _ _ _ _ _ _ _ _ _ _ _ _ hc n0 t
              have b := mo_rn st_mo _ _ _ _ _ _ _ _ _ _ _ _ _ hc
              exact ng_t a (ih _ _ _ _ _ _ _ _ _ _ _ _ hr (by omega) (ng_c a t)) b
        | inr u => cases hr; exact ⟨fun _ _ => ⟨rfl, rfl⟩, fun _ _ => rfl⟩
