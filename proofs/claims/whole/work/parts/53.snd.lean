/-! The run of the machine is a run of the real one -/
/-- a step doesn't take cells away -/
def mo_S (f : mx_S) : Prop := ∀ (L : mx_L) (st : List mx_V) (S h : mx_H) (n : Int) (q : mx_N), f L st S h n = some (.inl q) → n ≤ q.2.2.2.2.2
theorem mo_no : mo_S mx_no := fun _ _ _ _ _ _ e => by cases e
theorem mo_bf {b : Bool} {f g : mx_S} (hf : mo_S f) (hg : mo_S g) : mo_S (bif b then f else g) := by cases b <;> assumption
theorem mo_nx {L : mx_L} {st : List mx_V} {S h : mx_H} {n n1 : Int} {pc : Nat} {q : mx_N} (hn : n ≤ n1) (e : mx_nx pc L st S h n1 = some (.inl q)) : n ≤ q.2.2.2.2.2 := by cases e; exact hn
theorem mo_push {u : mx_V} {pc : Nat} : mo_S (sf_push u pc) := fun _ _ _ _ _ _ e => mo_nx (Int.le_refl _) e
theorem mo_go {t : Nat} : mo_S (sf_go t) := fun _ _ _ _ _ _ e => mo_nx (Int.le_refl _) e
theorem mo_new {t : Int} {pc : Nat} : mo_S (sf_new t pc) := fun _ _ _ _ n _ e => mo_nx (by omega) e
theorem mo_ld {t k pc : Nat} : mo_S (sf_ld t k pc) := by
  intro L st S h n q e; unfold sf_ld at e
  (repeat' split at e) <;> first | exact mo_nx (Int.le_refl _) e | cases e
theorem mo_st {t k pc : Nat} : mo_S (sf_st t k pc) := by
  intro L st S h n q e; unfold sf_st at e
  (repeat' split at e) <;> first | exact mo_nx (Int.le_refl _) e | cases e
theorem mo_st2 {k pc : Nat} : mo_S (sf_st2 k pc) := by
  intro L st S h n q e; unfold sf_st2 at e
  (repeat' split at e) <;> first | exact mo_nx (Int.le_refl _) e | cases e
theorem mo_inc {k pc : Nat} {c : Int} : mo_S (sf_inc k c pc) := by
  intro L st S h n q e; unfold sf_inc at e
  (repeat' split at e) <;> first | exact mo_nx (Int.le_refl _) e | cases e
theorem mo_i2 {o : Int → Int → Int} {pc : Nat} : mo_S (sf_i2 o pc) := by
  intro L st S h n q e; unfold sf_i2 at e
  (repeat' split at e) <;> first | exact mo_nx (Int.le_refl _) e | cases e
theorem mo_i2d {o : Int → Int → Int} {pc : Nat} : mo_S (sf_i2d o pc) := by
  intro L st S h n q e; unfold sf_i2d at e
  (repeat' split at e) <;> first | exact mo_nx (Int.le_refl _) e | cases e
theorem mo_m2 {o : Int → Int → Int} {pc : Nat} : mo_S (sf_m2 o pc) := by
  intro L st S h n q e; unfold sf_m2 at e
  (repeat' split at e) <;> first | exact mo_nx (Int.le_refl _) e | cases e
theorem mo_ml {o : Int → Int → Int} {pc : Nat} : mo_S (sf_ml o pc) := by
  intro L st S h n q e; unfold sf_ml at e
  (repeat' split at e) <;> first | exact mo_nx (Int.le_refl _) e | cases e
theorem mo_i1 {o : Int → Int} {pc : Nat} : mo_S (sf_i1 o pc) := by
  intro L st S h n q e; unfold sf_i1 at e
  (repeat' split at e) <;> first | exact mo_nx (Int.le_refl _) e | cases e
theorem mo_l2 {o : Int → Int → Int} {pc : Nat} : mo_S (sf_l2 o pc) := by
  intro L st S h n q e; unfold sf_l2 at e
  (repeat' split at e) <;> first | exact mo_nx (Int.le_refl _) e | cases e
theorem mo_l2d {o : Int → Int → Int} {pc : Nat} : mo_S (sf_l2d o pc) := by
  intro L st S h n q e; unfold sf_l2d at e
  (repeat' split at e) <;> first | exact mo_nx (Int.le_refl _) e | cases e
theorem mo_ls {o : Int → Int → Int} {pc : Nat} : mo_S (sf_ls o pc) := by
  intro L st S h n q e; unfold sf_ls at e
  (repeat' split at e) <;> first | exact mo_nx (Int.le_refl _) e | cases e
theorem mo_i2l {pc : Nat} : mo_S (sf_i2l pc) := by
  intro L st S h n q e; unfold sf_i2l at e
  (repeat' split at e) <;> first | exact mo_nx (Int.le_refl _) e | cases e
theorem mo_l2i {pc : Nat} : mo_S (sf_l2i pc) := by
  intro L st S h n q e; unfold sf_l2i at e
  (repeat' split at e) <;> first | exact mo_nx (Int.le_refl _) e | cases e
theorem mo_lcmp {pc : Nat} : mo_S (sf_lcmp pc) := by
  intro L st S h n q e; unfold sf_lcmp at e
  (repeat' split at e) <;> first | exact mo_nx (Int.le_refl _) e | cases e
theorem mo_dup {pc : Nat} : mo_S (sf_dup pc) := by
  intro L st S h n q e; unfold sf_dup at e
  (repeat' split at e) <;> first | exact mo_nx (Int.le_refl _) e | cases e
theorem mo_pop {pc : Nat} : mo_S (sf_pop pc) := by
  intro L st S h n q e; unfold sf_pop at e
  (repeat' split at e) <;> first | exact mo_nx (Int.le_refl _) e | cases e
theorem mo_dx1 {pc : Nat} : mo_S (sf_dx1 pc) := by
  intro L st S h n q e; unfold sf_dx1 at e
  (repeat' split at e) <;> first | exact mo_nx (Int.le_refl _) e | cases e
theorem mo_dup2 {pc : Nat} : mo_S (sf_dup2 pc) := by
  intro L st S h n q e; unfold sf_dup2 at e
  (repeat' split at e) <;> first | exact mo_nx (Int.le_refl _) e | cases e
theorem mo_if {o t f : Nat} : mo_S (sf_if o t f) := by
  intro L st S h n q e; unfold sf_if at e
  (repeat' split at e) <;> first | exact mo_nx (Int.le_refl _) e | cases e
theorem mo_ic {o t f : Nat} : mo_S (sf_ic o t f) := by
  intro L st S h n q e; unfold sf_ic at e
  (repeat' split at e) <;> first | exact mo_nx (Int.le_refl _) e | cases e
theorem mo_nul {t f : Nat} : mo_S (sf_nul t f) := by
  intro L st S h n q e; unfold sf_nul at e
  (repeat' split at e) <;> first | exact mo_nx (Int.le_refl _) e | cases e
theorem mo_sw {ks : List (Int × Nat)} {t : Nat} : mo_S (sf_sw ks t) := by
  intro L st S h n q e; unfold sf_sw at e
  (repeat' split at e) <;> first | exact mo_nx (Int.le_refl _) e | cases e
theorem mo_gi {lo hi k : Int} {pc : Nat} : mo_S (sf_gi lo hi k pc) := by
  intro L st S h n q e; unfold sf_gi at e
  (repeat' split at e) <;> first | exact mo_nx (Int.le_refl _) e | cases e
theorem mo_gr {lo hi k : Int} {pc : Nat} : mo_S (sf_gr lo hi k pc) := by
  intro L st S h n q e; unfold sf_gr at e
  (repeat' split at e) <;> first | exact mo_nx (Int.le_refl _) e | cases e
theorem mo_pi {lo hi k : Int} {pc : Nat} : mo_S (sf_pi lo hi k pc) := by
  intro L st S h n q e; unfold sf_pi at e
  (repeat' split at e) <;> first | exact mo_nx (Int.le_refl _) e | cases e
theorem mo_pz {lo hi k : Int} {pc : Nat} : mo_S (sf_pz lo hi k pc) := by
  intro L st S h n q e; unfold sf_pz at e
  (repeat' split at e) <;> first | exact mo_nx (Int.le_refl _) e | cases e
theorem mo_pr {lo hi k : Int} {pc : Nat} : mo_S (sf_pr lo hi k pc) := by
  intro L st S h n q e; unfold sf_pr at e
  (repeat' split at e) <;> first | exact mo_nx (Int.le_refl _) e | cases e
theorem mo_alen {pc : Nat} : mo_S (sf_alen pc) := by
  intro L st S h n q e; unfold sf_alen at e
  (repeat' split at e) <;> first | exact mo_nx (Int.le_refl _) e | cases e
theorem mo_iald {pc : Nat} : mo_S (sf_iald pc) := by
  intro L st S h n q e; unfold sf_iald at e
  (repeat' split at e) <;> first | exact mo_nx (Int.le_refl _) e | cases e
theorem mo_iast {pc : Nat} : mo_S (sf_iast pc) := by
  intro L st S h n q e; unfold sf_iast at e
  (repeat' split at e) <;> first | exact mo_nx (Int.le_refl _) e | cases e
theorem mo_lald {pc : Nat} : mo_S (sf_lald pc) := by
  intro L st S h n q e; unfold sf_lald at e
  (repeat' split at e) <;> first | exact mo_nx (Int.le_refl _) e | cases e
theorem mo_last {pc : Nat} : mo_S (sf_last pc) := by
  intro L st S h n q e; unfold sf_last at e
  (repeat' split at e) <;> first | exact mo_nx (Int.le_refl _) e | cases e
theorem mo_bald {pc : Nat} : mo_S (sf_bald pc) := by
  intro L st S h n q e; unfold sf_bald at e
  (repeat' split at e) <;> first | exact mo_nx (Int.le_refl _) e | cases e
theorem mo_aald {t : Int} {pc : Nat} : mo_S (sf_aald t pc) := by
  intro L st S h n q e; unfold sf_aald at e
  (repeat' split at e) <;> first | exact mo_nx (Int.le_refl _) e | cases e
theorem mo_aast {t lo hi : Int} {pc : Nat} : mo_S (sf_aast t lo hi pc) := by
  intro L st S h n q e; unfold sf_aast at e
  (repeat' split at e) <;> first | exact mo_nx (Int.le_refl _) e | cases e
theorem mo_newa {t : Int} {pc : Nat} : mo_S (sf_newa t pc) := by
  intro L st S h n q e; unfold sf_newa at e
  (repeat' split at e) <;> first | exact mo_nx (by omega) e | cases e
theorem mo_inst {lo hi : Int} {pc : Nat} : mo_S (sf_inst lo hi pc) := by
  intro L st S h n q e; unfold sf_inst at e
  split at e
  · rename_i a st1
    by_cases w : 1 ≤ S a (-2) ∧ S a (-2) ≤ 6
    · rw [if_pos w] at e; exact mo_nx (Int.le_refl _) e
    · rw [if_neg w] at e; cases e
  · cases e
theorem mo_copy {pc : Nat} : mo_S (sf_copy pc) := by
  intro L st S h n q e; unfold sf_copy at e
  (repeat' split at e) <;> first | exact mo_nx (Int.le_refl _) e | cases e
theorem mo_clon {pc : Nat} : mo_S (sf_clon pc) := by
  intro L st S h n q e; unfold sf_clon at e
  (repeat' split at e) <;> first | exact mo_nx (by omega) e | cases e
theorem mo_cast {pc : Nat} : mo_S (sf_cast pc) := by
  intro L st S h n q e; unfold sf_cast at e
  (repeat' split at e) <;> first | exact mo_nx (Int.le_refl _) e | cases e
theorem mo_oini {pc : Nat} : mo_S (sf_oini pc) := by
  intro L st S h n q e; unfold sf_oini at e
  (repeat' split at e) <;> first | exact mo_nx (Int.le_refl _) e | cases e
theorem mo_cs {ts : List Nat} {y pc : Nat} : mo_S (sf_cs ts y pc) := by
  intro L st S h n q e; unfold sf_cs at e
  (repeat' split at e) <;> cases e
theorem mo_cv {t : Int} {ts : List Nat} {y pc : Nat} : mo_S (sf_cv t ts y pc) := by
  intro L st S h n q e; unfold sf_cv at e
  (repeat' split at e) <;> cases e
theorem mo_ci {lo hi : Int} {ts : List Nat} {y pc : Nat} : mo_S (sf_ci lo hi ts y pc) := by
  intro L st S h n q e; unfold sf_ci at e
  (repeat' split at e) <;> cases e
theorem mo_cu {vt : List (Int × Nat)} {ts : List Nat} {pc : Nat} : mo_S (sf_cu vt ts pc) := by
  intro L st S h n q e; unfold sf_cu at e
  (repeat' split at e) <;> cases e
theorem mo_ret {t : Nat} : mo_S (sf_ret t) := by
  intro L st S h n q e; unfold sf_ret at e
  (repeat' split at e) <;> cases e
theorem mo_rr {lo hi : Int} : mo_S (sf_rr lo hi) := by
  intro L st S h n q e; unfold sf_rr at e
  (repeat' split at e) <;> cases e
theorem mo_retv : mo_S sf_retv := by
  intro L st S h n q e; unfold sf_retv at e
  (repeat' split at e) <;> cases e
theorem mo_rn (hmo : ∀ M pc, mo_S (mx_cd M pc)) : ∀ (f d M pc : Nat) (L : mx_L) (st : List mx_V) (S h : mx_H) (n : Int) (v : Option mx_V) (S1 h1 : mx_H) (n1 : Int), mx_rn mx_cd mx_ml f d M pc L st S h n = some (v, S1, h1, n1) → n ≤ n1 := by
  intro f
  induction f with
  | zero => intro d M pc L st S h n v S1 h1 n1 hr; simp [mx_rn] at hr
  | succ f ih =>
    intro d M pc L st S h n v S1 h1 n1 hr
    rw [mx_rn] at hr
    cases ho : mx_cd M pc L st S h n with
    | none => rw [ho] at hr; cases hr
    | some o =>
      rw [ho] at hr
      cases o with
      | inl q =>
        have := hmo M pc L st S h n q ho
        obtain ⟨pc1, L1, st1, S2, h2, n2⟩ := q
        exact Int.le_trans this (ih _ _ _ _ _ _ _ _ _ _ _ _ hr)
      | inr o =>
        cases o with
        | inl q =>
          obtain ⟨y, as, pc1, L1, st1⟩ := q
          cases d with
          | zero => cases hr
          | succ d =>
            simp only at hr
            cases hc : mx_rn mx_cd mx_ml f d y 0 (mx_lay as (mx_ml y)) [] S h n with
            | none => rw [hc] at hr; cases hr
            | some q =>
              obtain ⟨v2, S2, h2, n2⟩ := q
              rw [hc] at hr
              exact Int.le_trans (ih _ _ _ _ _ _ _ _ _ _ _ _ hc) (ih _ _ _ _ _ _ _ _ _ _ _ _ hr)
        | inr u => cases hr; exact Int.le_refl _
