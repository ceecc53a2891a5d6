/-! A pure machine for the bytecode: ints, longs and addresses are Int; a step is a function; the run is the limit of runs with fuel. -/
abbrev mx_V : Type := Nat × Int
abbrev mx_L : Type := List (Option mx_V)
abbrev mx_H : Type := Int → Int → Int
abbrev mx_R : Type := Option (Option mx_V × mx_H × mx_H × Int)
abbrev mx_N : Type := Nat × mx_L × List mx_V × mx_H × mx_H × Int
abbrev mx_C : Type := Nat × List mx_V × Nat × mx_L × List mx_V
abbrev mx_O : Type := Option (mx_N ⊕ (mx_C ⊕ Option mx_V))
abbrev mx_S : Type := mx_L → List mx_V → mx_H → mx_H → Int → mx_O
def mx_w (x : Int) : Int := Int.bmod x 4294967296
def mx_l (x : Int) : Int := Int.bmod x 18446744073709551616
def mx_u (h : mx_H) (a k v : Int) : mx_H := fun b j => if b = a ∧ j = k then v else h b j
/-- a fresh cell's data: all 0 -/
def mx_z (h : mx_H) (n : Int) : mx_H := fun b j => if b = n then 0 else h b j
/-- a fresh cell's shape: its tag at -2, its length at -1, null in every place -/
def mx_t (S : mx_H) (n tag len : Int) : mx_H := fun b j => if b = n then (if j = -2 then tag else if j = -1 then len else -1) else S b j
/-- n numbers copied from one row to another -/
def mx_y (h : mx_H) (a i b j n : Int) : mx_H := fun c k => if c = b ∧ j ≤ k ∧ k < j + n then h a (i + (k - j)) else h c k
def mx_nl (o : Option mx_V) : Option mx_V := match o with
  | some (1, _) => none
  | o => o
def mx_lay : List mx_V → Nat → mx_L
  | [], n => List.replicate n none
  | (1, x) :: vs, n => some (1, x) :: none :: mx_lay vs (n - 2)
  | v :: vs, n => some v :: mx_lay vs (n - 1)
def mx_sto : mx_L → Nat → mx_V → mx_L
  | [], _, _ => []
  | _ :: L, 0, v => some v :: L
  | l :: L, 1, v => mx_nl l :: mx_sto L 0 v
  | l :: L, k + 2, v => l :: mx_sto L (k + 1) v
def mx_sto2 : mx_L → Nat → mx_V → mx_L
  | [], _, _ => []
  | [_], _, _ => []
  | _ :: _ :: L, 0, v => some v :: none :: L
  | l :: L, 1, v => mx_nl l :: mx_sto2 L 0 v
  | l :: L, k + 2, v => l :: mx_sto2 L (k + 1) v
section
variable (cd : Nat → Nat → mx_S) (ml : Nat → Nat)
def mx_rn : Nat → Nat → Nat → Nat → mx_L → List mx_V → mx_H → mx_H → Int → mx_R
  | 0, _, _, _, _, _, _, _, _ => none
  | f + 1, d, m, pc, L, st, S, h, n => match cd m pc L st S h n with
    | none => none
    | some (.inl (pc1, L1, st1, S1, h1, n1)) => mx_rn f d m pc1 L1 st1 S1 h1 n1
    | some (.inr (.inl (y, as, pc1, L1, st1))) => match d with
      | 0 => none
      | d1 + 1 => match mx_rn f d1 y 0 (mx_lay as (ml y)) [] S h n with
        | none => none
        | some (v, S1, h1, n1) => mx_rn f (d1 + 1) m pc1 L1 (v.toList ++ st1) S1 h1 n1
    | some (.inr (.inr v)) => some (v, S, h, n)
theorem mx_mono : ∀ (f d m pc : Nat) (L : mx_L) (st : List mx_V) (S h : mx_H) (n : Int) (r : Option mx_V × mx_H × mx_H × Int), mx_rn cd ml f d m pc L st S h n = some r → mx_rn cd ml (f + 1) d m pc L st S h n = some r := by
  intro f
  induction f with
  | zero => intro d m pc L st S h n r hr; simp [mx_rn] at hr
  | succ f ih =>
    intro d m pc L st S h n r hr
    rw [mx_rn] at hr ⊢
    cases ho : cd m pc L st S h n with
    | none => rw [ho] at hr; simp at hr
    | some o =>
      rw [ho] at hr
      cases o with
      | inl q =>
        obtain ⟨pc1, L1, st1, S1, h1, n1⟩ := q
        exact ih _ _ _ _ _ _ _ _ _ hr
      | inr o =>
        cases o with
        | inl q =>
          obtain ⟨y, as, pc1, L1, st1⟩ := q
          cases d with
          | zero => simp at hr
          | succ d =>
            simp only at hr ⊢
            cases hc : mx_rn cd ml f d y 0 (mx_lay as (ml y)) [] S h n with
            | none => rw [hc] at hr; simp at hr
            | some q =>
              obtain ⟨v, S1, h1, n1⟩ := q
              rw [hc] at hr
              rw [ih _ _ _ _ _ _ _ _ _ hc]
              exact ih _ _ _ _ _ _ _ _ _ hr
        | inr v => exact hr
theorem mx_mono2 (f g d m pc : Nat) (L : mx_L) (st : List mx_V) (S h : mx_H) (n : Int) (r : Option mx_V × mx_H × mx_H × Int) (hr : mx_rn cd ml f d m pc L st S h n = some r) (hg : f ≤ g) : mx_rn cd ml g d m pc L st S h n = some r := by
  induction hg with
  | refl => exact hr
  | step _ ih => exact mx_mono cd ml _ _ _ _ _ _ _ _ _ _ ih
noncomputable def mx_exG (d m pc : Nat) (L : mx_L) (st : List mx_V) (S h : mx_H) (n : Int) : mx_R :=
  @dite mx_R (∃ f r, mx_rn cd ml f d m pc L st S h n = some r) (Classical.propDecidable _) (fun q => mx_rn cd ml (Classical.choose q) d m pc L st S h n) (fun _ => none)
theorem mx_ex_iff (d m pc : Nat) (L : mx_L) (st : List mx_V) (S h : mx_H) (n : Int) (r : Option mx_V × mx_H × mx_H × Int) : mx_exG cd ml d m pc L st S h n = some r ↔ ∃ f, mx_rn cd ml f d m pc L st S h n = some r := by
  unfold mx_exG
  by_cases q : ∃ f r, mx_rn cd ml f d m pc L st S h n = some r
  · rw [dif_pos q]
    constructor
    · intro e; exact ⟨_, e⟩
    · rintro ⟨f, e⟩
      obtain ⟨r2, e2⟩ := Classical.choose_spec q
      rcases Nat.le_total f (Classical.choose q) with hl | hl
      · exact mx_mono2 cd ml _ _ _ _ _ _ _ _ _ _ _ e hl
      · have := mx_mono2 cd ml _ _ _ _ _ _ _ _ _ _ _ e2 hl
        rw [e2]; rw [this] at e; exact e
  · rw [dif_neg q]
    constructor
    · intro e; cases e
    · rintro ⟨f, e⟩; exact absurd ⟨f, r, e⟩ q
noncomputable def mx_rtG (r : mx_R) (d m pc : Nat) (L : mx_L) (st : List mx_V) : mx_R := match r with
  | none => none
  | some (v, S, h, n) => mx_exG cd ml d m pc L (v.toList ++ st) S h n
noncomputable def mx_MG (d m : Nat) (as : List mx_V) (S h : mx_H) (n : Int) : mx_R := mx_exG cd ml d m 0 (mx_lay as (ml m)) [] S h n
noncomputable def mx_goG (d m : Nat) (o : mx_O) (S h : mx_H) (n : Int) : mx_R := match o with
  | none => none
  | some (.inl (pc1, L1, st1, S1, h1, n1)) => mx_exG cd ml d m pc1 L1 st1 S1 h1 n1
  | some (.inr (.inl (y, as, pc1, L1, st1))) => match d with
    | 0 => none
    | d1 + 1 => mx_rtG cd ml (mx_MG cd ml d1 y as S h n) (d1 + 1) m pc1 L1 st1
  | some (.inr (.inr v)) => some (v, S, h, n)
theorem mx_optext {α : Type} {a b : Option α} (h : ∀ r, a = some r ↔ b = some r) : a = b := by
  cases a with
  | none => cases b with
    | none => rfl
    | some y => exact ((h y).mpr rfl)
  | some x => exact ((h x).mp rfl).symm
theorem mx_step (d m pc : Nat) (L : mx_L) (st : List mx_V) (S h : mx_H) (n : Int) : mx_exG cd ml d m pc L st S h n = mx_goG cd ml d m (cd m pc L st S h n) S h n := by
  apply mx_optext
  intro r
  rw [mx_ex_iff]
  have key : (∃ f, mx_rn cd ml f d m pc L st S h n = some r) ↔ ∃ f, mx_rn cd ml (f + 1) d m pc L st S h n = some r := by
    constructor
    · rintro ⟨f, e⟩; exact ⟨f, mx_mono cd ml _ _ _ _ _ _ _ _ _ _ e⟩
    · rintro ⟨f, e⟩; exact ⟨_, e⟩
  rw [key]
  unfold mx_goG
  simp only [mx_rn]
  cases ho : cd m pc L st S h n with
  | none => simp
  | some o =>
    cases o with
    | inl q =>
      obtain ⟨pc1, L1, st1, S1, h1, n1⟩ := q
      simp only
      rw [mx_ex_iff]
    | inr o =>
      cases o with
      | inl q =>
        obtain ⟨y, as, pc1, L1, st1⟩ := q
        cases d with
        | zero => simp
        | succ d =>
          simp only
          unfold mx_MG mx_rtG
          constructor
          · rintro ⟨f, e⟩
            cases hc : mx_rn cd ml f d y 0 (mx_lay as (ml y)) [] S h n with
            | none => rw [hc] at e; simp at e
            | some q =>
              obtain ⟨v, S1, h1, n1⟩ := q
              rw [hc] at e
              rw [(mx_ex_iff cd ml d y 0 (mx_lay as (ml y)) [] S h n (v, S1, h1, n1)).mpr ⟨f, hc⟩]
              exact (mx_ex_iff cd ml _ _ _ _ _ _ _ _ _).mpr ⟨f, e⟩
          · intro e
            cases hc : mx_exG cd ml d y 0 (mx_lay as (ml y)) [] S h n with
            | none => rw [hc] at e; simp at e
            | some q =>
              obtain ⟨v, S1, h1, n1⟩ := q
              rw [hc] at e
              obtain ⟨f1, e1⟩ := (mx_ex_iff cd ml _ _ _ _ _ _ _ _ _).mp hc
              obtain ⟨f2, e2⟩ := (mx_ex_iff cd ml _ _ _ _ _ _ _ _ _).mp e
              refine ⟨f1 + f2, ?_⟩
              rw [mx_mono2 cd ml _ (f1 + f2) _ _ _ _ _ _ _ _ _ e1 (by omega)]
              exact mx_mono2 cd ml _ (f1 + f2) _ _ _ _ _ _ _ _ _ e2 (by omega)
      | inr v => simp
end
