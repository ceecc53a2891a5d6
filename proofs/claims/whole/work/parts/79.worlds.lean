/-! Worlds, in their order -/
theorem bz_c {lo b : Int} {P Q : Int → Prop} (e : ∀ k, lo ≤ k → k < b → (P k ↔ Q k)) : bz lo b P = bz lo b Q := by
  unfold bz; apply bm_c
  intro k hk
  constructor
  · rintro ⟨a, c, p⟩; exact ⟨a, c, (e _ a c).mp p⟩
  · rintro ⟨a, c, p⟩; exact ⟨a, c, (e _ a c).mpr p⟩
theorem bz_o {P : Int → Prop} {b : Int} (h1 : 2 ≤ b) (h2 : b < 17) : mx_or (bz 2 17 P) (mx_shl 1 b) = bz 2 17 (fun k => P k ∨ k = b) := by
  unfold bz; rw [bm_or (by decide) (by omega) (by simpa using h2)]
  apply bm_c
  intro k hk
  constructor
  · rintro (⟨a, c, p⟩ | r)
    · exact ⟨a, c, Or.inl p⟩
    · exact ⟨by omega, by omega, Or.inr r.symm⟩
  · rintro ⟨a, c, p | p⟩
    · exact Or.inl ⟨a, c, p⟩
    · exact Or.inr p.symm
theorem bz_tst {P : Int → Prop} {b : Int} (h1 : 2 ≤ b) (h2 : b < 17) : mx_and (mx_shr (bz 2 17 P) b) 1 = mx_b (P b) := by
  unfold bz; rw [bm_tst (by decide) (by omega) (by omega)]
  have e : ((b.toNat : Nat) : Int) = b := by omega
  rw [e]
  apply mx_b_i
  constructor
  · rintro ⟨_, _, _, p⟩; exact p
  · intro p; exact ⟨by simpa using h2, h1, h2, p⟩
def wn (σ β : Int → Int) (a : Int) : Int := wo σ a (β (it σ a 1))
/-- a line holds by three bases -/
def hl (σ β : Int → Int) (l : Int) : Prop :=
  if ln σ l 0 = 0 then wn σ β (ln σ l 1) = wn σ β (ln σ l 2) else
  if ln σ l 0 = 1 then wn σ β (ln σ l 2) < wn σ β (ln σ l 1) else
  if ln σ l 0 = 2 then wn σ β (ln σ l 1) + wn σ β (ln σ l 2) = wn σ β (ln σ l 3) else
  Int.tmod (wn σ β (ln σ l 1)) (ln σ l 3) = 0
def bb (σ β : Int → Int) : Prop := ∀ a, 0 ≤ a → a < σ 0 → 2 ≤ β (it σ a 1) ∧ β (it σ a 1) ≤ 16
def mb (σ : Int → Int) (e b : Int) : Prop := σ (3 + 2 * e) ≤ b ∧ b ≤ σ (3 + 2 * e + 1) ∧ ∀ a, 0 ≤ a → a < σ 0 → it σ a 1 = e → cb σ a b
def hs (σ β : Int → Int) (lines k : Int) : Prop := ∀ j, k ≤ j → j < σ 1 → bt lines j.toNat → hl σ β j
def tb (a b c : Int) : Int → Int := fun e => if e = 0 then a else if e = 1 then b else c
def wd (σ : Int → Int) (x a b c : Int) : Prop := mb σ 0 a ∧ mb σ 1 b ∧ mb σ 2 c ∧ hs σ (tb a b c) x 0
def wi (σ : Int → Int) (x t : Int) : Prop := wd σ x (t / 289) (t / 17 % 17) (t % 17)
noncomputable def ct (σ : Int → Int) (x : Int) : Nat → Int
  | 0 => 0
  | t + 1 => ct σ x t + mx_b (wi σ x t)
noncomputable def cT (σ : Int → Int) (x t : Int) : Int := ct σ x t.toNat
theorem mx_b_rr (c : Prop) : 0 ≤ mx_b c ∧ mx_b c ≤ 1 := by
  by_cases q : c
  · rw [mx_b_t q]; decide
  · rw [mx_b_f q]; decide
theorem cT_S {σ : Int → Int} {x t : Int} (h : 0 ≤ t) : cT σ x (t + 1) = cT σ x t + mx_b (wi σ x t) := by
  have e : (t + 1).toNat = t.toNat + 1 := by omega
  have e2 : ((t.toNat : Nat) : Int) = t := by omega
  unfold cT; rw [e]; simp only [ct, e2]
theorem cT_0 {σ : Int → Int} {x : Int} : cT σ x 0 = 0 := rfl
theorem ct_m {σ : Int → Int} {x : Int} {t : Nat} : ∀ k, ct σ x t ≤ ct σ x (t + k) ∧ ct σ x (t + k) ≤ ct σ x t + k := by
  intro k
  induction k with
  | zero => exact ⟨Int.le_refl _, by simp⟩
  | succ k ih =>
    have := mx_b_rr (wi σ x (t + k : Nat))
    have e : ct σ x (t + (k + 1)) = ct σ x (t + k) + mx_b (wi σ x (t + k : Nat)) := rfl
    rw [e]; omega
theorem cT_m {σ : Int → Int} {x t u : Int} (h0 : 0 ≤ t) (h1 : t ≤ u) : cT σ x t ≤ cT σ x u ∧ cT σ x u ≤ cT σ x t + (u - t) := by
  have := ct_m (σ := σ) (x := x) (t := t.toNat) (u - t).toNat
  have e : t.toNat + (u - t).toNat = u.toNat := by omega
  rw [e] at this
  unfold cT; omega
theorem cT_r {σ : Int → Int} {x t : Int} (h0 : 0 ≤ t) : 0 ≤ cT σ x t ∧ cT σ x t ≤ t := by
  have := cT_m (σ := σ) (x := x) (t := 0) (u := t) (by omega) h0
  rw [cT_0] at this; omega
theorem cT_k {σ : Int → Int} {x t u : Int} (h0 : 0 ≤ t) (h1 : t ≤ u) (h : ∀ v, t ≤ v → v < u → ¬ wi σ x v) : cT σ x u = cT σ x t := by
  by_cases q : t = u
  · rw [q]
  · have ih := cT_k (σ := σ) (x := x) (t := t + 1) (u := u) (by omega) (by omega) (fun v a b => h v (by omega) b)
    rw [ih, cT_S h0, mx_b_f (h t (by omega) (by omega))]; omega
termination_by (u - t).toNat
theorem mb_r {σ : Int → Int} (w : vw σ) {e b : Int} (e0 : 0 ≤ e) (e1 : e ≤ 2) (h : mb σ e b) : 2 ≤ b ∧ b ≤ 16 := by
  have := w.e e e0 e1
  have h1 := h.1
  have h2 := h.2.1
  omega
theorem wn_c {σ β γ : Int → Int} (w : vw σ) (e : ∀ e, 0 ≤ e → e ≤ 2 → β e = γ e) {a : Int} (h0 : 0 ≤ a) (h1 : a < σ 0) : wn σ β a = wn σ γ a := by
  unfold wn; rw [e _ (w.n _ h0 h1).e.1 (w.n _ h0 h1).e.2]
theorem hl_c {σ β γ : Int → Int} (w : vw σ) (e : ∀ e, 0 ≤ e → e ≤ 2 → β e = γ e) {l : Int} (h0 : 0 ≤ l) (h1 : l < σ 1) : hl σ β l = hl σ γ l := by
  have lw := w.l _ h0 h1
  unfold hl
  rw [wn_c w e lw.x.1 lw.x.2, wn_c w e lw.y.1 lw.y.2]
  by_cases s2 : ln σ l 0 = 2
  · rw [wn_c w e lw.z.1 (lw.z2 s2)]
  · simp only [if_neg s2]
theorem hs_c {σ β γ : Int → Int} (w : vw σ) (e : ∀ e, 0 ≤ e → e ≤ 2 → β e = γ e) {x k : Int} (h0 : 0 ≤ k) : hs σ β x k ↔ hs σ γ x k := by
  constructor
  · intro f j a b c; rw [← hl_c w e (by omega) b]; exact f j a b c
  · intro f j a b c; rw [hl_c w e (by omega) b]; exact f j a b c
theorem bb_3 {σ β : Int → Int} (w : vw σ) (e : ∀ e, 0 ≤ e → e ≤ 2 → 2 ≤ β e ∧ β e ≤ 16) : bb σ β :=
  fun _ h0 h1 => e _ (w.n _ h0 h1).e.1 (w.n _ h0 h1).e.2
