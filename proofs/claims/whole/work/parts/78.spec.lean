/-! What notes, lines and worlds are, over the reference's row of numbers -/
def it (σ : Int → Int) (a k : Int) : Int := σ (9 + 10 * a + k)
def ln (σ : Int → Int) (l k : Int) : Int := σ (69 + 4 * l + k)
/-- a note as it may be -/
def nw (σ : Int → Int) (a : Int) : Prop := (0 ≤ it σ a 0 ∧ it σ a 0 ≤ 5) ∧ (0 ≤ it σ a 1 ∧ it σ a 1 ≤ 2) ∧ (0 ≤ it σ a 2 ∧ it σ a 2 ≤ 6) ∧ (1 ≤ it σ a 3 ∧ it σ a 3 ≤ 6) ∧ (∀ k, 0 ≤ k → k < it σ a 3 → 0 ≤ it σ a (4 + k) ∧ it σ a (4 + k) ≤ 15)
theorem nw.mk {σ : Int → Int} {a : Int} (x0 : 0 ≤ it σ a 0 ∧ it σ a 0 ≤ 5) (x1 : 0 ≤ it σ a 1 ∧ it σ a 1 ≤ 2) (x2 : 0 ≤ it σ a 2 ∧ it σ a 2 ≤ 6) (x3 : 1 ≤ it σ a 3 ∧ it σ a 3 ≤ 6) (x4 : ∀ k, 0 ≤ k → k < it σ a 3 → 0 ≤ it σ a (4 + k) ∧ it σ a (4 + k) ≤ 15) : nw σ a := (And.intro x0 (And.intro x1 (And.intro x2 (And.intro x3 x4))))
theorem nw.k {σ : Int → Int} {a : Int} (q : nw σ a) : 0 ≤ it σ a 0 ∧ it σ a 0 ≤ 5 := (And.left q)
theorem nw.e {σ : Int → Int} {a : Int} (q : nw σ a) : 0 ≤ it σ a 1 ∧ it σ a 1 ≤ 2 := (And.left (And.right q))
theorem nw.p {σ : Int → Int} {a : Int} (q : nw σ a) : 0 ≤ it σ a 2 ∧ it σ a 2 ≤ 6 := (And.left (And.right (And.right q)))
theorem nw.n {σ : Int → Int} {a : Int} (q : nw σ a) : 1 ≤ it σ a 3 ∧ it σ a 3 ≤ 6 := (And.left (And.right (And.right (And.right q))))
theorem nw.s {σ : Int → Int} {a : Int} (q : nw σ a) : ∀ k, 0 ≤ k → k < it σ a 3 → 0 ≤ it σ a (4 + k) ∧ it σ a (4 + k) ≤ 15 := (And.right (And.right (And.right (And.right q))))
/-- a line as it may be, by so many notes -/
def lw (σ : Int → Int) (l N : Int) : Prop := (0 ≤ ln σ l 0 ∧ ln σ l 0 ≤ 3) ∧ (0 ≤ ln σ l 1 ∧ ln σ l 1 < N) ∧ (0 ≤ ln σ l 2 ∧ ln σ l 2 < N) ∧ (0 ≤ ln σ l 3 ∧ ln σ l 3 ≤ 99) ∧ (ln σ l 0 = 2 → ln σ l 3 < N) ∧ (ln σ l 0 = 3 → 1 ≤ ln σ l 3)
theorem lw.mk {σ : Int → Int} {l N : Int} (x0 : 0 ≤ ln σ l 0 ∧ ln σ l 0 ≤ 3) (x1 : 0 ≤ ln σ l 1 ∧ ln σ l 1 < N) (x2 : 0 ≤ ln σ l 2 ∧ ln σ l 2 < N) (x3 : 0 ≤ ln σ l 3 ∧ ln σ l 3 ≤ 99) (x4 : ln σ l 0 = 2 → ln σ l 3 < N) (x5 : ln σ l 0 = 3 → 1 ≤ ln σ l 3) : lw σ l N := (And.intro x0 (And.intro x1 (And.intro x2 (And.intro x3 (And.intro x4 x5)))))
theorem lw.s {σ : Int → Int} {l N : Int} (q : lw σ l N) : 0 ≤ ln σ l 0 ∧ ln σ l 0 ≤ 3 := (And.left q)
theorem lw.x {σ : Int → Int} {l N : Int} (q : lw σ l N) : 0 ≤ ln σ l 1 ∧ ln σ l 1 < N := (And.left (And.right q))
theorem lw.y {σ : Int → Int} {l N : Int} (q : lw σ l N) : 0 ≤ ln σ l 2 ∧ ln σ l 2 < N := (And.left (And.right (And.right q)))
theorem lw.z {σ : Int → Int} {l N : Int} (q : lw σ l N) : 0 ≤ ln σ l 3 ∧ ln σ l 3 ≤ 99 := (And.left (And.right (And.right (And.right q))))
theorem lw.z2 {σ : Int → Int} {l N : Int} (q : lw σ l N) : ln σ l 0 = 2 → ln σ l 3 < N := (And.left (And.right (And.right (And.right (And.right q)))))
theorem lw.z3 {σ : Int → Int} {l N : Int} (q : lw σ l N) : ln σ l 0 = 3 → 1 ≤ ln σ l 3 := (And.right (And.right (And.right (And.right (And.right q)))))
def vw (σ : Int → Int) : Prop := (0 ≤ σ 0 ∧ σ 0 ≤ 6) ∧ (0 ≤ σ 1 ∧ σ 1 ≤ 6) ∧ (∀ e, 0 ≤ e → e ≤ 2 → 2 ≤ σ (3 + 2 * e) ∧ σ (3 + 2 * e) ≤ σ (3 + 2 * e + 1) ∧ σ (3 + 2 * e + 1) ≤ 16) ∧ (∀ a, 0 ≤ a → a < σ 0 → nw σ a) ∧ (∀ l, 0 ≤ l → l < σ 1 → lw σ l (σ 0))
theorem vw.mk {σ : Int → Int} (x0 : 0 ≤ σ 0 ∧ σ 0 ≤ 6) (x1 : 0 ≤ σ 1 ∧ σ 1 ≤ 6) (x2 : ∀ e, 0 ≤ e → e ≤ 2 → 2 ≤ σ (3 + 2 * e) ∧ σ (3 + 2 * e) ≤ σ (3 + 2 * e + 1) ∧ σ (3 + 2 * e + 1) ≤ 16) (x3 : ∀ a, 0 ≤ a → a < σ 0 → nw σ a) (x4 : ∀ l, 0 ≤ l → l < σ 1 → lw σ l (σ 0)) : vw σ := (And.intro x0 (And.intro x1 (And.intro x2 (And.intro x3 x4))))
theorem vw.N {σ : Int → Int} (q : vw σ) : 0 ≤ σ 0 ∧ σ 0 ≤ 6 := (And.left q)
theorem vw.L {σ : Int → Int} (q : vw σ) : 0 ≤ σ 1 ∧ σ 1 ≤ 6 := (And.left (And.right q))
theorem vw.e {σ : Int → Int} (q : vw σ) : ∀ e, 0 ≤ e → e ≤ 2 → 2 ≤ σ (3 + 2 * e) ∧ σ (3 + 2 * e) ≤ σ (3 + 2 * e + 1) ∧ σ (3 + 2 * e + 1) ≤ 16 := (And.left (And.right (And.right q)))
theorem vw.n {σ : Int → Int} (q : vw σ) : ∀ a, 0 ≤ a → a < σ 0 → nw σ a := (And.left (And.right (And.right (And.right q))))
theorem vw.l {σ : Int → Int} (q : vw σ) : ∀ l, 0 ≤ l → l < σ 1 → lw σ l (σ 0) := (And.right (And.right (And.right (And.right q))))
/-- the base at a place -/
def bs (σ : Int → Int) (a i b : Int) : Int := if it σ a 0 = 2 ∧ it σ a 2 ≤ i then b + 1 else if it σ a 0 = 3 ∧ it σ a 2 ≤ i then b - 1 else b
def pl (σ : Int → Int) (a i : Int) : Int := if it σ a 0 = 4 then it σ a 3 - 1 - i else i
def wv (σ : Int → Int) (a b : Int) : Nat → Int
  | 0 => 0
  | k + 1 => wv σ a b k * bs σ a k b + it σ a (4 + pl σ a k)
def wo (σ : Int → Int) (a b : Int) : Int := if it σ a 0 = 1 then it σ a 3 else if it σ a 0 = 5 then - it σ a 3 else wv σ a b (it σ a 3).toNat
def sk (σ : Int → Int) (a : Int) : Prop := it σ a 0 = 1 ∨ it σ a 0 = 5
def cb1 (σ : Int → Int) (a b i : Int) : Prop := (sk σ a → it σ a (4 + i) = 1) ∧ (¬ sk σ a → it σ a (4 + i) < bs σ a i b)
def cb (σ : Int → Int) (a b : Int) : Prop := ∀ i, 0 ≤ i → i < it σ a 3 → cb1 σ a b i
theorem bs_r {σ : Int → Int} {a i b : Int} (h1 : 2 ≤ b) (h2 : b ≤ 16) : 1 ≤ bs σ a i b ∧ bs σ a i b ≤ 17 := by
  unfold bs; split
  · omega
  · split <;> omega
theorem pl_r {σ : Int → Int} {a i : Int} (h1 : 0 ≤ i) (h2 : i < it σ a 3) : 0 ≤ pl σ a i ∧ pl σ a i < it σ a 3 := by
  unfold pl; split <;> omega
theorem wv_r {σ : Int → Int} {a b : Int} (w : nw σ a) (h1 : 2 ≤ b) (h2 : b ≤ 16) (k : Nat) (hk : (k : Int) ≤ it σ a 3) : 0 ≤ wv σ a b k ∧ wv σ a b k < 18 ^ k := by
  induction k with
  | zero => exact ⟨Int.le_refl 0, Int.zero_lt_one⟩
  | succ k ih =>
    have ih := ih (by omega)
    have hb := bs_r (σ := σ) (a := a) (i := k) h1 h2
    have hp := pl_r (σ := σ) (a := a) (i := k) (by omega) (by omega)
    have hs := w.s _ hp.1 hp.2
    simp only [wv]
    have e : (18 : Int) ^ (k + 1) = 18 ^ k * 18 := Int.pow_succ _ _
    have m1 : 0 ≤ wv σ a b k * bs σ a k b := Int.mul_nonneg ih.1 (by omega)
    have m2 : wv σ a b k * bs σ a k b ≤ wv σ a b k * 17 := Int.mul_le_mul_of_nonneg_left hb.2 ih.1
    omega
theorem wv_6 {σ : Int → Int} {a b : Int} (w : nw σ a) (h1 : 2 ≤ b) (h2 : b ≤ 16) {k : Nat} (hk : (k : Int) ≤ it σ a 3) : 0 ≤ wv σ a b k ∧ wv σ a b k < 34012224 := by
  have h := wv_r w h1 h2 k hk
  have hn := w.n
  have h3 : (18 : Nat) ^ k ≤ 18 ^ 6 := Nat.pow_le_pow_right (by decide) (by omega)
  have h4 : ((18 ^ k : Nat) : Int) = (18 : Int) ^ k := by simp
  omega
theorem wo_r {σ : Int → Int} {a b : Int} (w : nw σ a) (h1 : 2 ≤ b) (h2 : b ≤ 16) : -6 ≤ wo σ a b ∧ wo σ a b < 34012224 := by
  have hn := w.n
  have h := wv_6 w h1 h2 (k := (it σ a 3).toNat) (by omega)
  unfold wo; split
  · omega
  · split <;> omega
