/-! The draft, evenings and lines told -/
theorem tpl_m {t : Int → Int} {N p : Int} (h : p ≤ N) : p ≤ tpl t N p ∧ tpl t N p ≤ N := by
  have a := tst_r (t := t) h
  have b := tpl_r (t := t) h
  exact ⟨by omega, b.2.1⟩
/-- what the teller leaves as it is -/
def DF (S0 h0 : mx_H) (n0 : Int) (S h : mx_H) (n : Int) : Prop := (∀ b, b < n0 → ¬ b = 27 → S b = S0 b) ∧ (∀ k, k < 0 → S 27 k = S0 27 k) ∧ (∀ b, b < n0 → ¬ (22 ≤ b ∧ b ≤ 28) → h b = h0 b) ∧ (n0 ≤ n ∧ n ≤ n0 + 12)
theorem DF.mk {S0 h0 : mx_H} {n0 : Int} {S h : mx_H} {n : Int} (x0 : ∀ b, b < n0 → ¬ b = 27 → S b = S0 b) (x1 : ∀ k, k < 0 → S 27 k = S0 27 k) (x2 : ∀ b, b < n0 → ¬ (22 ≤ b ∧ b ≤ 28) → h b = h0 b) (x3 : n0 ≤ n ∧ n ≤ n0 + 12) : DF S0 h0 n0 S h n := (And.intro x0 (And.intro x1 (And.intro x2 x3)))
theorem DF.S0 {S0 h0 : mx_H} {n0 : Int} {S h : mx_H} {n : Int} (q : DF S0 h0 n0 S h n) : ∀ b, b < n0 → ¬ b = 27 → S b = S0 b := (And.left q)
theorem DF.S4 {S0 h0 : mx_H} {n0 : Int} {S h : mx_H} {n : Int} (q : DF S0 h0 n0 S h n) : ∀ k, k < 0 → S 27 k = S0 27 k := (And.left (And.right q))
theorem DF.g0 {S0 h0 : mx_H} {n0 : Int} {S h : mx_H} {n : Int} (q : DF S0 h0 n0 S h n) : ∀ b, b < n0 → ¬ (22 ≤ b ∧ b ≤ 28) → h b = h0 b := (And.left (And.right (And.right q)))
theorem DF.m {S0 h0 : mx_H} {n0 : Int} {S h : mx_H} {n : Int} (q : DF S0 h0 n0 S h n) : n0 ≤ n ∧ n ≤ n0 + 12 := (And.right (And.right (And.right q)))
/-- the draft tells σ -/
def DS (S0 h0 : mx_H) (n0 : Int) (σ : Int → Int) (S h : mx_H) (n : Int) : Prop := (DF S0 h0 n0 S h n) ∧ (rr S h n 23 σ) ∧ (vw σ) ∧ (n = n0 + 2 * σ 0)
theorem DS.mk {S0 h0 : mx_H} {n0 : Int} {σ : Int → Int} {S h : mx_H} {n : Int} (x0 : DF S0 h0 n0 S h n) (x1 : rr S h n 23 σ) (x2 : vw σ) (x3 : n = n0 + 2 * σ 0) : DS S0 h0 n0 σ S h n := (And.intro x0 (And.intro x1 (And.intro x2 x3)))
theorem DS.f {S0 h0 : mx_H} {n0 : Int} {σ : Int → Int} {S h : mx_H} {n : Int} (q : DS S0 h0 n0 σ S h n) : DF S0 h0 n0 S h n := (And.left q)
theorem DS.r {S0 h0 : mx_H} {n0 : Int} {σ : Int → Int} {S h : mx_H} {n : Int} (q : DS S0 h0 n0 σ S h n) : rr S h n 23 σ := (And.left (And.right q))
theorem DS.w {S0 h0 : mx_H} {n0 : Int} {σ : Int → Int} {S h : mx_H} {n : Int} (q : DS S0 h0 n0 σ S h n) : vw σ := (And.left (And.right (And.right q)))
theorem DS.m {S0 h0 : mx_H} {n0 : Int} {σ : Int → Int} {S h : mx_H} {n : Int} (q : DS S0 h0 n0 σ S h n) : n = n0 + 2 * σ 0 := (And.right (And.right (And.right q)))
def fR (h g : mx_H) : Prop := (∀ b, ¬ b = 38 → ¬ b = 39 → g b = h b) ∧ ∀ k, k < 6 ∨ 10 < k → g 38 k = h 38 k
theorem fM.r {h g : mx_H} (f : fM h g) : fR h g := ⟨fun b b0 _ => f.1 b b0, f.2⟩
theorem fR.t {h g k : mx_H} (f : fR h g) (e : fR g k) : fR h k := ⟨fun b b0 b1 => by rw [e.1 b b0 b1, f.1 b b0 b1], fun j q => by rw [e.2 j q, f.2 j q]⟩
theorem fR.u {h g : mx_H} {k v : Int} (f : fR h g) : fR h (mx_u g 39 k v) := ⟨fun b b0 b1 => by rw [mx_u_a b1, f.1 b b0 b1], fun j q => by rw [mx_u_a (by decide), f.2 j q]⟩
theorem fR_0 {h : mx_H} : fR h h := ⟨fun _ _ _ => rfl, fun _ _ => rfl⟩
def rwu (f : Int → Int) (k v : Int) : Int → Int := fun j => if j = k then v else f j
theorem rwu_39 {h : mx_H} {k v : Int} : mx_u h 39 k v 39 = rwu (h 39) k v := by
  funext j; unfold mx_u rwu
  by_cases q : j = k
  · rw [if_pos ⟨rfl, q⟩, if_pos q]
  · rw [if_neg (fun z => q z.2), if_neg q]
theorem RX.w {S h : mx_H} {t : Int → Int} {N p k v : Int} (X : RX t N p S h) : RX t N p S (mx_u h 39 k v) := by
  have e : mx_u h 39 k v 38 = h 38 := mx_u_a (by decide)
  exact RX.mk X.m (fun j a b => by rw [mx_u_a (by decide)]; exact X.t j a b) X.b X.N2 X.p0 (RT.mk (by rw [e]; exact X.c.N) (by rw [e]; exact X.c.p) (by rw [e]; exact X.c.s) (by rw [e]; exact X.c.k) (fun z => by rw [e]; exact X.c.v z))
/-- what a statement comes to, on both sides -/
def JB (L : Nat) (x : Nat → Int32) (t : Int → Int) (N : Int) (S0 h0 : mx_H) (n0 p : Int) (σ : Int → Int) (C : mx_R) (R : mx_H → mx_H → Int → mx_R) : Prop :=
  (∃ p' S1 h1 n1, C = some (some (0, 0), S1, h1, n1) ∧ CX t N p' S1 h1 ∧ DF S0 h0 n0 S1 h1 n1 ∧ ∀ S' h' n', RX t N p S' h' → h' 39 = σ → ws L x S' h' → ∃ g', R S' h' n' = some (some (0, 0), S', g', n') ∧ fR h' g' ∧ RX t N p' S' g') ∨
  (∃ p' σ' S1 h1 n1, C = some (some (0, 1), S1, h1, n1) ∧ CX t N p' S1 h1 ∧ DS S0 h0 n0 σ' S1 h1 n1 ∧ tpl t N p ≤ p' ∧ σ' 2 = σ 2 ∧ ∀ S' h' n', RX t N p S' h' → h' 39 = σ → ws L x S' h' → ∃ g', R S' h' n' = some (some (0, 1), S', g', n') ∧ fR h' g' ∧ RX t N p' S' g' ∧ g' 39 = σ')
theorem eset_w {σ : Int → Int} {e a b : Int} (w : vw σ) (q : 0 ≤ e ∧ e ≤ 2) (a0 : 2 ≤ a ∧ a ≤ 16) (b0 : a ≤ b ∧ b ≤ 16) : vw (eset σ e a b) := by
  have n0 : eset σ e a b 0 = σ 0 := by unfold eset; rw [if_neg (by omega), if_neg (by omega)]
  have n1 : eset σ e a b 1 = σ 1 := by unfold eset; rw [if_neg (by omega), if_neg (by omega)]
  refine vw.mk (by rw [n0]; exact w.N) (by rw [n1]; exact w.L) ?_ ?_ ?_
  · intro k k0 k1
    by_cases ke : k = e
    · subst ke; unfold eset; rw [if_neg (by omega), if_pos rfl, if_pos rfl]; omega
    · unfold eset; rw [if_neg (by omega), if_neg (by omega), if_neg (by omega), if_neg (by omega)]; exact w.e k k0 k1
  · intro i i0 i1
    rw [n0] at i1
    have ii : ∀ k, 0 ≤ k → it (eset σ e a b) i k = it σ i k := fun k k0 => by unfold it eset; rw [if_neg (by omega), if_neg (by omega)]
    refine nw_c (w.n i i0 i1) (fun k k0 k1 _ => ii k k0) ?_
    rw [ii 1 (by decide)]; exact (w.n i i0 i1).e
  · intro l l0 l1
    rw [n1] at l1
    rw [n0]
    exact lw_c (w.l l l0 l1) (fun k k0 k1 => by unfold ln eset; rw [if_neg (by omega), if_neg (by omega)])
section
variable {S h H : mx_H} {n v : Int} {σ : Int → Int}
theorem rr_ev {e a b : Int} (r : rr S h n v σ) (w : vw σ) (q : 0 ≤ e ∧ e ≤ 2) (v0 : 0 ≤ v ∧ v ≤ 40) (Hc : H v 3 = h v 3) (HL : H v 4 = h v 4) (H1 : ∀ k, ¬ k = e → H (v + 1) k = h (v + 1) k) (H1e : H (v + 1) e = a) (H2 : ∀ k, ¬ k = e → H (v + 2) k = h (v + 2) k) (H2e : H (v + 2) e = b) (H3 : H (v + 3) = h (v + 3)) (Ho : ∀ q, 53 ≤ q → H q = h q) : rr S H n v (eset σ e a b) := by
  have n0 : eset σ e a b 0 = σ 0 := by unfold eset; rw [if_neg (by omega), if_neg (by omega)]
  have n1 : eset σ e a b 1 = σ 1 := by unfold eset; rw [if_neg (by omega), if_neg (by omega)]
  refine rr.mk (by rw [Hc, n0]; exact r.c) (by rw [HL, n1]; exact r.L) ?_ ?_ ?_ ?_
  · intro k k0 k1
    by_cases ke : k = e
    · subst ke; rw [H1e]; unfold eset; rw [if_neg (by omega), if_pos rfl]
    · rw [H1 k ke]; unfold eset; rw [if_neg (by omega), if_neg (by omega)]; exact r.lo k k0 k1
  · intro k k0 k1
    by_cases ke : k = e
    · subst ke; rw [H2e]; unfold eset; rw [if_pos rfl]
    · rw [H2 k ke]; unfold eset; rw [if_neg (by omega), if_neg (by omega)]; exact r.hi k k0 k1
  · intro l k l0 l1 k0 k1
    rw [n1] at l1
    rw [H3]; unfold ln eset; rw [if_neg (by omega), if_neg (by omega)]; exact r.l l k l0 l1 k0 k1
  · intro i i0 i1
    rw [n0] at i1
    exact nr_t ((r.n i i0 i1).gg (fun _ _ _ => rfl) (fun q a _ => Ho q a) (Int.le_refl _)) (w.n i i0 i1) (fun k k0 k1 => by unfold it eset; rw [if_neg (by omega), if_neg (by omega)])
theorem rr_la {s a b e : Int} (r : rr S h n v σ) (w : vw σ) (l5 : σ 1 ≤ 5) (v0 : 0 ≤ v ∧ v ≤ 40) (Hc : H v 3 = h v 3) (HL : H v 4 = σ 1 + 1) (H1 : H (v + 1) = h (v + 1)) (H2 : H (v + 2) = h (v + 2)) (H3 : ∀ k, k < σ 1 * 4 → H (v + 3) k = h (v + 3) k) (Ha : H (v + 3) (σ 1 * 4) = s) (Hb : H (v + 3) (σ 1 * 4 + 1) = a) (Hd : H (v + 3) (σ 1 * 4 + 2) = b) (He : H (v + 3) (σ 1 * 4 + 3) = e) (Ho : ∀ q, 53 ≤ q → H q = h q) : rr S H n v (ladd σ s a b e) := by
  have hL := w.L
  have hN := w.N
  have n0 : ladd σ s a b e 0 = σ 0 := ladd_o (by decide) (by omega)
  have n1 : ladd σ s a b e 1 = σ 1 + 1 := by unfold ladd; rw [if_pos rfl]
  refine rr.mk (by rw [Hc, n0]; exact r.c) (by rw [HL, n1]) ?_ ?_ ?_ ?_
  · intro k k0 k1; rw [H1, ladd_o (by omega) (by omega)]; exact r.lo k k0 k1
  · intro k k0 k1; rw [H2, ladd_o (by omega) (by omega)]; exact r.hi k k0 k1
  · intro l k l0 l1 k0 k1
    rw [n1] at l1
    by_cases c : l = σ 1
    · subst c
      have : k = 0 ∨ k = 1 ∨ k = 2 ∨ k = 3 := by omega
      rcases this with z | z | z | z <;> subst z
      · rw [Int.add_zero, Ha]; unfold ln ladd; rw [if_neg (by omega), if_pos (by omega)]
      · rw [Hb]; unfold ln ladd; rw [if_neg (by omega), if_neg (by omega), if_pos (by omega)]
      · rw [Hd]; unfold ln ladd; rw [if_neg (by omega), if_neg (by omega), if_neg (by omega), if_pos (by omega)]
      · rw [He]; unfold ln ladd; rw [if_neg (by omega), if_neg (by omega), if_neg (by omega), if_neg (by omega), if_pos (by omega)]
    · rw [H3 _ (by omega)]
      have : ln (ladd σ s a b e) l k = ln σ l k := ladd_o (by omega) (by omega)
      rw [this]; exact r.l l k l0 (by omega) k0 k1
  · intro i i0 i1
    rw [n0] at i1
    exact nr_t ((r.n i i0 i1).gg (fun _ _ _ => rfl) (fun q a _ => Ho q a) (Int.le_refl _)) (w.n i i0 i1) (fun k k0 k1 => ladd_o (by omega) (by omega))
end
section
variable {S0 h0 : mx_H} {n0 : Int} {S h g : mx_H} {n : Int} {σ : Int → Int}
theorem DF.go (D : DF S0 h0 n0 S h n) (f : ∀ b, ¬ b = 22 → g b = h b) : DF S0 h0 n0 S g n := DF.mk D.S0 D.S4 (fun b a c => by rw [f b (by omega)]; exact D.g0 b a c) D.m
theorem DS.go (D : DS S0 h0 n0 σ S h n) (f : ∀ b, ¬ b = 22 → g b = h b) : DS S0 h0 n0 σ S g n := DS.mk (D.f.go f) (D.r.gg (by rw [f 23 (by decide)]) (by rw [f 23 (by decide)]) (f 24 (by decide)) (f 25 (by decide)) (f 26 (by decide)) rfl (fun _ _ _ => rfl) (fun b a _ => f b (by omega)) (Int.le_refl _)) D.w D.m
theorem DF.sv (D : DF S0 h0 n0 S h n) (s : sv S0 23) (n5 : 53 ≤ n0) : sv S 23 := by
  have se := s.e
  have o := D.S0
  have o4 := D.S4
  refine sv.mk ?_
  have e27 : (23 : Int) + 4 = 27 := rfl
  rw [e27] at se ⊢
  rw [o 23 (by omega) (by decide), o (23 + 1) (by omega) (by decide), o (23 + 2) (by omega) (by decide), o (23 + 3) (by omega) (by decide), o4 (-2) (by decide), o4 (-1) (by decide)]; exact se
theorem DF.sd (D : DF S0 h0 n0 S h n) (s : CRoomNumbersLaw_law_r7303_6997d3.sv S0 23) (n5 : 53 ≤ n0) : S 23 (-2) = 8 ∧ S 23 0 = 24 ∧ S 23 1 = 25 ∧ S 23 2 = 26 ∧ S 23 6 = 27 ∧ S 24 (-2) = 20 ∧ S 24 (-1) = 3 ∧ S 25 (-2) = 20 ∧ S 25 (-1) = 3 ∧ S 26 (-2) = 20 ∧ S 26 (-1) = 24 ∧ S 27 (-2) = 22 ∧ S 27 (-1) = 6 := by
  have sd := (D.sv s n5).e
  simp only [Int.reduceAdd] at sd
  exact sd
theorem CX.go {t : Int → Int} {N p : Int} (X : CX t N p S h) (f1 : g 1 = h 1) (f22 : g 22 = h 22) : CX t N p S g := CX.mk X.s (by rw [f1]; exact X.t) X.N2 X.p0 (CT.mk (by rw [f22]; exact X.c.N) (by rw [f22]; exact X.c.s) (by rw [f22]; exact X.c.p) (by rw [f22]; exact X.c.k) (by rw [f22]; exact X.c.v))
end
