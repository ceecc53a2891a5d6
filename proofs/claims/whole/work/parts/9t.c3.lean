/-! act -/
theorem tCR {bs : List Int} : ∀ {h g : mx_H}, h 36 1 = g 38 22 → (∀ k, 0 ≤ k → k < h 36 1 → h 37 k = g 52 k) → ∀ k, 0 ≤ k → k < h 36 1 + bs.length → tC h bs 37 k = tR g bs 52 k := by
  induction bs with
  | nil =>
    intro h g e a k k0 k1
    simp only [List.length_nil] at k1
    exact a k k0 (by omega)
  | cons b bs ih =>
    intro h g e a k k0 k1
    simp only [List.length_cons] at k1
    refine ih (h := mx_u (mx_u h 36 1 (h 36 1 + 1)) 37 (h 36 1) b) (g := mx_u (mx_u g 52 (g 38 22) b) 38 22 (g 38 22 + 1)) ?_ ?_ k k0 ?_
    · rw [u_c, mx_u_s, e]
    · intro j j0 j1
      rw [u_c] at j1
      rw [mx_u_a (b := 52) (by decide)]
      by_cases q : j = h 36 1
      · rw [mx_u_e rfl q, mx_u_e rfl (by omega)]
      · rw [mx_u_k q, mx_u_a (by decide), mx_u_k (by omega)]
        exact a j j0 (by omega)
    · rw [u_c]; omega
theorem tC_l {bs : List Int} : ∀ {h : mx_H} {k : Int}, k < h 36 1 → tC h bs 37 k = h 37 k := by
  induction bs with
  | nil => intro h k q; rfl
  | cons b bs ih =>
    intro h k q
    have := ih (h := mx_u (mx_u h 36 1 (h 36 1 + 1)) 37 (h 36 1) b) (k := k) (by rw [u_c]; omega)
    rw [mx_u_k (by omega), mx_u_a (by decide)] at this
    exact this
theorem se_o {h : mx_H} {A i b : Int} (q : ¬ b = 36) : se h A i b = h b := by
  unfold se; split
  · rw [mx_u_a q]
  · rfl
section
variable {h g : mx_H} {bs : List Int} {A i : Int}
theorem trc_i (h1 : h 36 1 = 0) (h2 : h 36 2 = -1) (g1 : g 38 22 = 0) (gC : ∀ b, ¬ b = 38 → ¬ b = 52 → g b = tC h bs b) (l : bs.length ≤ 12) : trc (tR g bs) := by
  have e36 : tR g bs 36 = tC h bs 36 := by rw [tR_o (by decide) (by decide), gC 36 (by decide) (by decide)]
  have e37 : tR g bs 37 = tC h bs 37 := by rw [tR_o (by decide) (by decide), gC 37 (by decide) (by decide)]
  have c := tC_c (h := h) (bs := bs)
  have r := tR_c (h := g) (bs := bs)
  refine trc.mk (by rw [e36, c, h1]; omega) (Or.inl ⟨by rw [e36, tC_k (by decide)]; exact h2, by rw [e36, c, r, h1, g1]⟩) ?_
  intro k k0 k1
  rw [r, g1] at k1
  rw [e37]
  exact tCR (by rw [h1, g1]) (fun j j0 j1 => by omega) k k0 (by omega)
theorem trc_s (h1 : h 36 1 = 0) (h2 : h 36 2 = -1) (g1 : g 38 22 = 0) (gC : ∀ b, ¬ b = 38 → ¬ b = 52 → g b = se (tC h bs) A i b) (l : bs.length ≤ 12) : trc (sR (tR g bs) A i) := by
  have e36 : sR (tR g bs) A i 36 = se (tC h bs) A i 36 := by unfold sR; rw [mx_u_a (by decide), tR_o (by decide) (by decide), gC 36 (by decide) (by decide)]
  have e37 : sR (tR g bs) A i 37 = tC h bs 37 := by unfold sR; rw [mx_u_a (by decide), tR_o (by decide) (by decide), gC 37 (by decide) (by decide), se_o (by decide)]
  have e52 : sR (tR g bs) A i 52 = tR g bs 52 := by unfold sR; rw [mx_u_a (by decide)]
  have c := tC_c (h := h) (bs := bs)
  have r := tR_c (h := g) (bs := bs)
  have r2 : sR (tR g bs) A i 38 22 = bs.length := by rw [sR_c, r, g1]; omega
  have c2 : sR (tR g bs) A i 36 1 = bs.length := by rw [e36, se_c, c, h1]; omega
  refine trc.mk (by rw [c2]; omega) ?_ ?_
  · by_cases q : A = i
    · refine Or.inr ⟨?_, by rw [r2]; omega, by rw [r2, c2]; omega⟩
      rw [r2, e36]; unfold se; rw [if_pos q, mx_u_s, c, h1]; omega
    · refine Or.inl ⟨?_, by rw [r2, c2]⟩
      rw [e36]; unfold se; rw [if_neg q, tC_k (by decide)]; exact h2
  · intro k k0 k1
    rw [r2] at k1
    rw [e37, e52]
    exact tCR (by rw [h1, g1]) (fun j j0 j1 => by omega) k k0 (by omega)
theorem trc_t (h1 : h 36 1 = 0) (h2 : h 36 2 = -1) (g1 : g 38 22 = 0) (gC : ∀ b, ¬ b = 38 → ¬ b = 52 → g b = tC (se (tC h bs) A i) [10] b) (l : bs.length ≤ 12) : trc (if A = i then sR (tR g bs) A i else tR (sR (tR g bs) A i) [10]) := by
  have c := tC_c (h := h) (bs := bs)
  have r := tR_c (h := g) (bs := bs)
  have ag := tCR (h := h) (g := g) (bs := bs) (by rw [h1, g1]) (fun j j0 j1 => by omega)
  have c2 : se (tC h bs) A i 36 1 = bs.length := by rw [se_c, c, h1]; omega
  have c3 : tC (se (tC h bs) A i) [10] 36 1 = bs.length + 1 := by rw [tC_c, c2]; rfl
  have r2 : sR (tR g bs) A i 38 22 = bs.length := by rw [sR_c, r, g1]; omega
  have e52 : sR (tR g bs) A i 52 = tR g bs 52 := by unfold sR; rw [mx_u_a (by decide)]
  by_cases q : A = i
  · rw [if_pos q]
    have e36 : sR (tR g bs) A i 36 = tC (se (tC h bs) A i) [10] 36 := by unfold sR; rw [mx_u_a (by decide), tR_o (by decide) (by decide), gC 36 (by decide) (by decide)]
    have e37 : sR (tR g bs) A i 37 = tC (se (tC h bs) A i) [10] 37 := by unfold sR; rw [mx_u_a (by decide), tR_o (by decide) (by decide), gC 37 (by decide) (by decide)]
    refine trc.mk (by rw [e36, c3]; omega) (Or.inr ⟨?_, by rw [r2]; omega, by rw [r2, e36, c3]; omega⟩) ?_
    · rw [r2, e36, tC_k (by decide)]; unfold se; rw [if_pos q, mx_u_s, c, h1]; omega
    · intro k k0 k1
      rw [r2] at k1
      rw [e37, e52, tC_l (by rw [c2]; exact k1), se_o (by decide)]
      exact ag k k0 (by rw [h1]; omega)
  · rw [if_neg q]
    have es : se (tC h bs) A i = tC h bs := by unfold se; rw [if_neg q]
    rw [es] at gC c2 c3
    have e36 : tR (sR (tR g bs) A i) [10] 36 = tC (tC h bs) [10] 36 := by rw [tR_o (by decide) (by decide)]; unfold sR; rw [mx_u_a (by decide), tR_o (by decide) (by decide), gC 36 (by decide) (by decide)]
    have e37 : tR (sR (tR g bs) A i) [10] 37 = tC (tC h bs) [10] 37 := by rw [tR_o (by decide) (by decide)]; unfold sR; rw [mx_u_a (by decide), tR_o (by decide) (by decide), gC 37 (by decide) (by decide)]
    have r3 : tR (sR (tR g bs) A i) [10] 38 22 = bs.length + 1 := by rw [tR_c, r2]; rfl
    refine trc.mk (by rw [e36, c3]; omega) (Or.inl ⟨?_, by rw [r3, e36, c3]⟩) ?_
    · rw [e36, tC_k (by decide), tC_k (by decide)]; exact h2
    · intro k k0 k1
      rw [r3] at k1
      rw [e37]
      refine tCR (by rw [c2, r2]) (fun j j0 j1 => ?_) k k0 (by rw [c2]; exact k1)
      rw [e52]
      rw [c2] at j1
      exact ag j j0 (by rw [h1]; omega)
end
section
variable {L : Nat} {x : Nat → Int32} {S T h g : mx_H} {n m c : Int} {d : Nat}
theorem Inv.a' (v : Inv L x S h n c) (hc : c ≤ 599) (f : ∀ b, ¬ b = 36 → ¬ b = 37 → ¬ b = 38 → ¬ b = 52 → g b = h b) (f38 : ∀ k, k < 22 → g 38 k = h 38 k) (t : trc g) : Inv L x S g n (c + 1) := by
  have ff : ∀ a, ¬ (36 ≤ a ∧ a ≤ 38) → ¬ a = 52 → g a = h a := fun a y z => f a (by omega) (by omega) (by omega) z
  have fb : ∀ a, 53 ≤ a → g a = h a := fun a y => ff a (by omega) (by omega)
  refine Inv.w (Inv.mk v.s (fun a z => by rw [ff a (by omega) (by omega)]; exact v.g a z) v.n v.c ?_ ?_ ?_ ?_ ?_ ?_ t ?_) hc
  · exact v.t.gg (ff 39 (by decide) (by decide)) (by rw [ff 0 (by decide) (by decide)]) (by rw [ff 3 (by decide) (by decide)]) (by rw [ff 3 (by decide) (by decide)]) (ff 4 (by decide) (by decide)) (ff 5 (by decide) (by decide)) (ff 6 (by decide) (by decide)) rfl (fun _ _ _ => rfl) (fun a y _ => fb a y) (Int.le_refl _)
  · exact v.k.gg v.t (ff 39 (by decide) (by decide)) (ff 40 (by decide) (by decide)) (by rw [ff 0 (by decide) (by decide)]) (by rw [ff 0 (by decide) (by decide)]) (f38 3 (by decide)) (by rw [ff 17 (by decide) (by decide)]) (by rw [ff 17 (by decide) (by decide)]) (ff 18 (by decide) (by decide)) (ff 19 (by decide) (by decide)) (ff 20 (by decide) (by decide)) rfl rfl (fun _ _ _ => rfl) (fun a y _ => fb a y) (Int.le_refl _)
  · exact v.p.gg (by rw [ff 0 (by decide) (by decide)]) (f38 5 (by decide)) (ff 1 (by decide) (by decide)) (ff 42 (by decide) (by decide))
  · exact v.r.gg (by rw [ff 0 (by decide) (by decide)]) (f38 15 (by decide)) (ff 30 (by decide) (by decide)) (ff 46 (by decide) (by decide))
  · exact v.b.gg (ff 47 (by decide) (by decide)) (ff 48 (by decide) (by decide)) (ff 49 (by decide) (by decide)) rfl (fun _ _ _ => rfl) (fun a y _ _ => fb a y) (Int.le_refl _)
  · exact v.l.gg (ff 33 (by decide) (by decide)) (ff 34 (by decide) (by decide)) (ff 50 (by decide) (by decide)) (ff 51 (by decide) (by decide)) rfl (fun _ _ _ => rfl) (fun a y _ _ => fb a y) (Int.le_refl _)
  · exact v.f.gg (ff 2 (by decide) (by decide)) (ff 15 (by decide) (by decide)) (ff 16 (by decide) (by decide)) (by rw [ff 3 (by decide) (by decide)]) (ff 39 (by decide) (by decide))
/-- the heap as an act begins -/
def h0' (h : mx_H) : mx_H := mx_u (mx_u h 36 1 0) 36 2 (-1)
theorem h0_o {b : Int} (q : ¬ b = 36) : h0' h b = h b := by unfold h0'; rw [mx_u_a q, mx_u_a q]
/-- no act -/
theorem Inv.a0 (v : Inv L x S h n c) (hc : c ≤ 599) : Inv L x S (mx_u (h0' h) 38 22 0) n (c + 1) := by
  refine v.a' hc (fun b b0 b1 b2 b3 => by rw [mx_u_a b2, h0_o b0]) (fun k k0 => by rw [mx_u_k (by omega), h0_o (by decide)]) (trc.mk ?_ ?_ ?_)
  · rw [mx_u_a (by decide)]; unfold h0'; rw [mx_u_k (by decide), mx_u_s]; decide
  · refine Or.inl ⟨?_, ?_⟩
    · rw [mx_u_a (by decide)]; unfold h0'; rw [mx_u_s]
    · rw [mx_u_s, mx_u_a (by decide)]; unfold h0'; rw [mx_u_k (by decide), mx_u_s]
  · intro k k0 k1
    rw [mx_u_s] at k1; omega
def gR (κ : Int) : Nat := if κ = 2 then 5 else if κ = 3 then 36 else if κ = 5 then 11 else 48
def gW (κ : Int) : Nat := if κ = 1 ∨ κ = 5 then 58 else if κ = 3 then 37 else 49
def gS (κ : Int) : Nat := if κ = 4 then 83 else if κ = 5 then 10 else 50
def gT (κ : Int) : Nat := if κ = 4 then 82 else if κ = 2 ∨ κ = 3 then 6 else 51
section
variable {κ i A y p : Int}
theorem vt_R (k : 0 ≤ κ ∧ κ ≤ 5) : mx_vt (κ + 1) [(1, 48), (2, 48), (3, 5), (4, 36), (5, 48), (6, 11)] = some (gR κ) := by
  rcases k6 k with q | q | q | q | q | q <;> subst q <;> rfl
theorem vt_W (k : 0 ≤ κ ∧ κ ≤ 5) : mx_vt (κ + 1) [(1, 49), (2, 58), (3, 49), (4, 37), (5, 49), (6, 58)] = some (gW κ) := by
  rcases k6 k with q | q | q | q | q | q <;> subst q <;> rfl
theorem vt_S (k : 0 ≤ κ ∧ κ ≤ 5) : mx_vt (κ + 1) [(1, 50), (2, 50), (3, 50), (4, 50), (5, 83), (6, 10)] = some (gS κ) := by
  rcases k6 k with q | q | q | q | q | q <;> subst q <;> rfl
theorem vt_T (k : 0 ≤ κ ∧ κ ≤ 5) : mx_vt (κ + 1) [(1, 51), (2, 51), (3, 6), (4, 6), (5, 82), (6, 51)] = some (gT κ) := by
  rcases k6 k with q | q | q | q | q | q <;> subst q <;> rfl
theorem c_rV (o : no S h p κ i A) (k : 0 ≤ κ ∧ κ ≤ 5) (c1 : h 36 1 ≤ 20) : ∃ g, g = tC h (rl κ) ∧ mx_M (d + 2) (gR κ) [(2, p), (0, y), (2, 36)] S h n = some (some (0, rdv κ i y), S, g, n) := by
  rcases k6 k with q | q | q | q | q | q <;> subst q
  · exact c_r4 (d := d + 2) o k (by omega)
  · exact c_r4 (d := d + 2) o k (by omega)
  · exact c_r0 (d := d + 1) o k (by omega)
  · exact c_r3 o k (by omega)
  · exact c_r4 (d := d + 2) o k (by omega)
  · exact c_r1 (d := d + 1) o k (by omega)
theorem ll_r (k : 0 ≤ κ ∧ κ ≤ 5) : (rl κ).length ≤ 3 := by rcases k6 k with q | q | q | q | q | q <;> subst q <;> decide
theorem ll_w (k : 0 ≤ κ ∧ κ ≤ 5) : (wl κ).length ≤ 8 := by rcases k6 k with q | q | q | q | q | q <;> subst q <;> decide
/-- an act without a parting: the program's side ends with G, the reference's with K -/
theorem act_1 (v : Inv L x S h n c) (hc : c ≤ 599) {a t w : Int} {bs : List Int} {as : List mx_V} (l : bs.length ≤ 12)
    (eC : mx_M (d + 12) 137 ((2, 0) :: as) S h n = some (some (0, w), S, tC (h0' h) bs, n))
    (eR : mx_M (d + 12) 243 ((2, 38) :: as) S (tC (h0' h) bs) n = some (some (0, w), S, tR (mx_u (mx_u (mx_u (tC (h0' h) bs) 38 22 0) 38 23 i) 38 24 0) bs, n)) :
    mx_W (mx_M (d + 12) 137 ((2, 0) :: as) S h n) (fun v S1 h1 n1 => mx_W (mx_M (d + 12) 243 ((2, 38) :: as) S1 h1 n1) (fun v2 S2 h2 n2 => (∃ y, v = some (0, y) ∧ v2 = some (0, y)) ∧ Inv L x S2 h2 n2 (c + 1))) := by
  rw [eC]; refine mx_W_s ?_
  rw [eR]; refine mx_W_s ⟨⟨_, rfl, rfl⟩, ?_⟩
  refine v.a' hc (fun b b0 b1 b2 b3 => ?_) (fun k k0 => ?_) (trc_i (h := h0' h) ?_ ?_ ?_ ?_ l)
  · rw [tR_o b2 b3, mx_u_a b2, mx_u_a b2, mx_u_a b2, tC_o b0 b1, h0_o b0]
  · rw [tR_k (by omega), mx_u_k (by omega), mx_u_k (by omega), mx_u_k (by omega), tC_o (by decide) (by decide), h0_o (by decide)]
  · unfold h0'; rw [mx_u_k (by decide), mx_u_s]
  · unfold h0'; rw [mx_u_s]
  · rw [mx_u_k (by decide), mx_u_k (by decide), mx_u_s]
  · intro b b0 b1; rw [mx_u_a b0, mx_u_a b0, mx_u_a b0]
theorem act_2 (v : Inv L x S h n c) (hc : c ≤ 599) {a t w : Int} {bs : List Int} {as : List mx_V} (l : bs.length ≤ 12)
    (eC : mx_M (d + 12) 137 ((2, 0) :: as) S h n = some (some (0, w), S, se (tC (h0' h) bs) A i, n))
    (eR : mx_M (d + 12) 243 ((2, 38) :: as) S (se (tC (h0' h) bs) A i) n = some (some (0, w), S, sR (tR (mx_u (mx_u (mx_u (se (tC (h0' h) bs) A i) 38 22 0) 38 23 i) 38 24 0) bs) A i, n)) :
    mx_W (mx_M (d + 12) 137 ((2, 0) :: as) S h n) (fun v S1 h1 n1 => mx_W (mx_M (d + 12) 243 ((2, 38) :: as) S1 h1 n1) (fun v2 S2 h2 n2 => (∃ y, v = some (0, y) ∧ v2 = some (0, y)) ∧ Inv L x S2 h2 n2 (c + 1))) := by
  rw [eC]; refine mx_W_s ?_
  rw [eR]; refine mx_W_s ⟨⟨_, rfl, rfl⟩, ?_⟩
  have sk : ∀ k, k < 22 → ∀ f : mx_H, sR f A i 38 k = f 38 k := fun k k0 f => by unfold sR; rw [mx_u_k (by omega)]
  have so : ∀ b, ¬ b = 38 → ∀ f : mx_H, sR f A i b = f b := fun b b0 f => by unfold sR; rw [mx_u_a b0]
  refine v.a' hc (fun b b0 b1 b2 b3 => ?_) (fun k k0 => ?_) (trc_s (h := h0' h) ?_ ?_ ?_ ?_ l)
  · rw [so b b2, tR_o b2 b3, mx_u_a b2, mx_u_a b2, mx_u_a b2, se_o b0, tC_o b0 b1, h0_o b0]
  · rw [sk k k0, tR_k (by omega), mx_u_k (by omega), mx_u_k (by omega), mx_u_k (by omega), se_o (by decide), tC_o (by decide) (by decide), h0_o (by decide)]
  · unfold h0'; rw [mx_u_k (by decide), mx_u_s]
  · unfold h0'; rw [mx_u_s]
  · rw [mx_u_k (by decide), mx_u_k (by decide), mx_u_s]
  · intro b b0 b1; rw [mx_u_a b0, mx_u_a b0, mx_u_a b0]
theorem act_3 (v : Inv L x S h n c) (hc : c ≤ 599) {a t w : Int} {bs : List Int} {as : List mx_V} (l : bs.length ≤ 12) {G K : mx_H} (eG : G = tC (se (tC (h0' h) bs) A i) [10]) {k0 : mx_H} (ek : k0 = mx_u (mx_u (mx_u G 38 22 0) 38 23 i) 38 24 0) (eK : K = if A = i then sR (tR k0 bs) A i else tR (sR (tR k0 bs) A i) [10])
    (eC : mx_M (d + 12) 137 ((2, 0) :: as) S h n = some (some (0, w), S, G, n))
    (eR : mx_M (d + 12) 243 ((2, 38) :: as) S G n = some (some (0, w), S, K, n)) :
    mx_W (mx_M (d + 12) 137 ((2, 0) :: as) S h n) (fun v S1 h1 n1 => mx_W (mx_M (d + 12) 243 ((2, 38) :: as) S1 h1 n1) (fun v2 S2 h2 n2 => (∃ y, v = some (0, y) ∧ v2 = some (0, y)) ∧ Inv L x S2 h2 n2 (c + 1))) := by
  rw [eC]; refine mx_W_s ?_
  rw [eR]; refine mx_W_s ⟨⟨_, rfl, rfl⟩, ?_⟩
  have sk : ∀ k, k < 22 → ∀ f : mx_H, sR f A i 38 k = f 38 k := fun k k0 f => by unfold sR; rw [mx_u_k (by omega)]
  have so : ∀ b, ¬ b = 38 → ∀ f : mx_H, sR f A i b = f b := fun b b0 f => by unfold sR; rw [mx_u_a b0]
  have fk : ∀ b, ¬ b = 36 → ¬ b = 37 → ¬ b = 38 → ¬ b = 52 → k0 b = h b := fun b b0 b1 b2 b3 => by rw [ek, mx_u_a b2, mx_u_a b2, mx_u_a b2, eG, tC_o b0 b1, se_o b0, tC_o b0 b1, h0_o b0]
  have fk8 : ∀ k, k < 22 → k0 38 k = h 38 k := fun k q => by rw [ek, mx_u_k (by omega), mx_u_k (by omega), mx_u_k (by omega), eG, tC_o (by decide) (by decide), se_o (by decide), tC_o (by decide) (by decide), h0_o (by decide)]
  refine v.a' hc (fun b b0 b1 b2 b3 => ?_) (fun k k0 => ?_) (by rw [eK]; exact trc_t (h := h0' h) (by unfold h0'; rw [mx_u_k (by decide), mx_u_s]) (by unfold h0'; rw [mx_u_s]) (by rw [ek, mx_u_k (by decide), mx_u_k (by decide), mx_u_s]) (fun b b0 b1 => by rw [ek, mx_u_a b0, mx_u_a b0, mx_u_a b0, eG]) l)
  · rw [eK]; split
    · rw [so b b2, tR_o b2 b3, fk b b0 b1 b2 b3]
    · rw [tR_o b2 b3, so b b2, tR_o b2 b3, fk b b0 b1 b2 b3]
  · rw [eK]; split
    · rw [sk k k0, tR_k (by omega), fk8 k k0]
    · rw [tR_k (by omega), sk k k0, tR_k (by omega), fk8 k k0]
end
end
