/-! What holds between two calls -/
/-- places of the fixed shape -/
def ok (a k : Int) : Prop := 0 ≤ a ∧ a ≤ 52 ∧ (k < 0 ∨ ¬ a = 7 ∧ ¬ a = 21 ∧ ¬ a = 27 ∧ ¬ a = 32 ∧ ¬ a = 35 ∧ ¬ (a = 22 ∧ k = 3))
def sh_X (S : mx_H) : Prop := (S 0 (-2) = 7 ∧ S 0 0 = 1 ∧ S 0 2 = 2 ∧ S 0 3 = 3 ∧ S 0 4 = 17 ∧ S 0 8 = 22 ∧ S 0 9 = 30 ∧ S 0 11 = 31 ∧ S 0 12 = 32 ∧ S 0 13 = 33 ∧ S 0 14 = 34 ∧ S 0 15 = 35 ∧ S 0 16 = 36 ∧
  S 1 (-2) = 20 ∧ S 1 (-1) = 200 ∧ S 22 (-2) = 10 ∧ S 22 0 = 23 ∧ S 22 2 = 28 ∧ S 28 (-2) = 20 ∧ S 28 (-1) = 6 ∧ S 30 (-2) = 21 ∧ S 30 (-1) = 18 ∧ S 31 (-2) = 20 ∧ S 31 (-1) = 3 ∧ S 32 (-2) = 23 ∧ S 32 (-1) = 4 ∧ S 33 (-2) = 20 ∧ S 33 (-1) = 4 ∧ S 34 (-2) = 20 ∧ S 34 (-1) = 4 ∧ S 35 (-2) = 23 ∧ S 35 (-1) = 4 ∧ S 36 (-2) = 11 ∧ S 36 0 = 37 ∧ S 37 (-2) = 20 ∧ S 37 (-1) = 32)
theorem sh_X.mk {S : mx_H} (x0 : S 0 (-2) = 7 ∧ S 0 0 = 1 ∧ S 0 2 = 2 ∧ S 0 3 = 3 ∧ S 0 4 = 17 ∧ S 0 8 = 22 ∧ S 0 9 = 30 ∧ S 0 11 = 31 ∧ S 0 12 = 32 ∧ S 0 13 = 33 ∧ S 0 14 = 34 ∧ S 0 15 = 35 ∧ S 0 16 = 36 ∧
  S 1 (-2) = 20 ∧ S 1 (-1) = 200 ∧ S 22 (-2) = 10 ∧ S 22 0 = 23 ∧ S 22 2 = 28 ∧ S 28 (-2) = 20 ∧ S 28 (-1) = 6 ∧ S 30 (-2) = 21 ∧ S 30 (-1) = 18 ∧ S 31 (-2) = 20 ∧ S 31 (-1) = 3 ∧ S 32 (-2) = 23 ∧ S 32 (-1) = 4 ∧ S 33 (-2) = 20 ∧ S 33 (-1) = 4 ∧ S 34 (-2) = 20 ∧ S 34 (-1) = 4 ∧ S 35 (-2) = 23 ∧ S 35 (-1) = 4 ∧ S 36 (-2) = 11 ∧ S 36 0 = 37 ∧ S 37 (-2) = 20 ∧ S 37 (-1) = 32) : sh_X S := x0
theorem sh_X.e {S : mx_H} (q : sh_X S) : S 0 (-2) = 7 ∧ S 0 0 = 1 ∧ S 0 2 = 2 ∧ S 0 3 = 3 ∧ S 0 4 = 17 ∧ S 0 8 = 22 ∧ S 0 9 = 30 ∧ S 0 11 = 31 ∧ S 0 12 = 32 ∧ S 0 13 = 33 ∧ S 0 14 = 34 ∧ S 0 15 = 35 ∧ S 0 16 = 36 ∧
  S 1 (-2) = 20 ∧ S 1 (-1) = 200 ∧ S 22 (-2) = 10 ∧ S 22 0 = 23 ∧ S 22 2 = 28 ∧ S 28 (-2) = 20 ∧ S 28 (-1) = 6 ∧ S 30 (-2) = 21 ∧ S 30 (-1) = 18 ∧ S 31 (-2) = 20 ∧ S 31 (-1) = 3 ∧ S 32 (-2) = 23 ∧ S 32 (-1) = 4 ∧ S 33 (-2) = 20 ∧ S 33 (-1) = 4 ∧ S 34 (-2) = 20 ∧ S 34 (-1) = 4 ∧ S 35 (-2) = 23 ∧ S 35 (-1) = 4 ∧ S 36 (-2) = 11 ∧ S 36 0 = 37 ∧ S 37 (-2) = 20 ∧ S 37 (-1) = 32 := q
def shp (S : mx_H) (L : Nat) : Prop := (sh_M S) ∧ (sh_F S) ∧ (sv S 17) ∧ (sv S 23) ∧ (sh_X S) ∧ (∀ a, a < 0 → S a = st_gS L a)
theorem shp.mk {S : mx_H} {L : Nat} (x0 : sh_M S) (x1 : sh_F S) (x2 : sv S 17) (x3 : sv S 23) (x4 : sh_X S) (x5 : ∀ a, a < 0 → S a = st_gS L a) : shp S L := (And.intro x0 (And.intro x1 (And.intro x2 (And.intro x3 (And.intro x4 x5)))))
theorem shp.m {S : mx_H} {L : Nat} (q : shp S L) : sh_M S := (And.left q)
theorem shp.f {S : mx_H} {L : Nat} (q : shp S L) : sh_F S := (And.left (And.right q))
theorem shp.k {S : mx_H} {L : Nat} (q : shp S L) : sv S 17 := (And.left (And.right (And.right q)))
theorem shp.t {S : mx_H} {L : Nat} (q : shp S L) : sv S 23 := (And.left (And.right (And.right (And.right q))))
theorem shp.x {S : mx_H} {L : Nat} (q : shp S L) : sh_X S := (And.left (And.right (And.right (And.right (And.right q)))))
theorem shp.n {S : mx_H} {L : Nat} (q : shp S L) : ∀ a, a < 0 → S a = st_gS L a := (And.right (And.right (And.right (And.right (And.right q)))))
theorem shp.gg {S T : mx_H} {L : Nat} (s : shp S L) (f : ∀ a k, ok a k → T a k = S a k) (fn : ∀ a, a < 0 → T a = S a) : shp T L := by
  have f' : ∀ a k, 0 ≤ a → a ≤ 52 → (k < 0 ∨ ¬ a = 7 ∧ ¬ a = 21 ∧ ¬ a = 27 ∧ ¬ a = 32 ∧ ¬ a = 35 ∧ ¬ (a = 22 ∧ k = 3)) → T a k = S a k := fun a k x y z => f a k ⟨x, y, z⟩
  refine shp.mk (sh_M.mk ?_) (sh_F.mk ?_) (sv.mk ?_) (sv.mk ?_) (sh_X.mk ?_) (fun a h => by rw [fn a h]; exact s.n a h)
  · have e := s.m.e
    simp (disch := omega) only [f']; exact e
  · have e := s.f.e
    rw [fn (-3) (by decide), fn (-4) (by decide)]
    simp (disch := omega) only [f']; exact e
  · have e := s.k.e
    simp only [Int.reduceAdd] at e ⊢
    simp (disch := omega) only [f']; exact e
  · have e := s.t.e
    simp only [Int.reduceAdd] at e ⊢
    simp (disch := omega) only [f']; exact e
  · have e := s.x.e
    simp (disch := omega) only [f']; exact e
theorem nr.gg {S T h g : mx_H} {N M p i : Int} {σ : Int → Int} (r : nr S h N p σ i) (sS : ∀ a, 53 ≤ a → a < N → T a = S a) (hh : ∀ a, 53 ≤ a → a < N → g a = h a) (le : N ≤ M) : nr T g M p σ i := by
  have e1 := sS p r.p0 r.p1
  have e2 := hh p r.p0 r.p1
  have q : T p 2 = S p 2 := by rw [e1]
  have e3 := sS _ r.q0 r.q1
  have e4 := hh _ r.q0 r.q1
  refine nr.mk (by rw [e1]; exact r.t) (by rw [e2]; exact r.n) (by rw [e2]; exact r.a) (by rw [e2]; exact r.e) (by rw [q, e3]; exact r.q) (by rw [q, e3]; exact r.l) (fun k a b => by rw [q, e4]; exact r.s k a b) r.p0 (by have := r.p1; omega) (by rw [q]; exact r.q0) (by rw [q]; have := r.q1; omega)
theorem rr.gg {S T h g : mx_H} {N M v : Int} {σ : Int → Int} (r : rr S h N v σ) (c3 : g v 3 = h v 3) (c4 : g v 4 = h v 4) (h1 : g (v + 1) = h (v + 1)) (h2 : g (v + 2) = h (v + 2)) (h3 : g (v + 3) = h (v + 3)) (s : T (v + 4) = S (v + 4)) (sS : ∀ a, 53 ≤ a → a < N → T a = S a) (hh : ∀ a, 53 ≤ a → a < N → g a = h a) (le : N ≤ M) : rr T g M v σ := by
  refine rr.mk (by rw [c3]; exact r.c) (by rw [c4]; exact r.L) (fun e a b => by rw [h1]; exact r.lo e a b) (fun e a b => by rw [h2]; exact r.hi e a b) (fun l k a b x y => by rw [h3]; exact r.l l k a b x y) (fun i a b => by rw [s]; exact (r.n i a b).gg sS hh le)
def stt (S h : mx_H) (n : Int) : Prop := (vw (h 39)) ∧ (rr S h n 3 (h 39)) ∧ (∀ i j, 0 ≤ i → i < h 39 0 → 0 ≤ j → j < h 39 0 → ¬ i = j → ¬ S 7 i = S 7 j ∧ ¬ S (S 7 i) 2 = S (S 7 j) 2) ∧ (h 0 6 = h 39 2)
theorem stt.mk {S h : mx_H} {n : Int} (x0 : vw (h 39)) (x1 : rr S h n 3 (h 39)) (x2 : ∀ i j, 0 ≤ i → i < h 39 0 → 0 ≤ j → j < h 39 0 → ¬ i = j → ¬ S 7 i = S 7 j ∧ ¬ S (S 7 i) 2 = S (S 7 j) 2) (x3 : h 0 6 = h 39 2) : stt S h n := (And.intro x0 (And.intro x1 (And.intro x2 x3)))
theorem stt.w {S h : mx_H} {n : Int} (q : stt S h n) : vw (h 39) := (And.left q)
theorem stt.r {S h : mx_H} {n : Int} (q : stt S h n) : rr S h n 3 (h 39) := (And.left (And.right q))
theorem stt.d {S h : mx_H} {n : Int} (q : stt S h n) : ∀ i j, 0 ≤ i → i < h 39 0 → 0 ≤ j → j < h 39 0 → ¬ i = j → ¬ S 7 i = S 7 j ∧ ¬ S (S 7 i) 2 = S (S 7 j) 2 := (And.left (And.right (And.right q)))
theorem stt.u {S h : mx_H} {n : Int} (q : stt S h n) : h 0 6 = h 39 2 := (And.right (And.right (And.right q)))
/-- numbers and notes of the two valleys are apart -/
def ap (S : mx_H) (h : mx_H) : Prop := ∀ i j, 0 ≤ i → i < h 39 0 → 0 ≤ j → j < h 40 0 → ¬ S 7 i = S 21 j ∧ ¬ S (S 7 i) 2 = S (S 21 j) 2
def kpt (S h : mx_H) (n : Int) : Prop := (h 0 5 = h 38 3) ∧ (h 38 3 = 0 ∨ h 38 3 = 1) ∧ (h 38 3 = 1 → vw (h 40)) ∧ (h 38 3 = 1 → rr S h n 17 (h 40)) ∧ (h 38 3 = 1 → h 0 7 = h 40 2) ∧ (h 38 3 = 1 → ap S h)
theorem kpt.mk {S h : mx_H} {n : Int} (x0 : h 0 5 = h 38 3) (x1 : h 38 3 = 0 ∨ h 38 3 = 1) (x2 : h 38 3 = 1 → vw (h 40)) (x3 : h 38 3 = 1 → rr S h n 17 (h 40)) (x4 : h 38 3 = 1 → h 0 7 = h 40 2) (x5 : h 38 3 = 1 → ap S h) : kpt S h n := (And.intro x0 (And.intro x1 (And.intro x2 (And.intro x3 (And.intro x4 x5)))))
theorem kpt.b {S h : mx_H} {n : Int} (q : kpt S h n) : h 0 5 = h 38 3 := (And.left q)
theorem kpt.c {S h : mx_H} {n : Int} (q : kpt S h n) : h 38 3 = 0 ∨ h 38 3 = 1 := (And.left (And.right q))
theorem kpt.w {S h : mx_H} {n : Int} (q : kpt S h n) : h 38 3 = 1 → vw (h 40) := (And.left (And.right (And.right q)))
theorem kpt.r {S h : mx_H} {n : Int} (q : kpt S h n) : h 38 3 = 1 → rr S h n 17 (h 40) := (And.left (And.right (And.right (And.right q))))
theorem kpt.u {S h : mx_H} {n : Int} (q : kpt S h n) : h 38 3 = 1 → h 0 7 = h 40 2 := (And.left (And.right (And.right (And.right (And.right q)))))
theorem kpt.d {S h : mx_H} {n : Int} (q : kpt S h n) : h 38 3 = 1 → ap S h := (And.right (And.right (And.right (And.right (And.right q)))))
def tpe (h : mx_H) : Prop := (h 0 1 = h 38 5) ∧ (0 ≤ h 38 5 ∧ h 38 5 ≤ 200) ∧ (∀ k, 0 ≤ k → k < h 38 5 → h 1 k = h 42 k) ∧ (∀ k, 0 ≤ k → k < h 38 5 → 0 ≤ h 42 k ∧ h 42 k ≤ 255)
theorem tpe.mk {h : mx_H} (x0 : h 0 1 = h 38 5) (x1 : 0 ≤ h 38 5 ∧ h 38 5 ≤ 200) (x2 : ∀ k, 0 ≤ k → k < h 38 5 → h 1 k = h 42 k) (x3 : ∀ k, 0 ≤ k → k < h 38 5 → 0 ≤ h 42 k ∧ h 42 k ≤ 255) : tpe h := (And.intro x0 (And.intro x1 (And.intro x2 x3)))
theorem tpe.c {h : mx_H} (q : tpe h) : h 0 1 = h 38 5 := (And.left q)
theorem tpe.r {h : mx_H} (q : tpe h) : 0 ≤ h 38 5 ∧ h 38 5 ≤ 200 := (And.left (And.right q))
theorem tpe.t {h : mx_H} (q : tpe h) : ∀ k, 0 ≤ k → k < h 38 5 → h 1 k = h 42 k := (And.left (And.right (And.right q)))
theorem tpe.b {h : mx_H} (q : tpe h) : ∀ k, 0 ≤ k → k < h 38 5 → 0 ≤ h 42 k ∧ h 42 k ≤ 255 := (And.right (And.right (And.right q)))
def rws (h : mx_H) : Prop := (h 0 10 = h 38 15) ∧ (0 ≤ h 38 15 ∧ h 38 15 ≤ 6) ∧ (∀ k, 0 ≤ k → k < 3 * h 38 15 → h 30 k = h 46 k)
theorem rws.mk {h : mx_H} (x0 : h 0 10 = h 38 15) (x1 : 0 ≤ h 38 15 ∧ h 38 15 ≤ 6) (x2 : ∀ k, 0 ≤ k → k < 3 * h 38 15 → h 30 k = h 46 k) : rws h := (And.intro x0 (And.intro x1 x2))
theorem rws.c {h : mx_H} (q : rws h) : h 0 10 = h 38 15 := (And.left q)
theorem rws.r {h : mx_H} (q : rws h) : 0 ≤ h 38 15 ∧ h 38 15 ≤ 6 := (And.left (And.right q))
theorem rws.t {h : mx_H} (q : rws h) : ∀ k, 0 ≤ k → k < 3 * h 38 15 → h 30 k = h 46 k := (And.right (And.right q))
/-- a row of the program, of a sort and a size -/
def sr (S h : mx_H) (n p s z : Int) : Prop := (53 ≤ p ∧ p < n) ∧ (S p (-2) = 12) ∧ (h p 0 = s) ∧ (0 ≤ s ∧ s ≤ 3) ∧ (53 ≤ S p 1 ∧ S p 1 < n) ∧ (S (S p 1) (-2) = 21) ∧ (S (S p 1) (-1) = z) ∧ (0 ≤ z ∧ z ≤ 40)
theorem sr.mk {S h : mx_H} {n p s z : Int} (x0 : 53 ≤ p ∧ p < n) (x1 : S p (-2) = 12) (x2 : h p 0 = s) (x3 : 0 ≤ s ∧ s ≤ 3) (x4 : 53 ≤ S p 1 ∧ S p 1 < n) (x5 : S (S p 1) (-2) = 21) (x6 : S (S p 1) (-1) = z) (x7 : 0 ≤ z ∧ z ≤ 40) : sr S h n p s z := (And.intro x0 (And.intro x1 (And.intro x2 (And.intro x3 (And.intro x4 (And.intro x5 (And.intro x6 x7)))))))
theorem sr.p {S h : mx_H} {n p s z : Int} (q : sr S h n p s z) : 53 ≤ p ∧ p < n := (And.left q)
theorem sr.t {S h : mx_H} {n p s z : Int} (q : sr S h n p s z) : S p (-2) = 12 := (And.left (And.right q))
theorem sr.s {S h : mx_H} {n p s z : Int} (q : sr S h n p s z) : h p 0 = s := (And.left (And.right (And.right q)))
theorem sr.s0 {S h : mx_H} {n p s z : Int} (q : sr S h n p s z) : 0 ≤ s ∧ s ≤ 3 := (And.left (And.right (And.right (And.right q))))
theorem sr.i {S h : mx_H} {n p s z : Int} (q : sr S h n p s z) : 53 ≤ S p 1 ∧ S p 1 < n := (And.left (And.right (And.right (And.right (And.right q)))))
theorem sr.q {S h : mx_H} {n p s z : Int} (q : sr S h n p s z) : S (S p 1) (-2) = 21 := (And.left (And.right (And.right (And.right (And.right (And.right q))))))
theorem sr.l {S h : mx_H} {n p s z : Int} (q : sr S h n p s z) : S (S p 1) (-1) = z := (And.left (And.right (And.right (And.right (And.right (And.right (And.right q)))))))
theorem sr.z0 {S h : mx_H} {n p s z : Int} (q : sr S h n p s z) : 0 ≤ z ∧ z ≤ 40 := (And.right (And.right (And.right (And.right (And.right (And.right (And.right q)))))))
theorem sr.gg {S T h g : mx_H} {n m p s z : Int} (r : sr S h n p s z) (sS : ∀ a, 53 ≤ a → a < n → T a = S a) (hh : ∀ a, 53 ≤ a → a < n → S a (-2) = 12 → g a = h a) (le : n ≤ m) : sr T g m p s z := by
  have e1 := sS p r.p.1 r.p.2
  have e2 := hh p r.p.1 r.p.2 r.t
  have q : T p 1 = S p 1 := by rw [e1]
  have e3 := sS _ r.i.1 r.i.2
  have := r.p
  have := r.i
  refine sr.mk (by omega) (by rw [e1]; exact r.t) (by rw [e2]; exact r.s) r.s0 (by rw [q]; omega) (by rw [q, e3]; exact r.q) (by rw [q, e3]; exact r.l) r.z0
def shs (S h : mx_H) (n : Int) : Prop := (∀ k, 0 ≤ k → k ≤ 3 → h 47 k = -1 ∧ S 32 k = -1 ∨ sr S h n (S 32 k) (h 47 k) (h 48 k) ∧ ∀ j, 0 ≤ j → j < h 48 k → h (S (S 32 k) 1) j = h 49 (40 * k + j)) ∧ (∀ k l, 0 ≤ k → k ≤ 3 → 0 ≤ l → l ≤ 3 → ¬ k = l → 0 ≤ h 47 k → 0 ≤ h 47 l → ¬ S (S 32 k) 1 = S (S 32 l) 1)
theorem shs.mk {S h : mx_H} {n : Int} (x0 : ∀ k, 0 ≤ k → k ≤ 3 → h 47 k = -1 ∧ S 32 k = -1 ∨ sr S h n (S 32 k) (h 47 k) (h 48 k) ∧ ∀ j, 0 ≤ j → j < h 48 k → h (S (S 32 k) 1) j = h 49 (40 * k + j)) (x1 : ∀ k l, 0 ≤ k → k ≤ 3 → 0 ≤ l → l ≤ 3 → ¬ k = l → 0 ≤ h 47 k → 0 ≤ h 47 l → ¬ S (S 32 k) 1 = S (S 32 l) 1) : shs S h n := (And.intro x0 x1)
theorem shs.s {S h : mx_H} {n : Int} (q : shs S h n) : ∀ k, 0 ≤ k → k ≤ 3 → h 47 k = -1 ∧ S 32 k = -1 ∨ sr S h n (S 32 k) (h 47 k) (h 48 k) ∧ ∀ j, 0 ≤ j → j < h 48 k → h (S (S 32 k) 1) j = h 49 (40 * k + j) := (And.left q)
theorem shs.d {S h : mx_H} {n : Int} (q : shs S h n) : ∀ k l, 0 ≤ k → k ≤ 3 → 0 ≤ l → l ≤ 3 → ¬ k = l → 0 ≤ h 47 k → 0 ≤ h 47 l → ¬ S (S 32 k) 1 = S (S 32 l) 1 := (And.right q)
def slv (S h : mx_H) (n : Int) : Prop := (∀ k, 0 ≤ k → k ≤ 3 → (h 33 k = 0 ∧ h 50 k = 1 ∧ h 51 k = h 34 k ∧ S 35 k = -1 ∧ 0 ≤ h 34 k ∧ h 34 k ≤ 5) ∨ (¬ h 33 k = 0 ∧ h 50 k = 0 ∧ S 35 k = -1) ∨ (¬ h 33 k = 0 ∧ 10 ≤ h 50 k ∧ sr S h n (S 35 k) (h 50 k - 10) (h 51 k)))
theorem slv.mk {S h : mx_H} {n : Int} (x0 : ∀ k, 0 ≤ k → k ≤ 3 → (h 33 k = 0 ∧ h 50 k = 1 ∧ h 51 k = h 34 k ∧ S 35 k = -1 ∧ 0 ≤ h 34 k ∧ h 34 k ≤ 5) ∨ (¬ h 33 k = 0 ∧ h 50 k = 0 ∧ S 35 k = -1) ∨ (¬ h 33 k = 0 ∧ 10 ≤ h 50 k ∧ sr S h n (S 35 k) (h 50 k - 10) (h 51 k))) : slv S h n := x0
theorem slv.s {S h : mx_H} {n : Int} (q : slv S h n) : ∀ k, 0 ≤ k → k ≤ 3 → (h 33 k = 0 ∧ h 50 k = 1 ∧ h 51 k = h 34 k ∧ S 35 k = -1 ∧ 0 ≤ h 34 k ∧ h 34 k ≤ 5) ∨ (¬ h 33 k = 0 ∧ h 50 k = 0 ∧ S 35 k = -1) ∨ (¬ h 33 k = 0 ∧ 10 ≤ h 50 k ∧ sr S h n (S 35 k) (h 50 k - 10) (h 51 k)) := q
def trc (h : mx_H) : Prop := (0 ≤ h 36 1 ∧ h 36 1 ≤ 20) ∧ (h 36 2 = -1 ∧ h 38 22 = h 36 1 ∨ h 36 2 = h 38 22 ∧ 0 ≤ h 38 22 ∧ h 38 22 ≤ h 36 1) ∧ (∀ k, 0 ≤ k → k < h 38 22 → h 37 k = h 52 k)
theorem trc.mk {h : mx_H} (x0 : 0 ≤ h 36 1 ∧ h 36 1 ≤ 20) (x1 : h 36 2 = -1 ∧ h 38 22 = h 36 1 ∨ h 36 2 = h 38 22 ∧ 0 ≤ h 38 22 ∧ h 38 22 ≤ h 36 1) (x2 : ∀ k, 0 ≤ k → k < h 38 22 → h 37 k = h 52 k) : trc h := (And.intro x0 (And.intro x1 x2))
theorem trc.c {h : mx_H} (q : trc h) : 0 ≤ h 36 1 ∧ h 36 1 ≤ 20 := (And.left q)
theorem trc.e {h : mx_H} (q : trc h) : h 36 2 = -1 ∧ h 38 22 = h 36 1 ∨ h 36 2 = h 38 22 ∧ 0 ≤ h 38 22 ∧ h 38 22 ≤ h 36 1 := (And.left (And.right q))
theorem trc.t {h : mx_H} (q : trc h) : ∀ k, 0 ≤ k → k < h 38 22 → h 37 k = h 52 k := (And.right (And.right q))
def fnd (h : mx_H) (c : Int) : Prop := (hz h) ∧ (h 2 14 = h 3 5 → fc h (h 39)) ∧ (h 2 15 = h 3 5 → mf h (h 39)) ∧ (0 ≤ h 3 5 ∧ h 3 5 ≤ 10 * c) ∧ (h 2 14 ≤ h 3 5) ∧ (h 2 15 ≤ h 3 5)
theorem fnd.mk {h : mx_H} {c : Int} (x0 : hz h) (x1 : h 2 14 = h 3 5 → fc h (h 39)) (x2 : h 2 15 = h 3 5 → mf h (h 39)) (x3 : 0 ≤ h 3 5 ∧ h 3 5 ≤ 10 * c) (x4 : h 2 14 ≤ h 3 5) (x5 : h 2 15 ≤ h 3 5) : fnd h c := (And.intro x0 (And.intro x1 (And.intro x2 (And.intro x3 (And.intro x4 x5)))))
theorem fnd.z {h : mx_H} {c : Int} (q : fnd h c) : hz h := (And.left q)
theorem fnd.f {h : mx_H} {c : Int} (q : fnd h c) : h 2 14 = h 3 5 → fc h (h 39) := (And.left (And.right q))
theorem fnd.m {h : mx_H} {c : Int} (q : fnd h c) : h 2 15 = h 3 5 → mf h (h 39) := (And.left (And.right (And.right q)))
theorem fnd.v {h : mx_H} {c : Int} (q : fnd h c) : 0 ≤ h 3 5 ∧ h 3 5 ≤ 10 * c := (And.left (And.right (And.right (And.right q))))
theorem fnd.a {h : mx_H} {c : Int} (q : fnd h c) : h 2 14 ≤ h 3 5 := (And.left (And.right (And.right (And.right (And.right q)))))
theorem fnd.b {h : mx_H} {c : Int} (q : fnd h c) : h 2 15 ≤ h 3 5 := (And.right (And.right (And.right (And.right (And.right q)))))
def Inv (L : Nat) (x : Nat → Int32) (S h : mx_H) (n c : Int) : Prop := (shp S L) ∧ (∀ a, a < 0 → h a = st_gh x a) ∧ (53 ≤ n ∧ n ≤ 53 + 24 * c) ∧ (0 ≤ c ∧ c ≤ 600) ∧ (stt S h n) ∧ (kpt S h n) ∧ (tpe h) ∧ (rws h) ∧ (shs S h n) ∧ (slv S h n) ∧ (trc h) ∧ (fnd h c)
theorem Inv.mk {L : Nat} {x : Nat → Int32} {S h : mx_H} {n c : Int} (x0 : shp S L) (x1 : ∀ a, a < 0 → h a = st_gh x a) (x2 : 53 ≤ n ∧ n ≤ 53 + 24 * c) (x3 : 0 ≤ c ∧ c ≤ 600) (x4 : stt S h n) (x5 : kpt S h n) (x6 : tpe h) (x7 : rws h) (x8 : shs S h n) (x9 : slv S h n) (x10 : trc h) (x11 : fnd h c) : Inv L x S h n c := (And.intro x0 (And.intro x1 (And.intro x2 (And.intro x3 (And.intro x4 (And.intro x5 (And.intro x6 (And.intro x7 (And.intro x8 (And.intro x9 (And.intro x10 x11)))))))))))
theorem Inv.s {L : Nat} {x : Nat → Int32} {S h : mx_H} {n c : Int} (q : Inv L x S h n c) : shp S L := (And.left q)
theorem Inv.g {L : Nat} {x : Nat → Int32} {S h : mx_H} {n c : Int} (q : Inv L x S h n c) : ∀ a, a < 0 → h a = st_gh x a := (And.left (And.right q))
theorem Inv.n {L : Nat} {x : Nat → Int32} {S h : mx_H} {n c : Int} (q : Inv L x S h n c) : 53 ≤ n ∧ n ≤ 53 + 24 * c := (And.left (And.right (And.right q)))
theorem Inv.c {L : Nat} {x : Nat → Int32} {S h : mx_H} {n c : Int} (q : Inv L x S h n c) : 0 ≤ c ∧ c ≤ 600 := (And.left (And.right (And.right (And.right q))))
theorem Inv.t {L : Nat} {x : Nat → Int32} {S h : mx_H} {n c : Int} (q : Inv L x S h n c) : stt S h n := (And.left (And.right (And.right (And.right (And.right q)))))
theorem Inv.k {L : Nat} {x : Nat → Int32} {S h : mx_H} {n c : Int} (q : Inv L x S h n c) : kpt S h n := (And.left (And.right (And.right (And.right (And.right (And.right q))))))
theorem Inv.p {L : Nat} {x : Nat → Int32} {S h : mx_H} {n c : Int} (q : Inv L x S h n c) : tpe h := (And.left (And.right (And.right (And.right (And.right (And.right (And.right q)))))))
theorem Inv.r {L : Nat} {x : Nat → Int32} {S h : mx_H} {n c : Int} (q : Inv L x S h n c) : rws h := (And.left (And.right (And.right (And.right (And.right (And.right (And.right (And.right q))))))))
theorem Inv.b {L : Nat} {x : Nat → Int32} {S h : mx_H} {n c : Int} (q : Inv L x S h n c) : shs S h n := (And.left (And.right (And.right (And.right (And.right (And.right (And.right (And.right (And.right q)))))))))
theorem Inv.l {L : Nat} {x : Nat → Int32} {S h : mx_H} {n c : Int} (q : Inv L x S h n c) : slv S h n := (And.left (And.right (And.right (And.right (And.right (And.right (And.right (And.right (And.right (And.right q))))))))))
theorem Inv.i {L : Nat} {x : Nat → Int32} {S h : mx_H} {n c : Int} (q : Inv L x S h n c) : trc h := (And.left (And.right (And.right (And.right (And.right (And.right (And.right (And.right (And.right (And.right (And.right q)))))))))))
theorem Inv.f {L : Nat} {x : Nat → Int32} {S h : mx_H} {n c : Int} (q : Inv L x S h n c) : fnd h c := (And.right (And.right (And.right (And.right (And.right (And.right (And.right (And.right (And.right (And.right (And.right q)))))))))))
theorem Inv.o {L : Nat} {x : Nat → Int32} {S h : mx_H} {n c : Int} (v : Inv L x S h n c) : ro h := by
  refine ro.mk ?_
  rw [v.g (-3) (by decide), v.g (-4) (by decide)]
  exact ⟨rfl, rfl, rfl, rfl, rfl, rfl, rfl, rfl, rfl, rfl, rfl, rfl, rfl, rfl, rfl, rfl⟩
section
variable {S T h g : mx_H} {n m c : Int}
theorem stt.gg (t : stt S h n) (h39 : g 39 = h 39) (h6 : g 0 6 = h 0 6) (c3 : g 3 3 = h 3 3) (c4 : g 3 4 = h 3 4) (h1 : g 4 = h 4) (h2 : g 5 = h 5) (h3 : g 6 = h 6) (s : T 7 = S 7) (sS : ∀ a, 53 ≤ a → a < n → T a = S a) (hh : ∀ a, 53 ≤ a → a < n → g a = h a) (le : n ≤ m) : stt T g m := by
  refine stt.mk (by rw [h39]; exact t.w) (by rw [h39]; exact t.r.gg c3 c4 h1 h2 h3 s sS hh le) ?_ (by rw [h6, h39]; exact t.u)
  intro i j i0 i1 j0 j1 q
  rw [h39] at i1 j1
  have ni : nr S h n (S 7 i) (h 39) i := t.r.n i i0 i1
  have nj : nr S h n (S 7 j) (h 39) j := t.r.n j j0 j1
  rw [s, sS _ ni.p0 ni.p1, sS _ nj.p0 nj.p1]
  exact t.d i j i0 i1 j0 j1 q
theorem kpt.gg (w : stt S h n) (t : kpt S h n) (h39 : g 39 = h 39) (h40 : g 40 = h 40) (h5 : g 0 5 = h 0 5) (h7 : g 0 7 = h 0 7) (h38 : g 38 3 = h 38 3) (c3 : g 17 3 = h 17 3) (c4 : g 17 4 = h 17 4) (h1 : g 18 = h 18) (h2 : g 19 = h 19) (h3 : g 20 = h 20) (s7 : T 7 = S 7) (s : T 21 = S 21) (sS : ∀ a, 53 ≤ a → a < n → T a = S a) (hh : ∀ a, 53 ≤ a → a < n → g a = h a) (le : n ≤ m) : kpt T g m := by
  refine kpt.mk (by rw [h5, h38]; exact t.b) (by rw [h38]; exact t.c) (fun q => by rw [h40]; rw [h38] at q; exact t.w q) (fun q => by rw [h40]; rw [h38] at q; exact (t.r q).gg c3 c4 h1 h2 h3 s sS hh le) (fun q => by rw [h7, h40]; rw [h38] at q; exact t.u q) ?_
  intro q i j i0 i1 j0 j1
  rw [h38] at q
  rw [h39] at i1
  rw [h40] at j1
  have ni : nr S h n (S 7 i) (h 39) i := w.r.n i i0 i1
  have nj : nr S h n (S 21 j) (h 40) j := (t.r q).n j j0 j1
  rw [s7, s, sS _ ni.p0 ni.p1, sS _ nj.p0 nj.p1]
  exact t.d q i j i0 i1 j0 j1
theorem tpe.gg (t : tpe h) (h1 : g 0 1 = h 0 1) (h2 : g 38 5 = h 38 5) (h3 : g 1 = h 1) (h4 : g 42 = h 42) : tpe g :=
  tpe.mk (by rw [h1, h2]; exact t.c) (by rw [h2]; exact t.r) (fun k a b => by rw [h3, h4]; rw [h2] at b; exact t.t k a b) (fun k a b => by rw [h4]; rw [h2] at b; exact t.b k a b)
theorem rws.gg (t : rws h) (h1 : g 0 10 = h 0 10) (h2 : g 38 15 = h 38 15) (h3 : g 30 = h 30) (h4 : g 46 = h 46) : rws g :=
  rws.mk (by rw [h1, h2]; exact t.c) (by rw [h2]; exact t.r) (fun k a b => by rw [h3, h4]; rw [h2] at b; exact t.t k a b)
theorem shs.gg (t : shs S h n) (h47 : g 47 = h 47) (h48 : g 48 = h 48) (h49 : g 49 = h 49) (s : T 32 = S 32) (sS : ∀ a, 53 ≤ a → a < n → T a = S a) (hh : ∀ a, 53 ≤ a → a < n → S a (-2) = 12 ∨ S a (-2) = 21 → g a = h a) (le : n ≤ m) : shs T g m := by
  refine shs.mk ?_ ?_
  · intro k k0 k1
    rw [h47, h48, h49, s]
    rcases t.s k k0 k1 with q | ⟨q, r⟩
    · exact Or.inl q
    · refine Or.inr ⟨q.gg sS (fun a x y z => hh a x y (Or.inl z)) le, fun j j0 j1 => ?_⟩
      rw [sS _ q.p.1 q.p.2, hh _ q.i.1 q.i.2 (Or.inr q.q)]; exact r j j0 j1
  · intro k l k0 k1 l0 l1 q z1 z2
    rw [h47] at z1 z2
    rcases t.s k k0 k1 with a | ⟨a, _⟩
    · omega
    · rcases t.s l l0 l1 with b | ⟨b, _⟩
      · omega
      · rw [s, sS _ a.p.1 a.p.2, sS _ b.p.1 b.p.2]; exact t.d k l k0 k1 l0 l1 q z1 z2
theorem slv.gg (t : slv S h n) (h33 : g 33 = h 33) (h34 : g 34 = h 34) (h50 : g 50 = h 50) (h51 : g 51 = h 51) (s : T 35 = S 35) (sS : ∀ a, 53 ≤ a → a < n → T a = S a) (hh : ∀ a, 53 ≤ a → a < n → S a (-2) = 12 → g a = h a) (le : n ≤ m) : slv T g m := by
  refine slv.mk ?_
  intro k k0 k1
  rw [h33, h34, h50, h51, s]
  rcases t.s k k0 k1 with q | q | q
  · exact Or.inl q
  · exact Or.inr (Or.inl q)
  · exact Or.inr (Or.inr ⟨q.1, q.2.1, q.2.2.gg sS hh le⟩)
theorem trc.gg (t : trc h) (h1 : g 36 = h 36) (h2 : g 38 22 = h 38 22) (h3 : g 37 = h 37) (h4 : g 52 = h 52) : trc g :=
  trc.mk (by rw [h1]; exact t.c) (by rw [h1, h2]; exact t.e) (fun k a b => by rw [h3, h4]; rw [h2] at b; exact t.t k a b)
theorem fc.gg {σ : Int → Int} (t : fc h σ) (h2 : g 2 13 = h 2 13) (h15 : g 15 = h 15) (h16 : g 16 = h 16) : fc g σ :=
  fc.mk (by rw [h2]; exact t.n) (fun k a b => by rw [h15]; exact t.t k a b) (by rw [h16]; exact t.s0) (by rw [h16]; exact t.s1) (by rw [h16]; exact t.s2)
theorem mf.gg {σ : Int → Int} (t : mf h σ) (h2 : g 2 2 = h 2 2) (h3 : g 2 3 = h 2 3) (h4 : g 2 4 = h 2 4) : mf g σ := by
  unfold mf at t ⊢; rw [h2, h3, h4]; exact t
theorem fnd.gg (t : fnd h c) (h2 : g 2 = h 2) (h15 : g 15 = h 15) (h16 : g 16 = h 16) (h5 : g 3 5 = h 3 5) (h39 : g 39 = h 39) : fnd g c := by
  refine fnd.mk (fun k a b q => by rw [h15]; exact t.z k a b q) (fun q => ?_) (fun q => ?_) (by rw [h5]; exact t.v) (by rw [h2, h5]; exact t.a) (by rw [h2, h5]; exact t.b)
  · rw [h39]; rw [h2, h5] at q; exact (t.f q).gg (by rw [h2]) h15 h16
  · rw [h39]; rw [h2, h5] at q; exact (t.m q).gg (by rw [h2]) (by rw [h2]) (by rw [h2])
/-- the valley has changed: nothing that was found counts any longer -/
theorem fnd.nn (t : fnd h c) {k : Int} (h2 : g 2 = h 2) (h15 : g 15 = h 15) (h5 : g 3 5 = h 3 5 + k) (k0 : 1 ≤ k) (k1 : k ≤ 10) : fnd g (c + 1) := by
  have v := t.v
  have a := t.a
  have b := t.b
  refine fnd.mk (fun k a b q => by rw [h15]; exact t.z k a b q) (fun q => ?_) (fun q => ?_) (by rw [h5]; omega) (by rw [h2, h5]; omega) (by rw [h2, h5]; omega)
  · rw [h2, h5] at q; omega
  · rw [h2, h5] at q; omega
theorem fnd.cc (t : fnd h c) : fnd h (c + 1) := fnd.mk t.z t.f t.m (by have := t.v; omega) t.a t.b
end
section
variable {L : Nat} {x : Nat → Int32} {S h g : mx_H} {n c : Int}
/-- one call more -/
theorem Inv.w (v : Inv L x S h n c) (hc : c ≤ 599) : Inv L x S h n (c + 1) :=
  Inv.mk v.s v.g (by have := v.n; omega) (by have := v.c; omega) v.t v.k v.p v.r v.b v.l v.i v.f.cc
/-- only the reference's own rows have changed -/
theorem Inv.m (v : Inv L x S h n c) (f : ∀ a, a < 43 ∨ 45 < a → g a = h a) : Inv L x S g n c := by
  refine Inv.mk v.s (fun a q => by rw [f a (by omega)]; exact v.g a q) v.n v.c ?_ ?_ ?_ ?_ ?_ ?_ ?_ ?_
  · exact v.t.gg (f 39 (by decide)) (by rw [f 0 (by decide)]) (by rw [f 3 (by decide)]) (by rw [f 3 (by decide)]) (f 4 (by decide)) (f 5 (by decide)) (f 6 (by decide)) rfl (fun _ _ _ => rfl) (fun a _ _ => f a (by omega)) (Int.le_refl _)
  · exact v.k.gg v.t (f 39 (by decide)) (f 40 (by decide)) (by rw [f 0 (by decide)]) (by rw [f 0 (by decide)]) (by rw [f 38 (by decide)]) (by rw [f 17 (by decide)]) (by rw [f 17 (by decide)]) (f 18 (by decide)) (f 19 (by decide)) (f 20 (by decide)) rfl rfl (fun _ _ _ => rfl) (fun a _ _ => f a (by omega)) (Int.le_refl _)
  · exact v.p.gg (by rw [f 0 (by decide)]) (by rw [f 38 (by decide)]) (f 1 (by decide)) (f 42 (by decide))
  · exact v.r.gg (by rw [f 0 (by decide)]) (by rw [f 38 (by decide)]) (f 30 (by decide)) (f 46 (by decide))
  · exact v.b.gg (f 47 (by decide)) (f 48 (by decide)) (f 49 (by decide)) rfl (fun _ _ _ => rfl) (fun a _ _ _ => f a (by omega)) (Int.le_refl _)
  · exact v.l.gg (f 33 (by decide)) (f 34 (by decide)) (f 50 (by decide)) (f 51 (by decide)) rfl (fun _ _ _ => rfl) (fun a _ _ _ => f a (by omega)) (Int.le_refl _)
  · exact v.i.gg (f 36 (by decide)) (by rw [f 38 (by decide)]) (f 37 (by decide)) (f 52 (by decide))
  · exact v.f.gg (f 2 (by decide)) (f 15 (by decide)) (f 16 (by decide)) (by rw [f 3 (by decide)]) (f 39 (by decide))
/-- only the finder's rows have changed, and what it keeps is so -/
theorem Inv.d (v : Inv L x S h n c) (f : ∀ a, ¬ a = 2 → a < 8 ∨ 16 < a → g a = h a) (fn : fnd g c) : Inv L x S g n c := by
  refine Inv.mk v.s (fun a q => by rw [f a (by omega) (by omega)]; exact v.g a q) v.n v.c ?_ ?_ ?_ ?_ ?_ ?_ ?_ fn
  · exact v.t.gg (f 39 (by decide) (by decide)) (by rw [f 0 (by decide) (by decide)]) (by rw [f 3 (by decide) (by decide)]) (by rw [f 3 (by decide) (by decide)]) (f 4 (by decide) (by decide)) (f 5 (by decide) (by decide)) (f 6 (by decide) (by decide)) rfl (fun _ _ _ => rfl) (fun a _ _ => f a (by omega) (by omega)) (Int.le_refl _)
  · exact v.k.gg v.t (f 39 (by decide) (by decide)) (f 40 (by decide) (by decide)) (by rw [f 0 (by decide) (by decide)]) (by rw [f 0 (by decide) (by decide)]) (by rw [f 38 (by decide) (by decide)]) (by rw [f 17 (by decide) (by decide)]) (by rw [f 17 (by decide) (by decide)]) (f 18 (by decide) (by decide)) (f 19 (by decide) (by decide)) (f 20 (by decide) (by decide)) rfl rfl (fun _ _ _ => rfl) (fun a _ _ => f a (by omega) (by omega)) (Int.le_refl _)
  · exact v.p.gg (by rw [f 0 (by decide) (by decide)]) (by rw [f 38 (by decide) (by decide)]) (f 1 (by decide) (by decide)) (f 42 (by decide) (by decide))
  · exact v.r.gg (by rw [f 0 (by decide) (by decide)]) (by rw [f 38 (by decide) (by decide)]) (f 30 (by decide) (by decide)) (f 46 (by decide) (by decide))
  · exact v.b.gg (f 47 (by decide) (by decide)) (f 48 (by decide) (by decide)) (f 49 (by decide) (by decide)) rfl (fun _ _ _ => rfl) (fun a _ _ _ => f a (by omega) (by omega)) (Int.le_refl _)
  · exact v.l.gg (f 33 (by decide) (by decide)) (f 34 (by decide) (by decide)) (f 50 (by decide) (by decide)) (f 51 (by decide) (by decide)) rfl (fun _ _ _ => rfl) (fun a _ _ _ => f a (by omega) (by omega)) (Int.le_refl _)
  · exact v.i.gg (f 36 (by decide) (by decide)) (by rw [f 38 (by decide) (by decide)]) (f 37 (by decide) (by decide)) (f 52 (by decide) (by decide))
/-- of a call that refreshed the finder -/
theorem Inv.r' (v : Inv L x S h n c) (f : fr h g) (c1 : fc g (h 39)) (q : g 2 14 = h 3 5) : Inv L x S g n c := by
  have e3 := f.f 3 (by decide) (by decide)
  have e39 := f.f 39 (by decide) (by decide)
  have vv := v.f.v
  have vb := v.f.b
  refine v.d f.f (fnd.mk (fc_z v.t.w c1) (fun _ => by rw [e39]; exact c1) (fun y => ?_) (by rw [e3]; exact vv) (by rw [e3, q]; omega) (by rw [e3, f.f2 15 (by decide) (by decide)]; exact vb))
  rw [e3, f.f2 15 (by decide) (by decide)] at y
  rw [e39]
  exact (v.f.m y).gg (f.f2 2 (by decide) (by decide)) (f.f2 3 (by decide) (by decide)) (f.f2 4 (by decide) (by decide))
/-- both sides answer alike, and all holds on -/
def ag (L : Nat) (x : Nat → Int32) (m1 m2 : Nat) (as : List mx_V) (t : Nat) (c : Int) : Prop :=
  ∀ d S h n, Inv L x S h n c → mx_W (mx_M (d + 12) m1 ((2, 0) :: as) S h n) (fun v S1 h1 n1 => mx_W (mx_M (d + 12) m2 ((2, 38) :: as) S1 h1 n1) (fun v2 S2 h2 n2 => (∃ y, v = some (t, y) ∧ v2 = some (t, y)) ∧ Inv L x S2 h2 n2 (c + 1)))
end
