/-! The program's finder: all worlds -/
noncomputable def aL (L : Int) : Int := mx_shl 1 L - 1
theorem aL_b {L j : Int} (L0 : 0 ≤ L) (L1 : L ≤ 6) (j0 : 0 ≤ j) (j1 : j < L) : bt (aL L) j.toNat := by
  have key : ∀ k : Fin 7, ∀ i : Fin 6, i.val < k.val → (BitVec.ofInt 32 (mx_shl 1 (k.val : Int) - 1)).getLsbD i.val = true := by decide
  have := key ⟨L.toNat, by omega⟩ ⟨j.toNat, by omega⟩ (by simp only; omega)
  simp only at this
  have e : ((L.toNat : Nat) : Int) = L := by omega
  rw [e] at this; exact this
theorem aL_r {L : Int} (L0 : 0 ≤ L) (L1 : L ≤ 6) : 0 ≤ aL L ∧ aL L ≤ 63 ∧ aL L + 1 = 2 ^ L.toNat := by
  have key : ∀ k : Fin 7, 0 ≤ mx_shl 1 (k.val : Int) - 1 ∧ mx_shl 1 (k.val : Int) - 1 ≤ 63 ∧ mx_shl 1 (k.val : Int) - 1 + 1 = 2 ^ k.val := by decide
  have := key ⟨L.toNat, by omega⟩
  simp only at this
  have e : ((L.toNat : Nat) : Int) = L := by omega
  rw [e] at this; exact this
theorem b63 {j : Int} (j0 : 0 ≤ j) (j1 : j < 6) : bt 63 j.toNat := by
  have key : ∀ i : Fin 6, (BitVec.ofInt 32 63).getLsbD i.val = true := by decide
  exact key ⟨j.toNat, by omega⟩
theorem hs_x {σ β : Int → Int} {x y : Int} (e : ∀ j, 0 ≤ j → j < σ 1 → (bt x j.toNat ↔ bt y j.toNat)) : hs σ β x 0 ↔ hs σ β y 0 :=
  ⟨fun f j a b c => f j a b ((e j a b).mpr c), fun f j a b c => f j a b ((e j a b).mp c)⟩
theorem wd_x {σ : Int → Int} {x y a b c : Int} (e : ∀ j, 0 ≤ j → j < σ 1 → (bt x j.toNat ↔ bt y j.toNat)) : wd σ x a b c ↔ wd σ y a b c := by
  unfold wd; rw [hs_x e]
theorem wd_a {σ : Int → Int} (w : vw σ) {a b c : Int} : wd σ (aL (σ 1)) a b c ↔ wd σ 63 a b c :=
  wd_x (fun j a b => ⟨fun _ => b63 a (by have := w.L; omega), fun _ => aL_b w.L.1 w.L.2 a b⟩)
theorem ew_a {σ : Int → Int} (w : vw σ) : ew σ (aL (σ 1)) ↔ ew σ 63 := by
  unfold ew
  constructor
  · rintro ⟨a, b, c, p⟩; exact ⟨a, b, c, (wd_a w).mp p⟩
  · rintro ⟨a, b, c, p⟩; exact ⟨a, b, c, (wd_a w).mpr p⟩
theorem wd_r {σ : Int → Int} (w : vw σ) {x a b c : Int} (p : wd σ x a b c) : (2 ≤ a ∧ a ≤ 16) ∧ (2 ≤ b ∧ b ≤ 16) ∧ 2 ≤ c ∧ c ≤ 16 :=
  ⟨mb_r w (by decide) (by decide) p.1, mb_r w (by decide) (by decide) p.2.1, mb_r w (by decide) (by decide) p.2.2.1⟩
theorem cT_p {σ : Int → Int} (w : vw σ) {x b c : Int} (b0 : 0 ≤ b) (c0 : 0 ≤ c) (c1 : c < 17) : ∀ k : Nat, k ≤ 15 → cT σ x (b * 289 + c * 17 + 2 + k) = cT σ x (b * 289 + c * 17) + kc (wd σ x b c) k := by
  intro k
  induction k with
  | zero =>
    intro _
    rw [Int.natCast_zero, Int.add_zero, cT_k (t := b * 289 + c * 17) (by omega) (by omega) (fun v v0 v1 q => by
      have := (wd_r w q).2.2; omega)]
    simp only [kc]; omega
  | succ k ih =>
    intro hk
    have e : b * 289 + c * 17 + 2 + ((k + 1 : Nat) : Int) = b * 289 + c * 17 + 2 + k + 1 := by omega
    rw [e, cT_S (by omega), ih (by omega)]
    simp only [kc]
    have ew : wi σ x (b * 289 + c * 17 + 2 + k) = wd σ x b c (k + 2) := by
      unfold wi
      have e1 : (b * 289 + c * 17 + 2 + (k : Int)) / 289 = b := by omega
      have e2 : (b * 289 + c * 17 + 2 + (k : Int)) / 17 % 17 = c := by omega
      have e3 : (b * 289 + c * 17 + 2 + (k : Int)) % 17 = k + 2 := by omega
      rw [e1, e2, e3]
    rw [ew]; omega
theorem cT_17 {σ : Int → Int} (w : vw σ) {x b c : Int} (b0 : 0 ≤ b) (c0 : 0 ≤ c) (c1 : c < 17) : cT σ x (b * 289 + c * 17 + 17) = cT σ x (b * 289 + c * 17) + kc (wd σ x b c) 15 := by
  have := cT_p w (x := x) b0 c0 c1 15 (by decide)
  have e : b * 289 + c * 17 + 2 + ((15 : Nat) : Int) = b * 289 + c * 17 + 17 := by omega
  rw [e] at this; exact this
/-- what fill has found of the worlds below t -/
def fs (σ : Int → Int) (x : Int) (h0 h : mx_H) (t : Int) : Prop := (∀ a, ¬ a = 2 → ¬ a = 8 → ¬ a = 15 → ¬ a = 16 → h a = h0 a) ∧ (∀ k, ¬ k = 13 → h 2 k = h0 2 k) ∧ (h 2 13 = cT σ x t) ∧ (∀ b c, 2 ≤ b → b ≤ 16 → 2 ≤ c → c ≤ 16 → b * 289 + c * 17 < t → h 15 (b * 17 + c) = bz 2 17 (wd σ x b c)) ∧ (∀ k, (k < 34 ∨ k % 17 < 2) → h 15 k = h0 15 k) ∧ (h 16 0 = bz 2 17 (fun b => ∃ u, 0 ≤ u ∧ u < t ∧ wi σ x u ∧ u / 289 = b)) ∧ (h 16 1 = bz 2 17 (fun b => ∃ u, 0 ≤ u ∧ u < t ∧ wi σ x u ∧ u / 17 % 17 = b)) ∧ (h 16 2 = bz 2 17 (fun b => ∃ u, 0 ≤ u ∧ u < t ∧ wi σ x u ∧ u % 17 = b))
theorem fs.mk {σ : Int → Int} {x : Int} {h0 h : mx_H} {t : Int} (x0 : ∀ a, ¬ a = 2 → ¬ a = 8 → ¬ a = 15 → ¬ a = 16 → h a = h0 a) (x1 : ∀ k, ¬ k = 13 → h 2 k = h0 2 k) (x2 : h 2 13 = cT σ x t) (x3 : ∀ b c, 2 ≤ b → b ≤ 16 → 2 ≤ c → c ≤ 16 → b * 289 + c * 17 < t → h 15 (b * 17 + c) = bz 2 17 (wd σ x b c)) (x4 : ∀ k, (k < 34 ∨ k % 17 < 2) → h 15 k = h0 15 k) (x5 : h 16 0 = bz 2 17 (fun b => ∃ u, 0 ≤ u ∧ u < t ∧ wi σ x u ∧ u / 289 = b)) (x6 : h 16 1 = bz 2 17 (fun b => ∃ u, 0 ≤ u ∧ u < t ∧ wi σ x u ∧ u / 17 % 17 = b)) (x7 : h 16 2 = bz 2 17 (fun b => ∃ u, 0 ≤ u ∧ u < t ∧ wi σ x u ∧ u % 17 = b)) : fs σ x h0 h t := (And.intro x0 (And.intro x1 (And.intro x2 (And.intro x3 (And.intro x4 (And.intro x5 (And.intro x6 x7)))))))
theorem fs.f {σ : Int → Int} {x : Int} {h0 h : mx_H} {t : Int} (q : fs σ x h0 h t) : ∀ a, ¬ a = 2 → ¬ a = 8 → ¬ a = 15 → ¬ a = 16 → h a = h0 a := (And.left q)
theorem fs.f2 {σ : Int → Int} {x : Int} {h0 h : mx_H} {t : Int} (q : fs σ x h0 h t) : ∀ k, ¬ k = 13 → h 2 k = h0 2 k := (And.left (And.right q))
theorem fs.n {σ : Int → Int} {x : Int} {h0 h : mx_H} {t : Int} (q : fs σ x h0 h t) : h 2 13 = cT σ x t := (And.left (And.right (And.right q)))
theorem fs.t {σ : Int → Int} {x : Int} {h0 h : mx_H} {t : Int} (q : fs σ x h0 h t) : ∀ b c, 2 ≤ b → b ≤ 16 → 2 ≤ c → c ≤ 16 → b * 289 + c * 17 < t → h 15 (b * 17 + c) = bz 2 17 (wd σ x b c) := (And.left (And.right (And.right (And.right q))))
theorem fs.z {σ : Int → Int} {x : Int} {h0 h : mx_H} {t : Int} (q : fs σ x h0 h t) : ∀ k, (k < 34 ∨ k % 17 < 2) → h 15 k = h0 15 k := (And.left (And.right (And.right (And.right (And.right q)))))
theorem fs.s0 {σ : Int → Int} {x : Int} {h0 h : mx_H} {t : Int} (q : fs σ x h0 h t) : h 16 0 = bz 2 17 (fun b => ∃ u, 0 ≤ u ∧ u < t ∧ wi σ x u ∧ u / 289 = b) := (And.left (And.right (And.right (And.right (And.right (And.right q))))))
theorem fs.s1 {σ : Int → Int} {x : Int} {h0 h : mx_H} {t : Int} (q : fs σ x h0 h t) : h 16 1 = bz 2 17 (fun b => ∃ u, 0 ≤ u ∧ u < t ∧ wi σ x u ∧ u / 17 % 17 = b) := (And.left (And.right (And.right (And.right (And.right (And.right (And.right q)))))))
theorem fs.s2 {σ : Int → Int} {x : Int} {h0 h : mx_H} {t : Int} (q : fs σ x h0 h t) : h 16 2 = bz 2 17 (fun b => ∃ u, 0 ≤ u ∧ u < t ∧ wi σ x u ∧ u % 17 = b) := (And.right (And.right (And.right (And.right (And.right (And.right (And.right q)))))))
theorem ex_k {σ : Int → Int} {x t u : Int} (h1 : t ≤ u) (k : ∀ v, t ≤ v → v < u → ¬ wi σ x v) (g : Int → Int) (b : Int) : (∃ v, 0 ≤ v ∧ v < t ∧ wi σ x v ∧ g v = b) ↔ (∃ v, 0 ≤ v ∧ v < u ∧ wi σ x v ∧ g v = b) := by
  constructor
  · rintro ⟨v, a, b, c, e⟩; exact ⟨v, a, by omega, c, e⟩
  · rintro ⟨v, a, b, c, e⟩
    by_cases q : v < t
    · exact ⟨v, a, q, c, e⟩
    · exact absurd c (k v (by omega) b)
theorem fs_k {σ : Int → Int} {x : Int} {h0 h : mx_H} {t u : Int} (f : fs σ x h0 h t) (h0' : 0 ≤ t) (h1 : t ≤ u) (k : ∀ v, t ≤ v → v < u → ¬ wi σ x v) (r : ∀ b c, 2 ≤ b → b ≤ 16 → 2 ≤ c → c ≤ 16 → t ≤ b * 289 + c * 17 → b * 289 + c * 17 < u → h 15 (b * 17 + c) = bz 2 17 (wd σ x b c)) : fs σ x h0 h u := by
  refine fs.mk f.f f.f2 (by rw [cT_k h0' h1 k]; exact f.n) ?_ f.z ?_ ?_ ?_
  · intro b c b0 b1 c0 c1 q
    by_cases e : b * 289 + c * 17 < t
    · exact f.t b c b0 b1 c0 c1 e
    · exact r b c b0 b1 c0 c1 (by omega) q
  · rw [f.s0]; exact bz_c (fun b _ _ => ex_k h1 k (fun u => u / 289) b)
  · rw [f.s1]; exact bz_c (fun b _ _ => ex_k h1 k (fun u => u / 17 % 17) b)
  · rw [f.s2]; exact bz_c (fun b _ _ => ex_k h1 k (fun u => u % 17) b)
theorem wi_17 {σ : Int → Int} {x b c e : Int} (e0 : 0 ≤ e) (e1 : e < 17) (c0 : 0 ≤ c) (c1 : c < 17) : wi σ x (b * 289 + c * 17 + e) = wd σ x b c e := by
  unfold wi
  have h1 : (b * 289 + c * 17 + e) / 289 = b := by omega
  have h2 : (b * 289 + c * 17 + e) / 17 % 17 = c := by omega
  have h3 : (b * 289 + c * 17 + e) % 17 = e := by omega
  rw [h1, h2, h3]
theorem bz_oo {P Q : Int → Prop} : mx_or (bz 2 17 P) (bz 2 17 Q) = bz 2 17 (fun k => P k ∨ Q k) := by
  unfold bz; rw [bm_bm (by decide)]
  apply bm_c
  intro k _
  constructor
  · rintro (⟨a, b, c⟩ | ⟨a, b, c⟩)
    · exact ⟨a, b, Or.inl c⟩
    · exact ⟨a, b, Or.inr c⟩
  · rintro ⟨a, b, c | c⟩
    · exact Or.inl ⟨a, b, c⟩
    · exact Or.inr ⟨a, b, c⟩
/-- with a world of the pair: the sets grow -/
theorem fs_s {σ : Int → Int} (w : vw σ) {x b c : Int} {h0 h g : mx_H} (f : fs σ x h0 h (b * 289 + c * 17)) (b0 : 2 ≤ b) (b1 : b ≤ 16) (c0 : 2 ≤ c) (c1 : c ≤ 16) (q : ∃ e, wd σ x b c e)
    (g1 : ∀ a, ¬ a = 2 → ¬ a = 15 → ¬ a = 16 → ¬ a = 8 → g a = h a) (g2 : ∀ k, ¬ k = 13 → g 2 k = h 2 k) (gn : g 2 13 = cT σ x (b * 289 + c * 17) + kc (wd σ x b c) 15) (g15 : ∀ k, ¬ k = b * 17 + c → g 15 k = h 15 k) (g15' : g 15 (b * 17 + c) = bz 2 17 (wd σ x b c))
    (s0 : g 16 0 = mx_or (h 16 0) (mx_shl 1 b)) (s1 : g 16 1 = mx_or (h 16 1) (mx_shl 1 c)) (s2 : g 16 2 = mx_or (h 16 2) (bz 2 17 (wd σ x b c))) : fs σ x h0 g (b * 289 + c * 17 + 17) := by
  obtain ⟨e, pe⟩ := q
  have er := (wd_r w pe).2.2
  have sp : ∀ u, u < b * 289 + c * 17 + 17 → ¬ u < b * 289 + c * 17 → wi σ x u → wd σ x b c (u % 17) ∧ u / 289 = b ∧ u / 17 % 17 = c ∧ u = b * 289 + c * 17 + u % 17 := by
    intro u u1 u0 p
    unfold wi at p
    have h1 : u / 289 = b := by omega
    have h2 : u / 17 % 17 = c := by omega
    rw [h1, h2] at p; exact ⟨p, h1, h2, by omega⟩
  refine fs.mk (fun a x1 x2 x3 x4 => by rw [g1 a x1 x3 x4 x2]; exact f.f a x1 x2 x3 x4) (fun k hk => by rw [g2 k hk]; exact f.f2 k hk) (by rw [gn, cT_17 w (by omega) (by omega) (by omega)]) ?_ ?_ ?_ ?_ ?_
  · intro b' c' x0 x1 y0 y1 q
    by_cases eq : b' * 17 + c' = b * 17 + c
    · have h1 : b' = b := by omega
      have h2 : c' = c := by omega
      rw [h1, h2]; exact g15'
    · rw [g15 _ eq]; exact f.t b' c' x0 x1 y0 y1 (by omega)
  · intro k hk; rw [g15 k (by omega)]; exact f.z k hk
  · rw [s0, f.s0, bz_o b0 (by omega)]
    refine bz_c (fun k _ _ => ?_)
    constructor
    · rintro (⟨u, a1, a2, a3, a4⟩ | r)
      · exact ⟨u, a1, by omega, a3, a4⟩
      · exact ⟨b * 289 + c * 17 + e, by omega, by omega, by rw [wi_17 (by omega) (by omega) (by omega) (by omega)]; exact pe, by omega⟩
    · rintro ⟨u, a1, a2, a3, a4⟩
      by_cases r : u < b * 289 + c * 17
      · exact Or.inl ⟨u, a1, r, a3, a4⟩
      · exact Or.inr (by rw [← a4]; exact (sp u a2 r a3).2.1)
  · rw [s1, f.s1, bz_o c0 (by omega)]
    refine bz_c (fun k _ _ => ?_)
    constructor
    · rintro (⟨u, a1, a2, a3, a4⟩ | r)
      · exact ⟨u, a1, by omega, a3, a4⟩
      · exact ⟨b * 289 + c * 17 + e, by omega, by omega, by rw [wi_17 (by omega) (by omega) (by omega) (by omega)]; exact pe, by omega⟩
    · rintro ⟨u, a1, a2, a3, a4⟩
      by_cases r : u < b * 289 + c * 17
      · exact Or.inl ⟨u, a1, r, a3, a4⟩
      · exact Or.inr (by rw [← a4]; exact (sp u a2 r a3).2.2.1)
  · rw [s2, f.s2, bz_oo]
    refine bz_c (fun k k0 k1 => ?_)
    constructor
    · rintro (⟨u, a1, a2, a3, a4⟩ | r)
      · exact ⟨u, a1, by omega, a3, a4⟩
      · exact ⟨b * 289 + c * 17 + k, by omega, by omega, by rw [wi_17 (by omega) (by omega) (by omega) (by omega)]; exact r, by omega⟩
    · rintro ⟨u, a1, a2, a3, a4⟩
      by_cases r : u < b * 289 + c * 17
      · exact Or.inl ⟨u, a1, r, a3, a4⟩
      · exact Or.inr (by rw [← a4]; exact (sp u a2 r a3).1)
section
variable {d : Nat} {S h : mx_H} {n : Int} {σ : Int → Int} {Q : Option mx_V → mx_H → mx_H → Int → Prop}
theorem c_allLines {v : Int} (s : sv S v) (w : vw σ) (L : h v 4 = σ 1) : mx_M d 97 [(2, v)] S h n = some (some (0, aL (σ 1)), S, h, n) := by
  have hL := w.L
  have r := aL_r hL.1 hL.2
  unfold aL at r
  simp (disch := omega) only [mx_vt_h, mx_vt_m, mx_cmp_0, mx_cmp_1, mx_cmp_2, mx_cmp_3, mx_cmp_4, mx_u_s, mx_u_a, mx_u_k, mx_z_a, mx_z_s, mx_t_a, mx_t_2, mx_t_1, mx_t_0, mx_gd_T, mx_gd_t, mx_br_T, mx_br_F, mx_br_t, mx_br_f, mx_br_n, mx_cl_T, mx_cl_t, mx_re_T, mx_re_t, mx_rt_v, mx_rt_0, mx_cu_t, mx_w_id, mx_l_id, mx_b_0, mx_b_1, mx_b_r, mx_nl_0, mx_nl_1, mx_nl_2, mx_nl_n, mx_nl_l, mx_sw_n, mx_sw_h, mx_sw_m, Int.reduceLE, Int.reduceLT, Int.reduceEq, Int.reduceAdd, Int.reduceSub, Int.reduceMul, Int.reduceNeg, Int.reduceToNat, and_self, true_and, and_true, false_and, and_false, true_or, or_true, false_or, or_false, not_true_eq_false, not_false_eq_true, eq_self, rw_X10_allLines, s.e, L]
  rfl
theorem c_fill_c (hS : sh_F S) (w : vw σ) (r : lr h σ) (t : tbl h σ) {Λ : Int → Int → Prop} (m : lim h Λ) {b c x : Int} (u : lk σ Λ (gA σ (-1)) x (σ 1)) (b0 : 2 ≤ b) (b1 : b ≤ 16) (c0 : 2 ≤ c) (c1 : c ≤ 17) {g : mx_H} (f : fs σ x h g (b * 289 + c * 17)) {l4 : Option mx_V}
    (hX : ∀ g l3 l4, fs σ x h g (b * 289 + 289) → mx_W (mx_ex (d + 3) 32 23 [some (2, 2), some (0, x), some (0, b + 1), l3, l4] [] S g n) Q) :
    mx_W (mx_ex (d + 3) 32 31 [some (2, 2), some (0, x), some (0, b), some (0, c), l4] [] S g n) Q := by
  have F : ∀ a, ¬ a = 2 → ¬ a = 8 → ¬ a = 15 → ¬ a = 16 → g a = h a := f.f
  have rg : lr g σ := lr.mk (by rw [F 3 (by decide) (by decide) (by decide) (by decide)]; exact r.c) (by rw [F 3 (by decide) (by decide) (by decide) (by decide)]; exact r.L) (fun e a b => by rw [F 4 (by decide) (by decide) (by decide) (by decide)]; exact r.lo e a b) (fun e a b => by rw [F 5 (by decide) (by decide) (by decide) (by decide)]; exact r.hi e a b) (fun l k a b x y => by rw [F 6 (by decide) (by decide) (by decide) (by decide)]; exact r.l l k a b x y)
  have tg : tbl g σ := tbl.mk (tw.mk (fun i a b => by rw [F 9 (by decide) (by decide) (by decide) (by decide)]; exact t.w.e i a b) (fun i b x y z u => by rw [F 11 (by decide) (by decide) (by decide) (by decide)]; exact t.w.w i b x y z u)) (fun l a b => by rw [F 12 (by decide) (by decide) (by decide) (by decide)]; exact t.t l a b)
  have mg : lim g Λ := fun k k0 k1 => by rw [F 13 (by decide) (by decide) (by decide) (by decide)]; exact m k k0 k1
  rw [rh_X2_fill_31]
  by_cases q : c ≤ 16
  · have hc := fun R hX => c_tb (d := d) (n := n) (h := g) (Q := R) (x := x) hS w rg tg.w tg.t mg b0 b1 c0 q hX
    simp (disch := omega) only [mx_vt_h, mx_vt_m, mx_cmp_0, mx_cmp_1, mx_cmp_2, mx_cmp_3, mx_cmp_4, mx_u_s, mx_u_a, mx_u_k, mx_z_a, mx_z_s, mx_t_a, mx_t_2, mx_t_1, mx_t_0, mx_gd_T, mx_gd_t, mx_br_T, mx_br_F, mx_br_t, mx_br_f, mx_br_n, mx_cl_T, mx_cl_t, mx_re_T, mx_re_t, mx_rt_v, mx_rt_0, mx_cu_t, mx_w_id, mx_l_id, mx_b_0, mx_b_1, mx_b_r, mx_nl_0, mx_nl_1, mx_nl_2, mx_nl_n, mx_nl_l, mx_sw_n, mx_sw_h, mx_sw_m, Int.reduceLE, Int.reduceLT, Int.reduceEq, Int.reduceAdd, Int.reduceSub, Int.reduceMul, Int.reduceNeg, Int.reduceToNat, and_self, true_and, and_true, false_and, and_false, true_or, or_true, false_or, or_false, not_true_eq_false, not_false_eq_true, eq_self, rw_X2_fill, rw_X2_fill_1, hS.e]
    refine mx_W_r (hc _ ?_)
    intro g2 f2
    have e : bz 2 17 (t3 σ (IL Λ b c) x b c (σ 1)) = bz 2 17 (wd σ x b c) := bz_c (fun e e0 e1 => t3_w w u b0 b1 c0 q e0 (by omega))
    rw [e]
    show mx_W (mx_ex _ _ _ _ [_] _ _ _) _
    have e4 : b * 289 + c * 17 + 17 = b * 289 + (c + 1) * 17 := by omega
    by_cases z : bz 2 17 (wd σ x b c) = 0
    · have ih := fun g f l4 => c_fill_c hS w r t m u b0 b1 (c := c + 1) (by omega) (by omega) (g := g) f (l4 := l4) hX
      have nz := z
      rw [bz_e0] at nz
      have no : ∀ e, ¬ wd σ x b c e := fun e p => nz e (wd_r w p).2.2.1 (by have := (wd_r w p).2.2; omega) p
      have f3 : fs σ x h (mx_u g2 15 (b * 17 + c) 0) (b * 289 + (c + 1) * 17) := by
        have fa : fs σ x h (mx_u g2 15 (b * 17 + c) 0) (b * 289 + c * 17) := by
          refine fs.mk (fun a x1 x2 x3 x4 => by rw [mx_u_a x3, f2 a x2]; exact f.f a x1 x2 x3 x4) (fun k hk => by rw [mx_u_a (by decide), f2 2 (by decide)]; exact f.f2 k hk) (by rw [mx_u_a (by decide), f2 2 (by decide)]; exact f.n) ?_ ?_ ?_ ?_ ?_
          · intro b' c' x0 x1 y0 y1 q; rw [mx_u_k (by omega), f2 15 (by decide)]; exact f.t b' c' x0 x1 y0 y1 q
          · intro k hk; rw [mx_u_k (by omega), f2 15 (by decide)]; exact f.z k hk
          · rw [mx_u_a (by decide), f2 16 (by decide)]; exact f.s0
          · rw [mx_u_a (by decide), f2 16 (by decide)]; exact f.s1
          · rw [mx_u_a (by decide), f2 16 (by decide)]; exact f.s2
        refine fs_k fa (by omega) (by omega) ?_ ?_
        · intro v v0 v1 p
          unfold wi at p
          have h1 : v / 289 = b := by omega
          have h2 : v / 17 % 17 = c := by omega
          rw [h1, h2] at p; exact no _ p
        · intro b' c' x0 x1 y0 y1 q0 q1
          have h1 : b' = b := by omega
          have h2 : c' = c := by omega
          rw [h1, h2, mx_u_s, z]
      simp (disch := omega) only [mx_vt_h, mx_vt_m, mx_cmp_0, mx_cmp_1, mx_cmp_2, mx_cmp_3, mx_cmp_4, mx_u_s, mx_u_a, mx_u_k, mx_z_a, mx_z_s, mx_t_a, mx_t_2, mx_t_1, mx_t_0, mx_gd_T, mx_gd_t, mx_br_T, mx_br_F, mx_br_t, mx_br_f, mx_br_n, mx_cl_T, mx_cl_t, mx_re_T, mx_re_t, mx_rt_v, mx_rt_0, mx_cu_t, mx_w_id, mx_l_id, mx_b_0, mx_b_1, mx_b_r, mx_nl_0, mx_nl_1, mx_nl_2, mx_nl_n, mx_nl_l, mx_sw_n, mx_sw_h, mx_sw_m, Int.reduceLE, Int.reduceLT, Int.reduceEq, Int.reduceAdd, Int.reduceSub, Int.reduceMul, Int.reduceNeg, Int.reduceToNat, and_self, true_and, and_true, false_and, and_false, true_or, or_true, false_or, or_false, not_true_eq_false, not_false_eq_true, eq_self, rw_X2_fill, rw_X2_fill_1, hS.e, z]
      exact ih _ f3 _
    · have ih := fun g f l4 => c_fill_c hS w r t m u b0 b1 (c := c + 1) (by omega) (by omega) (g := g) f (l4 := l4) hX
      have hk := kc_r (P := wd σ x b c) 15
      have hT := cT_r (σ := σ) (x := x) (t := b * 289 + c * 17) (by omega)
      have q2 : g2 2 13 = cT σ x (b * 289 + c * 17) := by rw [f2 2 (by decide)]; exact f.n
      have hq : ∃ e, wd σ x b c e := Classical.byContradiction (fun y => z (by rw [bz_e0]; intro k _ _ p; exact y ⟨k, p⟩))
      simp (disch := omega) only [mx_vt_h, mx_vt_m, mx_cmp_0, mx_cmp_1, mx_cmp_2, mx_cmp_3, mx_cmp_4, mx_u_s, mx_u_a, mx_u_k, mx_z_a, mx_z_s, mx_t_a, mx_t_2, mx_t_1, mx_t_0, mx_gd_T, mx_gd_t, mx_br_T, mx_br_F, mx_br_t, mx_br_f, mx_br_n, mx_cl_T, mx_cl_t, mx_re_T, mx_re_t, mx_rt_v, mx_rt_0, mx_cu_t, mx_w_id, mx_l_id, mx_b_0, mx_b_1, mx_b_r, mx_nl_0, mx_nl_1, mx_nl_2, mx_nl_n, mx_nl_l, mx_sw_n, mx_sw_h, mx_sw_m, Int.reduceLE, Int.reduceLT, Int.reduceEq, Int.reduceAdd, Int.reduceSub, Int.reduceMul, Int.reduceNeg, Int.reduceToNat, and_self, true_and, and_true, false_and, and_false, true_or, or_true, false_or, or_false, not_true_eq_false, not_false_eq_true, eq_self, rw_X2_fill, rw_X2_fill_1, hS.e, z, q2, c_bc]
      refine ih _ ?_ _
      rw [← e4]
      refine fs_s w f b0 b1 c0 q hq ?_ ?_ ?_ ?_ ?_ ?_ ?_ ?_
      · intro a x1 x2 x3 x4; simp (disch := omega) only [mx_u_a]; exact f2 a x4
      · intro k hk; simp (disch := omega) only [mx_u_a, mx_u_k]; rw [f2 2 (by decide)]
      · simp (disch := omega) only [mx_u_a, mx_u_s]
      · intro k hk; simp (disch := omega) only [mx_u_a, mx_u_k]; rw [f2 15 (by decide)]
      · simp (disch := omega) only [mx_u_a, mx_u_s]
      · simp (disch := omega) only [mx_u_a, mx_u_k, mx_u_s]; rw [f2 16 (by decide)]
      · simp (disch := omega) only [mx_u_a, mx_u_k, mx_u_s]; rw [f2 16 (by decide)]
      · simp (disch := omega) only [mx_u_a, mx_u_k, mx_u_s]; rw [f2 16 (by decide)]
  · have e : c = 17 := by omega
    subst e
    simp (disch := omega) only [mx_vt_h, mx_vt_m, mx_cmp_0, mx_cmp_1, mx_cmp_2, mx_cmp_3, mx_cmp_4, mx_u_s, mx_u_a, mx_u_k, mx_z_a, mx_z_s, mx_t_a, mx_t_2, mx_t_1, mx_t_0, mx_gd_T, mx_gd_t, mx_br_T, mx_br_F, mx_br_t, mx_br_f, mx_br_n, mx_cl_T, mx_cl_t, mx_re_T, mx_re_t, mx_rt_v, mx_rt_0, mx_cu_t, mx_w_id, mx_l_id, mx_b_0, mx_b_1, mx_b_r, mx_nl_0, mx_nl_1, mx_nl_2, mx_nl_n, mx_nl_l, mx_sw_n, mx_sw_h, mx_sw_m, Int.reduceLE, Int.reduceLT, Int.reduceEq, Int.reduceAdd, Int.reduceSub, Int.reduceMul, Int.reduceNeg, Int.reduceToNat, and_self, true_and, and_true, false_and, and_false, true_or, or_true, false_or, or_false, not_true_eq_false, not_false_eq_true, eq_self, rw_X2_fill, rw_X2_fill_1]
    exact hX g _ _ (by have e : b * 289 + 17 * 17 = b * 289 + 289 := by omega
                       rw [← e]; exact f)
termination_by (17 - c).toNat
theorem c_fill_b (hS : sh_F S) (w : vw σ) (r : lr h σ) (t : tbl h σ) {Λ : Int → Int → Prop} (m : lim h Λ) {b x : Int} (u : lk σ Λ (gA σ (-1)) x (σ 1)) (b0 : 2 ≤ b) (b1 : b ≤ 17) {g : mx_H} (f : fs σ x h g (b * 289)) {l3 l4 : Option mx_V}
    (hX : ∀ g, fs σ x h g 4913 → Q none S g n) :
    mx_W (mx_ex (d + 3) 32 23 [some (2, 2), some (0, x), some (0, b), l3, l4] [] S g n) Q := by
  rw [rh_X2_fill_23]
  by_cases q : b ≤ 16
  · have f2 : fs σ x h g (b * 289 + 2 * 17) := fs_k f (by omega) (by omega) (fun v v0 v1 p => by
      have := (wd_r w p).2.1; omega) (fun b' c' x0 x1 y0 y1 q0 q1 => by omega)
    have hc := fun l4 => c_fill_c (d := d) (n := n) (Q := Q) (l4 := l4) hS w r t m u b0 q (c := 2) (by decide) (by decide) f2 (fun g l3 l4 f => by
      have e : b * 289 + 289 = (b + 1) * 289 := by omega
      rw [e] at f
      exact c_fill_b hS w r t m u (b := b + 1) (by omega) (by omega) f hX)
    simp (disch := omega) only [mx_vt_h, mx_vt_m, mx_cmp_0, mx_cmp_1, mx_cmp_2, mx_cmp_3, mx_cmp_4, mx_u_s, mx_u_a, mx_u_k, mx_z_a, mx_z_s, mx_t_a, mx_t_2, mx_t_1, mx_t_0, mx_gd_T, mx_gd_t, mx_br_T, mx_br_F, mx_br_t, mx_br_f, mx_br_n, mx_cl_T, mx_cl_t, mx_re_T, mx_re_t, mx_rt_v, mx_rt_0, mx_cu_t, mx_w_id, mx_l_id, mx_b_0, mx_b_1, mx_b_r, mx_nl_0, mx_nl_1, mx_nl_2, mx_nl_n, mx_nl_l, mx_sw_n, mx_sw_h, mx_sw_m, Int.reduceLE, Int.reduceLT, Int.reduceEq, Int.reduceAdd, Int.reduceSub, Int.reduceMul, Int.reduceNeg, Int.reduceToNat, and_self, true_and, and_true, false_and, and_false, true_or, or_true, false_or, or_false, not_true_eq_false, not_false_eq_true, eq_self, rw_X2_fill, rw_X2_fill_1]
    exact hc _
  · have e : b = 17 := by omega
    subst e
    simp (disch := omega) only [mx_vt_h, mx_vt_m, mx_cmp_0, mx_cmp_1, mx_cmp_2, mx_cmp_3, mx_cmp_4, mx_u_s, mx_u_a, mx_u_k, mx_z_a, mx_z_s, mx_t_a, mx_t_2, mx_t_1, mx_t_0, mx_gd_T, mx_gd_t, mx_br_T, mx_br_F, mx_br_t, mx_br_f, mx_br_n, mx_cl_T, mx_cl_t, mx_re_T, mx_re_t, mx_rt_v, mx_rt_0, mx_cu_t, mx_w_id, mx_l_id, mx_b_0, mx_b_1, mx_b_r, mx_nl_0, mx_nl_1, mx_nl_2, mx_nl_n, mx_nl_l, mx_sw_n, mx_sw_h, mx_sw_m, Int.reduceLE, Int.reduceLT, Int.reduceEq, Int.reduceAdd, Int.reduceSub, Int.reduceMul, Int.reduceNeg, Int.reduceToNat, and_self, true_and, and_true, false_and, and_false, true_or, or_true, false_or, or_false, not_true_eq_false, not_false_eq_true, eq_self, rw_X2_fill, rw_X2_fill_1]
    exact mx_W_s (hX g f)
termination_by (17 - b).toNat
theorem c_fillW (hS : sh_F S) (w : vw σ) (r : lr h σ) (t : tbl h σ) {Λ : Int → Int → Prop} (m : lim h Λ) (u : lk σ Λ (gA σ (-1)) (aL (σ 1)) (σ 1))
    (hX : ∀ g, fs σ (aL (σ 1)) h g 4913 → Q none S g n) :
    mx_W (mx_M (d + 3) 32 [(2, 2)] S h n) Q := by
  let g0 := mx_u (fil h 16 0 3) 2 13 0
  have key : ∀ (g : Int → Int), (0 : Int) = bz 2 17 (fun b => ∃ u, 0 ≤ u ∧ u < 0 ∧ wi σ (aL (σ 1)) u ∧ g u = b) := by
    intro g
    rw [eq_comm, bz_e0]
    rintro k _ _ ⟨u, a, b, _⟩; omega
  have f0 : fs σ (aL (σ 1)) h g0 0 := by
    refine fs.mk (fun a x1 x2 x3 x4 => by simp only [g0]; rw [mx_u_a x1, fil_a x4]) (fun k hk => by simp only [g0]; rw [mx_u_k hk, fil_a (by decide)]) (by simp only [g0]; rw [mx_u_s, cT_0]) (fun b c => by omega) (fun k hk => by simp only [g0]; rw [mx_u_a (by decide), fil_a (by decide)]) ?_ ?_ ?_
    · simp only [g0]; rw [mx_u_a (by decide), fil_i (by decide) (by decide)]; exact key _
    · simp only [g0]; rw [mx_u_a (by decide), fil_i (by decide) (by decide)]; exact key _
    · simp only [g0]; rw [mx_u_a (by decide), fil_i (by decide) (by decide)]; exact key _
  have f2 : fs σ (aL (σ 1)) h g0 (2 * 289) := fs_k f0 (by omega) (by omega) (fun v v0 v1 p => by
    have := (wd_r w p).1; omega) (fun b' c' x0 x1 y0 y1 q0 q1 => by omega)
  have hc := fun l3 l4 => c_fill_b (d := d) (n := n) (Q := Q) (l3 := l3) (l4 := l4) hS w r t m u (b := 2) (by decide) (by decide) f2 hX
  have ca := c_allLines (d := d + 2) (S := S) (h := h) (n := n) hS.v w r.L
  have cf := c_fill (d := d + 2) (S := S) (h := h) (n := n) (a := 16) (v := 0) (m := 3) (by simp only [hS.e]) (by simp only [hS.e]) (by decide) (by decide)
  simp (disch := omega) only [mx_vt_h, mx_vt_m, mx_cmp_0, mx_cmp_1, mx_cmp_2, mx_cmp_3, mx_cmp_4, mx_u_s, mx_u_a, mx_u_k, mx_z_a, mx_z_s, mx_t_a, mx_t_2, mx_t_1, mx_t_0, mx_gd_T, mx_gd_t, mx_br_T, mx_br_F, mx_br_t, mx_br_f, mx_br_n, mx_cl_T, mx_cl_t, mx_re_T, mx_re_t, mx_rt_v, mx_rt_0, mx_cu_t, mx_w_id, mx_l_id, mx_b_0, mx_b_1, mx_b_r, mx_nl_0, mx_nl_1, mx_nl_2, mx_nl_n, mx_nl_l, mx_sw_n, mx_sw_h, mx_sw_m, Int.reduceLE, Int.reduceLT, Int.reduceEq, Int.reduceAdd, Int.reduceSub, Int.reduceMul, Int.reduceNeg, Int.reduceToNat, and_self, true_and, and_true, false_and, and_false, true_or, or_true, false_or, or_false, not_true_eq_false, not_false_eq_true, eq_self, rw_X2_fill, rw_X2_fill_1, hS.e, ca, cf]
  exact hc _ _
end
