/-! The program's finder: lines by bases -/
def sh_F (S : mx_H) : Prop := (S 2 (-2) = 9 ∧ S 2 0 = 3 ∧ S 2 1 = 8 ∧ S 2 5 = 9 ∧ S 2 6 = 10 ∧ S 2 7 = 11 ∧ S 2 8 = 12 ∧ S 2 9 = 13 ∧ S 2 10 = 14 ∧ S 2 11 = 15 ∧ S 2 12 = 16 ∧
  S 8 (-2) = 20 ∧ S 8 (-1) = 3 ∧ S 9 (-2) = 20 ∧ S 9 (-1) = 6 ∧ S 10 (-2) = 20 ∧ S 10 (-1) = 6 ∧ S 11 (-2) = 20 ∧ S 11 (-1) = 102 ∧ S 12 (-2) = 20 ∧ S 12 (-1) = 6 ∧ S 13 (-2) = 20 ∧ S 13 (-1) = 54 ∧ S 14 (-2) = 20 ∧ S 14 (-1) = 54 ∧ S 15 (-2) = 20 ∧ S 15 (-1) = 289 ∧ S 16 (-2) = 20 ∧ S 16 (-1) = 3 ∧
  S (-3) (-2) = 24 ∧ S (-3) (-1) = 8 ∧ S (-4) (-2) = 24 ∧ S (-4) (-1) = 8 ∧
  S 3 (-2) = 8 ∧ S 3 0 = 4 ∧ S 3 1 = 5 ∧ S 3 2 = 6 ∧ S 3 6 = 7 ∧ S 4 (-2) = 20 ∧ S 4 (-1) = 3 ∧ S 5 (-2) = 20 ∧ S 5 (-1) = 3 ∧ S 6 (-2) = 20 ∧ S 6 (-1) = 24 ∧ S 7 (-2) = 22 ∧ S 7 (-1) = 6)
theorem sh_F.mk {S : mx_H} (x0 : S 2 (-2) = 9 ∧ S 2 0 = 3 ∧ S 2 1 = 8 ∧ S 2 5 = 9 ∧ S 2 6 = 10 ∧ S 2 7 = 11 ∧ S 2 8 = 12 ∧ S 2 9 = 13 ∧ S 2 10 = 14 ∧ S 2 11 = 15 ∧ S 2 12 = 16 ∧
  S 8 (-2) = 20 ∧ S 8 (-1) = 3 ∧ S 9 (-2) = 20 ∧ S 9 (-1) = 6 ∧ S 10 (-2) = 20 ∧ S 10 (-1) = 6 ∧ S 11 (-2) = 20 ∧ S 11 (-1) = 102 ∧ S 12 (-2) = 20 ∧ S 12 (-1) = 6 ∧ S 13 (-2) = 20 ∧ S 13 (-1) = 54 ∧ S 14 (-2) = 20 ∧ S 14 (-1) = 54 ∧ S 15 (-2) = 20 ∧ S 15 (-1) = 289 ∧ S 16 (-2) = 20 ∧ S 16 (-1) = 3 ∧
  S (-3) (-2) = 24 ∧ S (-3) (-1) = 8 ∧ S (-4) (-2) = 24 ∧ S (-4) (-1) = 8 ∧
  S 3 (-2) = 8 ∧ S 3 0 = 4 ∧ S 3 1 = 5 ∧ S 3 2 = 6 ∧ S 3 6 = 7 ∧ S 4 (-2) = 20 ∧ S 4 (-1) = 3 ∧ S 5 (-2) = 20 ∧ S 5 (-1) = 3 ∧ S 6 (-2) = 20 ∧ S 6 (-1) = 24 ∧ S 7 (-2) = 22 ∧ S 7 (-1) = 6) : sh_F S := x0
theorem sh_F.e {S : mx_H} (q : sh_F S) : S 2 (-2) = 9 ∧ S 2 0 = 3 ∧ S 2 1 = 8 ∧ S 2 5 = 9 ∧ S 2 6 = 10 ∧ S 2 7 = 11 ∧ S 2 8 = 12 ∧ S 2 9 = 13 ∧ S 2 10 = 14 ∧ S 2 11 = 15 ∧ S 2 12 = 16 ∧
  S 8 (-2) = 20 ∧ S 8 (-1) = 3 ∧ S 9 (-2) = 20 ∧ S 9 (-1) = 6 ∧ S 10 (-2) = 20 ∧ S 10 (-1) = 6 ∧ S 11 (-2) = 20 ∧ S 11 (-1) = 102 ∧ S 12 (-2) = 20 ∧ S 12 (-1) = 6 ∧ S 13 (-2) = 20 ∧ S 13 (-1) = 54 ∧ S 14 (-2) = 20 ∧ S 14 (-1) = 54 ∧ S 15 (-2) = 20 ∧ S 15 (-1) = 289 ∧ S 16 (-2) = 20 ∧ S 16 (-1) = 3 ∧
  S (-3) (-2) = 24 ∧ S (-3) (-1) = 8 ∧ S (-4) (-2) = 24 ∧ S (-4) (-1) = 8 ∧
  S 3 (-2) = 8 ∧ S 3 0 = 4 ∧ S 3 1 = 5 ∧ S 3 2 = 6 ∧ S 3 6 = 7 ∧ S 4 (-2) = 20 ∧ S 4 (-1) = 3 ∧ S 5 (-2) = 20 ∧ S 5 (-1) = 3 ∧ S 6 (-2) = 20 ∧ S 6 (-1) = 24 ∧ S 7 (-2) = 22 ∧ S 7 (-1) = 6 := q
theorem sh_F.v {S : mx_H} (s : sh_F S) : sv S 3 := sv.mk (by have := s.e; simp only [Int.reduceAdd]; simp only [this, and_self])
/-- the valley's numbers and lines (not its notes) are those of σ -/
def lr (h : mx_H) (σ : Int → Int) : Prop := (h 3 3 = σ 0) ∧ (h 3 4 = σ 1) ∧ (∀ e, 0 ≤ e → e ≤ 2 → h 4 e = σ (3 + 2 * e)) ∧ (∀ e, 0 ≤ e → e ≤ 2 → h 5 e = σ (3 + 2 * e + 1)) ∧ (∀ l k, 0 ≤ l → l < σ 1 → 0 ≤ k → k ≤ 3 → h 6 (l * 4 + k) = ln σ l k)
theorem lr.mk {h : mx_H} {σ : Int → Int} (x0 : h 3 3 = σ 0) (x1 : h 3 4 = σ 1) (x2 : ∀ e, 0 ≤ e → e ≤ 2 → h 4 e = σ (3 + 2 * e)) (x3 : ∀ e, 0 ≤ e → e ≤ 2 → h 5 e = σ (3 + 2 * e + 1)) (x4 : ∀ l k, 0 ≤ l → l < σ 1 → 0 ≤ k → k ≤ 3 → h 6 (l * 4 + k) = ln σ l k) : lr h σ := (And.intro x0 (And.intro x1 (And.intro x2 (And.intro x3 x4))))
theorem lr.c {h : mx_H} {σ : Int → Int} (q : lr h σ) : h 3 3 = σ 0 := (And.left q)
theorem lr.L {h : mx_H} {σ : Int → Int} (q : lr h σ) : h 3 4 = σ 1 := (And.left (And.right q))
theorem lr.lo {h : mx_H} {σ : Int → Int} (q : lr h σ) : ∀ e, 0 ≤ e → e ≤ 2 → h 4 e = σ (3 + 2 * e) := (And.left (And.right (And.right q)))
theorem lr.hi {h : mx_H} {σ : Int → Int} (q : lr h σ) : ∀ e, 0 ≤ e → e ≤ 2 → h 5 e = σ (3 + 2 * e + 1) := (And.left (And.right (And.right (And.right q))))
theorem lr.l {h : mx_H} {σ : Int → Int} (q : lr h σ) : ∀ l k, 0 ≤ l → l < σ 1 → 0 ≤ k → k ≤ 3 → h 6 (l * 4 + k) = ln σ l k := (And.right (And.right (And.right (And.right q))))
theorem lr.l0 {h : mx_H} {σ : Int → Int} (r : lr h σ) {l : Int} (h0 : 0 ≤ l) (h1 : l < σ 1) : h 6 (l * 4) = ln σ l 0 := by
  have := r.l l 0 h0 h1 (by omega) (by omega)
  rw [Int.add_zero] at this; exact this
theorem rr.r {S h : mx_H} {N : Int} {σ : Int → Int} (r : rr S h N 3 σ) : lr h σ := lr.mk r.c r.L r.lo r.hi r.l
/-- evenings and worths as read from the notes -/
def tw (h : mx_H) (σ : Int → Int) : Prop := (∀ i, 0 ≤ i → i < σ 0 → h 9 i = it σ i 1) ∧ (∀ i b, 0 ≤ i → i < σ 0 → 2 ≤ b → b ≤ 16 → h 11 (i * 17 + b) = wo σ i b)
theorem tw.mk {h : mx_H} {σ : Int → Int} (x0 : ∀ i, 0 ≤ i → i < σ 0 → h 9 i = it σ i 1) (x1 : ∀ i b, 0 ≤ i → i < σ 0 → 2 ≤ b → b ≤ 16 → h 11 (i * 17 + b) = wo σ i b) : tw h σ := (And.intro x0 x1)
theorem tw.e {h : mx_H} {σ : Int → Int} (q : tw h σ) : ∀ i, 0 ≤ i → i < σ 0 → h 9 i = it σ i 1 := (And.left q)
theorem tw.w {h : mx_H} {σ : Int → Int} (q : tw h σ) : ∀ i b, 0 ≤ i → i < σ 0 → 2 ≤ b → b ≤ 16 → h 11 (i * 17 + b) = wo σ i b := (And.right q)
def up (β : Int → Int) (e b : Int) : Int → Int := fun k => if k = e then b else β k
/-- the line tells of the evening -/
def tc (σ : Int → Int) (l e : Int) : Prop := it σ (ln σ l 1) 1 = e ∨ ¬ ln σ l 0 = 3 ∧ it σ (ln σ l 2) 1 = e ∨ ln σ l 0 = 2 ∧ it σ (ln σ l 3) 1 = e
def q8 (e : Int) (h g : mx_H) : Prop := (∀ a, ¬ a = 8 → g a = h a) ∧ (∀ k, ¬ k = e → g 8 k = h 8 k)
theorem q8.mk {e : Int} {h g : mx_H} (x0 : ∀ a, ¬ a = 8 → g a = h a) (x1 : ∀ k, ¬ k = e → g 8 k = h 8 k) : q8 e h g := (And.intro x0 x1)
theorem q8.f {e : Int} {h g : mx_H} (q : q8 e h g) : ∀ a, ¬ a = 8 → g a = h a := (And.left q)
theorem q8.k {e : Int} {h g : mx_H} (q : q8 e h g) : ∀ k, ¬ k = e → g 8 k = h 8 k := (And.right q)
theorem q8_u {e b : Int} {h g : mx_H} (q : q8 e h g) : q8 e h (mx_u g 8 e b) :=
  q8.mk (fun a ha => by rw [mx_u_a ha]; exact q.f a ha) (fun k hk => by rw [mx_u_k hk]; exact q.k k hk)
theorem q8_p {e b : Int} {h g : mx_H} (q : q8 e h g) : mx_u g 8 e b 8 = up (h 8) e b := by
  funext k; unfold up
  by_cases c : k = e
  · rw [if_pos c, c, mx_u_s]
  · rw [if_neg c, mx_u_k c]; exact q.k k c
theorem bz_an {P : Int → Prop} {b : Int} (h1 : 2 ≤ b) (h2 : b < 17) : mx_and (bz 2 17 P) (mx_xor (mx_shl 1 b) (-1)) = bz 2 17 (fun k => P k ∧ ¬ k = b) := by
  unfold bz
  apply bm_x (by decide) (bt_in_and _ _).1 (bt_in_and _ _).2
  intro k hk
  rw [bt_and, bm_t (by decide), bt_not hk, bt_1 (by omega) (by omega)]
  constructor
  · rintro ⟨⟨a, b, c, e⟩, f⟩; exact ⟨a, b, c, e, fun q => f q.symm⟩
  · rintro ⟨a, b, c, e, f⟩; exact ⟨⟨a, b, c, e⟩, fun q => f q.symm⟩
section
variable {d : Nat} {S h : mx_H} {n : Int} {σ : Int → Int} {Q : Option mx_V → mx_H → mx_H → Int → Prop}
theorem c_bth_l (hS : sh_F S) (w : vw σ) (r : lr h σ) (t : tw h σ) {l e b : Int} {P : Int → Prop} (l0 : 0 ≤ l) (l1 : l < σ 1) (e0 : 0 ≤ e) (e1 : e ≤ 2) (T : ∀ k, tc σ l k → ¬ k = e → 2 ≤ h 8 k ∧ h 8 k ≤ 16) (b0 : 2 ≤ b) (b1 : b ≤ 17) {g : mx_H} (q : q8 e h g) {l11 l12 l13 : Option mx_V}
    (hX : ∀ g, q8 e h g → Q (some (0, bz 2 17 (fun b => P b ∧ hl σ (up (h 8) e b) l))) S g n) :
    mx_W (mx_ex (d + 1) 28 53 [some (2, 2), some (0, l), some (0, e), some (0, bz 2 17 P), some (2, 6), some (0, ln σ l 0), some (0, ln σ l 1), some (0, ln σ l 2), some (0, ln σ l 3), some (0, bz 2 17 (fun k => P k ∧ (k < b → hl σ (up (h 8) e k) l))), some (0, b), l11, l12, l13] [] S g n) Q := by
  have hN := w.N
  have lw := w.l l l0 l1
  have ls := lw.s
  have lx := lw.x
  have ly := lw.y
  have lz := lw.z
  rw [rh_X2_basesThatHold_53]
  by_cases c : b ≤ 16
  · by_cases p : P b
    · have U : ∀ k, tc σ l k → 2 ≤ up (h 8) e b k ∧ up (h 8) e b k ≤ 16 := by
        intro k hk; unfold up
        by_cases ke : k = e
        · rw [if_pos ke]; omega
        · rw [if_neg ke]; exact T k hk ke
      have ux := U _ (Or.inl rfl)
      have x1 := wo_r (w.n _ lx.1 lx.2) ux.1 ux.2
      have q2 := q8_u (b := b) q
      have hp := q8_p (b := b) q
      have ih := fun l11 l12 l13 => c_bth_l hS w r t (P := P) l0 l1 e0 e1 T (b := b + 1) (by omega) (by omega) (l11 := l11) (l12 := l12) (l13 := l13) q2 hX
      have eh : ∀ X, (hl σ (up (h 8) e b) l ↔ X) → mx_b (hl σ (up (h 8) e b) l) = mx_b X := fun X h => mx_b_i h
      have step : (hl σ (up (h 8) e b) l → bz 2 17 (fun k => P k ∧ (k < b + 1 → hl σ (up (h 8) e k) l)) = bz 2 17 (fun k => P k ∧ (k < b → hl σ (up (h 8) e k) l))) ∧ (¬ hl σ (up (h 8) e b) l → bz 2 17 (fun k => P k ∧ (k < b + 1 → hl σ (up (h 8) e k) l)) = mx_and (bz 2 17 (fun k => P k ∧ (k < b → hl σ (up (h 8) e k) l))) (mx_xor (mx_shl 1 b) (-1))) := by
        refine ⟨fun hb => bz_c (fun k _ _ => ?_), fun hb => ?_⟩
        · constructor
          · rintro ⟨a, f⟩; exact ⟨a, fun c => f (by omega)⟩
          · rintro ⟨a, f⟩
            refine ⟨a, fun c => ?_⟩
            by_cases e : k = b
            · rw [e]; exact hb
            · exact f (by omega)
        · rw [bz_an b0 (by omega)]
          refine bz_c (fun k _ _ => ?_)
          constructor
          · rintro ⟨a, f⟩
            refine ⟨⟨a, fun c => f (by omega)⟩, fun e => hb ?_⟩
            have := f (by omega)
            rw [e] at this; exact this
          · rintro ⟨⟨a, f⟩, g⟩; exact ⟨a, fun c => f (by omega)⟩
      obtain ⟨H, eH⟩ : ∃ H, hl σ (up (h 8) e b) l = H := ⟨_, rfl⟩
      rw [eH] at step
      have fin : ∀ y z, (mx_M d 153 [(0, ln σ l 0), (0, wo σ (ln σ l 1) (up (h 8) e b (it σ (ln σ l 1) 1))), (0, y), (0, z)] S (mx_u g 8 e b) n = some (some (0, mx_b H), S, mx_u g 8 e b, n)) → mx_W (mx_rt (mx_M d 153 [(0, ln σ l 0), (0, wo σ (ln σ l 1) (up (h 8) e b (it σ (ln σ l 1) 1))), (0, y), (0, z)] S (mx_u g 8 e b) n) (d + 1) 28 187 [some (2, 2), some (0, l), some (0, e), some (0, bz 2 17 P), some (2, 6), some (0, ln σ l 0), some (0, ln σ l 1), some (0, ln σ l 2), some (0, ln σ l 3), some (0, bz 2 17 (fun k => P k ∧ (k < b → hl σ (up (h 8) e k) l))), some (0, b), some (0, wo σ (ln σ l 1) (up (h 8) e b (it σ (ln σ l 1) 1))), some (0, y), some (0, z)] []) Q := by
        intro y z ec
        by_cases hb : H
        · rw [mx_b_t hb] at ec
          have ih := ih (some (0, wo σ (ln σ l 1) (up (h 8) e b (it σ (ln σ l 1) 1)))) (some (0, y)) (some (0, z))
          rw [step.1 hb] at ih
          simp (disch := omega) only [mx_vt_h, mx_vt_m, mx_cmp_0, mx_cmp_1, mx_cmp_2, mx_cmp_3, mx_cmp_4, mx_u_s, mx_u_a, mx_u_k, mx_z_a, mx_z_s, mx_t_a, mx_t_2, mx_t_1, mx_t_0, mx_gd_T, mx_gd_t, mx_br_T, mx_br_F, mx_br_t, mx_br_f, mx_br_n, mx_cl_T, mx_cl_t, mx_re_T, mx_re_t, mx_rt_v, mx_rt_0, mx_cu_t, mx_w_id, mx_l_id, mx_b_0, mx_b_1, mx_b_r, mx_nl_0, mx_nl_1, mx_nl_2, mx_nl_n, mx_nl_l, mx_sw_n, mx_sw_h, mx_sw_m, Int.reduceLE, Int.reduceLT, Int.reduceEq, Int.reduceAdd, Int.reduceSub, Int.reduceMul, Int.reduceNeg, Int.reduceToNat, and_self, true_and, and_true, false_and, and_false, true_or, or_true, false_or, or_false, not_true_eq_false, not_false_eq_true, eq_self, rw_X2_basesThatHold, rw_X2_basesThatHold_1, ec]
          exact ih
        · rw [mx_b_f hb] at ec
          have ih := ih (some (0, wo σ (ln σ l 1) (up (h 8) e b (it σ (ln σ l 1) 1)))) (some (0, y)) (some (0, z))
          rw [step.2 hb] at ih
          simp (disch := omega) only [mx_vt_h, mx_vt_m, mx_cmp_0, mx_cmp_1, mx_cmp_2, mx_cmp_3, mx_cmp_4, mx_u_s, mx_u_a, mx_u_k, mx_z_a, mx_z_s, mx_t_a, mx_t_2, mx_t_1, mx_t_0, mx_gd_T, mx_gd_t, mx_br_T, mx_br_F, mx_br_t, mx_br_f, mx_br_n, mx_cl_T, mx_cl_t, mx_re_T, mx_re_t, mx_rt_v, mx_rt_0, mx_cu_t, mx_w_id, mx_l_id, mx_b_0, mx_b_1, mx_b_r, mx_nl_0, mx_nl_1, mx_nl_2, mx_nl_n, mx_nl_l, mx_sw_n, mx_sw_h, mx_sw_m, Int.reduceLE, Int.reduceLT, Int.reduceEq, Int.reduceAdd, Int.reduceSub, Int.reduceMul, Int.reduceNeg, Int.reduceToNat, and_self, true_and, and_true, false_and, and_false, true_or, or_true, false_or, or_false, not_true_eq_false, not_false_eq_true, eq_self, rw_X2_basesThatHold, rw_X2_basesThatHold_1, ec]
          exact ih
      have f9 : ∀ a, ¬ a = 8 → mx_u g 8 e b a = h a := q2.f
      have ex := t.e _ lx.1 lx.2
      have ex1 := (w.n _ lx.1 lx.2).e
      have wx := t.w _ _ lx.1 lx.2 ux.1 ux.2
      have cs := fun y (y0 : -100000000 ≤ y) (y1 : y ≤ 100000000) z hz => c_sortHolds (d := d) (S := S) (h := mx_u g 8 e b) (n := n) (s := ln σ l 0) (x := wo σ (ln σ l 1) (up (h 8) e b (it σ (ln σ l 1) 1))) (y := y) (z := z) ls.1 ls.2 (by omega) (by omega) y0 y1 hz
      by_cases s3 : ln σ l 0 = 3
      · have cs := cs 0 (by omega) (by omega) (ln σ l 3) (fun _ => lw.z3 s3)
        rw [if_neg (by omega), if_neg (by omega), if_neg (by omega)] at cs
        unfold hl at eH
        rw [if_neg (by omega), if_neg (by omega), if_neg (by omega)] at eH
        have fin := fin 0 (ln σ l 3) (by rw [cs]; rw [← eH]; rfl)
        rw [s3] at fin ⊢
        simp (disch := omega) only [mx_vt_h, mx_vt_m, mx_cmp_0, mx_cmp_1, mx_cmp_2, mx_cmp_3, mx_cmp_4, mx_u_s, mx_u_a, mx_u_k, mx_z_a, mx_z_s, mx_t_a, mx_t_2, mx_t_1, mx_t_0, mx_gd_T, mx_gd_t, mx_br_T, mx_br_F, mx_br_t, mx_br_f, mx_br_n, mx_cl_T, mx_cl_t, mx_re_T, mx_re_t, mx_rt_v, mx_rt_0, mx_cu_t, mx_w_id, mx_l_id, mx_b_0, mx_b_1, mx_b_r, mx_nl_0, mx_nl_1, mx_nl_2, mx_nl_n, mx_nl_l, mx_sw_n, mx_sw_h, mx_sw_m, Int.reduceLE, Int.reduceLT, Int.reduceEq, Int.reduceAdd, Int.reduceSub, Int.reduceMul, Int.reduceNeg, Int.reduceToNat, and_self, true_and, and_true, false_and, and_false, true_or, or_true, false_or, or_false, not_true_eq_false, not_false_eq_true, eq_self, rw_X2_basesThatHold, rw_X2_basesThatHold_1, bz_tst, mx_b_t p, hS.e, q.f, f9, hp, ex, wx]
        exact fin
      · have uy := U _ (Or.inr (Or.inl ⟨s3, rfl⟩))
        have y1 := wo_r (w.n _ ly.1 ly.2) uy.1 uy.2
        have ey := t.e _ ly.1 ly.2
        have ey1 := (w.n _ ly.1 ly.2).e
        have wy := t.w _ _ ly.1 ly.2 uy.1 uy.2
        have cs := cs (wo σ (ln σ l 2) (up (h 8) e b (it σ (ln σ l 2) 1))) (by omega) (by omega)
        by_cases s2 : ln σ l 0 = 2
        · have lz2 := lw.z2 s2
          have uz := U _ (Or.inr (Or.inr ⟨s2, rfl⟩))
          have ez := t.e _ lz.1 lz2
          have ez1 := (w.n _ lz.1 lz2).e
          have wz := t.w _ _ lz.1 lz2 uz.1 uz.2
          have cs := cs (wo σ (ln σ l 3) (up (h 8) e b (it σ (ln σ l 3) 1))) (by omega)
          rw [if_neg (by omega), if_neg (by omega), if_pos (by omega)] at cs
          unfold hl at eH
          rw [if_neg (by omega), if_neg (by omega), if_pos (by omega)] at eH
          have fin := fin _ _ (by rw [cs]; rw [← eH]; rfl)
          rw [s2] at fin ⊢
          simp (disch := omega) only [mx_vt_h, mx_vt_m, mx_cmp_0, mx_cmp_1, mx_cmp_2, mx_cmp_3, mx_cmp_4, mx_u_s, mx_u_a, mx_u_k, mx_z_a, mx_z_s, mx_t_a, mx_t_2, mx_t_1, mx_t_0, mx_gd_T, mx_gd_t, mx_br_T, mx_br_F, mx_br_t, mx_br_f, mx_br_n, mx_cl_T, mx_cl_t, mx_re_T, mx_re_t, mx_rt_v, mx_rt_0, mx_cu_t, mx_w_id, mx_l_id, mx_b_0, mx_b_1, mx_b_r, mx_nl_0, mx_nl_1, mx_nl_2, mx_nl_n, mx_nl_l, mx_sw_n, mx_sw_h, mx_sw_m, Int.reduceLE, Int.reduceLT, Int.reduceEq, Int.reduceAdd, Int.reduceSub, Int.reduceMul, Int.reduceNeg, Int.reduceToNat, and_self, true_and, and_true, false_and, and_false, true_or, or_true, false_or, or_false, not_true_eq_false, not_false_eq_true, eq_self, rw_X2_basesThatHold, rw_X2_basesThatHold_1, bz_tst, mx_b_t p, hS.e, q.f, f9, hp, ex, wx, ey, wy, ez, wz]
          exact fin
        · have cs := cs (ln σ l 3) (by omega)
          have fin := fin _ _ (by
            rw [cs]; rw [← eH]; unfold hl
            by_cases s0 : ln σ l 0 = 0
            · rw [if_pos s0, if_pos s0]; rfl
            · rw [if_neg s0, if_neg s0, if_pos (by omega), if_pos (by omega)]; rfl)
          simp (disch := omega) only [mx_vt_h, mx_vt_m, mx_cmp_0, mx_cmp_1, mx_cmp_2, mx_cmp_3, mx_cmp_4, mx_u_s, mx_u_a, mx_u_k, mx_z_a, mx_z_s, mx_t_a, mx_t_2, mx_t_1, mx_t_0, mx_gd_T, mx_gd_t, mx_br_T, mx_br_F, mx_br_t, mx_br_f, mx_br_n, mx_cl_T, mx_cl_t, mx_re_T, mx_re_t, mx_rt_v, mx_rt_0, mx_cu_t, mx_w_id, mx_l_id, mx_b_0, mx_b_1, mx_b_r, mx_nl_0, mx_nl_1, mx_nl_2, mx_nl_n, mx_nl_l, mx_sw_n, mx_sw_h, mx_sw_m, Int.reduceLE, Int.reduceLT, Int.reduceEq, Int.reduceAdd, Int.reduceSub, Int.reduceMul, Int.reduceNeg, Int.reduceToNat, and_self, true_and, and_true, false_and, and_false, true_or, or_true, false_or, or_false, not_true_eq_false, not_false_eq_true, eq_self, rw_X2_basesThatHold, rw_X2_basesThatHold_1, bz_tst, mx_b_t p, hS.e, q.f, f9, hp, ex, wx, ey, wy]
          exact fin
    · have ih := fun l11 l12 l13 => c_bth_l hS w r t (P := P) l0 l1 e0 e1 T (b := b + 1) (by omega) (by omega) (l11 := l11) (l12 := l12) (l13 := l13) q hX
      have step : bz 2 17 (fun k => P k ∧ (k < b + 1 → hl σ (up (h 8) e k) l)) = bz 2 17 (fun k => P k ∧ (k < b → hl σ (up (h 8) e k) l)) := by
        refine bz_c (fun k _ _ => ?_)
        constructor
        · rintro ⟨a, f⟩; exact ⟨a, fun c => f (by omega)⟩
        · rintro ⟨a, f⟩
          refine ⟨a, fun c => ?_⟩
          by_cases e : k = b
          · rw [e] at a; exact absurd a p
          · exact f (by omega)
      rw [step] at ih
      simp (disch := omega) only [mx_vt_h, mx_vt_m, mx_cmp_0, mx_cmp_1, mx_cmp_2, mx_cmp_3, mx_cmp_4, mx_u_s, mx_u_a, mx_u_k, mx_z_a, mx_z_s, mx_t_a, mx_t_2, mx_t_1, mx_t_0, mx_gd_T, mx_gd_t, mx_br_T, mx_br_F, mx_br_t, mx_br_f, mx_br_n, mx_cl_T, mx_cl_t, mx_re_T, mx_re_t, mx_rt_v, mx_rt_0, mx_cu_t, mx_w_id, mx_l_id, mx_b_0, mx_b_1, mx_b_r, mx_nl_0, mx_nl_1, mx_nl_2, mx_nl_n, mx_nl_l, mx_sw_n, mx_sw_h, mx_sw_m, Int.reduceLE, Int.reduceLT, Int.reduceEq, Int.reduceAdd, Int.reduceSub, Int.reduceMul, Int.reduceNeg, Int.reduceToNat, and_self, true_and, and_true, false_and, and_false, true_or, or_true, false_or, or_false, not_true_eq_false, not_false_eq_true, eq_self, rw_X2_basesThatHold, rw_X2_basesThatHold_1, bz_tst, mx_b_f p]
      exact ih _ _ _
  · have e17 : b = 17 := by omega
    subst e17
    have step : bz 2 17 (fun k => P k ∧ (k < 17 → hl σ (up (h 8) e k) l)) = bz 2 17 (fun k => P k ∧ hl σ (up (h 8) e k) l) :=
      bz_c (fun k _ k1 => ⟨fun ⟨a, f⟩ => ⟨a, f k1⟩, fun ⟨a, f⟩ => ⟨a, fun _ => f⟩⟩)
    simp (disch := omega) only [mx_vt_h, mx_vt_m, mx_cmp_0, mx_cmp_1, mx_cmp_2, mx_cmp_3, mx_cmp_4, mx_u_s, mx_u_a, mx_u_k, mx_z_a, mx_z_s, mx_t_a, mx_t_2, mx_t_1, mx_t_0, mx_gd_T, mx_gd_t, mx_br_T, mx_br_F, mx_br_t, mx_br_f, mx_br_n, mx_cl_T, mx_cl_t, mx_re_T, mx_re_t, mx_rt_v, mx_rt_0, mx_cu_t, mx_w_id, mx_l_id, mx_b_0, mx_b_1, mx_b_r, mx_nl_0, mx_nl_1, mx_nl_2, mx_nl_n, mx_nl_l, mx_sw_n, mx_sw_h, mx_sw_m, Int.reduceLE, Int.reduceLT, Int.reduceEq, Int.reduceAdd, Int.reduceSub, Int.reduceMul, Int.reduceNeg, Int.reduceToNat, and_self, true_and, and_true, false_and, and_false, true_or, or_true, false_or, or_false, not_true_eq_false, not_false_eq_true, eq_self, rw_X2_basesThatHold, rw_X2_basesThatHold_1]
    rw [step]
    exact mx_W_s (hX g q)
termination_by (17 - b).toNat
theorem c_bth (hS : sh_F S) (w : vw σ) (r : lr h σ) (t : tw h σ) {l e : Int} {P : Int → Prop} (l0 : 0 ≤ l) (l1 : l < σ 1) (e0 : 0 ≤ e) (e1 : e ≤ 2) (T : ∀ k, tc σ l k → ¬ k = e → 2 ≤ h 8 k ∧ h 8 k ≤ 16)
    (hX : ∀ g, q8 e h g → Q (some (0, bz 2 17 (fun b => P b ∧ hl σ (up (h 8) e b) l))) S g n) :
    mx_W (mx_M (d + 1) 28 [(2, 2), (0, l), (0, e), (0, bz 2 17 P)] S h n) Q := by
  have hL := w.L
  have e0' := r.l0 l0 l1
  have e1' := r.l l 1 l0 l1 (by omega) (by omega)
  have e2' := r.l l 2 l0 l1 (by omega) (by omega)
  have e3' := r.l l 3 l0 l1 (by omega) (by omega)
  have ih := fun l11 l12 l13 => c_bth_l (d := d) hS w r t (P := P) (b := 2) l0 l1 e0 e1 T (by omega) (by omega) (l11 := l11) (l12 := l12) (l13 := l13) (g := h) (q8.mk (fun _ _ => rfl) (fun _ _ => rfl)) hX
  have step : bz 2 17 (fun k => P k ∧ (k < 2 → hl σ (up (h 8) e k) l)) = bz 2 17 P :=
    bz_c (fun k k0 _ => ⟨fun ⟨a, _⟩ => a, fun a => ⟨a, fun c => by omega⟩⟩)
  rw [step] at ih
  simp (disch := omega) only [mx_vt_h, mx_vt_m, mx_cmp_0, mx_cmp_1, mx_cmp_2, mx_cmp_3, mx_cmp_4, mx_u_s, mx_u_a, mx_u_k, mx_z_a, mx_z_s, mx_t_a, mx_t_2, mx_t_1, mx_t_0, mx_gd_T, mx_gd_t, mx_br_T, mx_br_F, mx_br_t, mx_br_f, mx_br_n, mx_cl_T, mx_cl_t, mx_re_T, mx_re_t, mx_rt_v, mx_rt_0, mx_cu_t, mx_w_id, mx_l_id, mx_b_0, mx_b_1, mx_b_r, mx_nl_0, mx_nl_1, mx_nl_2, mx_nl_n, mx_nl_l, mx_sw_n, mx_sw_h, mx_sw_m, Int.reduceLE, Int.reduceLT, Int.reduceEq, Int.reduceAdd, Int.reduceSub, Int.reduceMul, Int.reduceNeg, Int.reduceToNat, and_self, true_and, and_true, false_and, and_false, true_or, or_true, false_or, or_false, not_true_eq_false, not_false_eq_true, eq_self, rw_X2_basesThatHold, rw_X2_basesThatHold_1, hS.e, e0', e1', e2', e3']
  exact ih _ _ _
end
