/-! The call that takes a text, on both sides -/
section
variable {L : Nat} {x : Nat → Int32} {S T h g : mx_H} {n m c : Int} {d : Nat} {t : Int → Int} {N : Int} {σ' : Int → Int} {p' : Int}
/-- the second side, up to the text's end -/
theorem R_v (hM : sh_M S) (w : ws L x S h) (ht : ∀ k, 0 ≤ k → k < N → h 42 k = t k) (tb : ∀ k, 0 ≤ k → k < N → 0 ≤ t k ∧ t k ≤ 255) (hN : h 38 5 = N) (N2 : N ≤ 200) (N0 : 0 ≤ N) : ∃ g3, (∀ b, ¬ b = 38 → ¬ b = 39 → ¬ b = 41 → g3 b = h b) ∧ (∀ k, k < 6 ∨ 10 < k → g3 38 k = h 38 k) ∧ (∀ k, 0 ≤ k → k ≤ 92 → g3 41 k = h 39 k) ∧ g3 39 = cl0 (h 39) ∧ RX t N 0 S g3 ∧ ws L x S g3 ∧ ∀ r g4, mx_ex (d + 9) 173 9 [some (2, 38), none, none, none] [] S g3 n = some (some (0, r), S, g4, n) → mx_M (d + 10) 174 [(2, 38)] S h n = mx_ex (d + 10) 174 20 [some (2, 38), some (0, r)] [] S g4 n := by
  have hM1 := hM.e
  have cc := c_carry (d := d + 9) (S := S) (h := h) (n := n) (a := 39) (b := 41) (by decide) (by omega) (by omega) (by omega) (by omega)
  obtain ⟨g1, e1⟩ : ∃ g1, id (fo h 41 0 (h 39) 93 = g1) := ⟨_, rfl⟩
  have e1 : fo h 41 0 (h 39) 93 = g1 := e1
  rw [e1] at cc
  have f1 : ∀ b, ¬ b = 41 → g1 b = h b := fun b q => by rw [← e1, fo_o q]
  have k1 : ∀ k, 0 ≤ k → k ≤ 92 → g1 41 k = h 39 k := fun k a b => by rw [← e1, fo_93 a b]
  obtain ⟨g2, c2, f2, k2⟩ := c_cls (d := d + 8) (h := g1) (n := n) hM
  rw [f1 39 (by decide)] at k2
  obtain ⟨g3, c3, f3, R3⟩ := R_tp (d := d) (S := S) (h := g2) (n := n) (t := t) (N := N) hM (fun k a b => by rw [f2 42 (by decide), f1 42 (by decide)]; exact ht k a b) tb (by rw [f2 38 (by decide), f1 38 (by decide)]; exact hN) N2 N0
  refine ⟨g3, fun b a0 a1 a2 => by rw [f3.1 b a0, f2 b a1, f1 b a2], fun k q => by rw [f3.2 k q, f2 38 (by decide), f1 38 (by decide)], fun k a b => by rw [f3.1 41 (by decide), f2 41 (by decide)]; exact k1 k a b, by rw [f3.1 39 (by decide)]; exact k2, R3, w.f (fun a z => by rw [f3.1 a (by omega), f2 a (by omega), f1 a (by omega)]), ?_⟩
  intro r g4 e4
  have c4 := c3.trans e4
  simp (disch := omega) only [mx_vt_h, mx_vt_m, mx_cmp_0, mx_cmp_1, mx_cmp_2, mx_cmp_3, mx_cmp_4, mx_u_s, mx_u_a, mx_u_k, mx_z_a, mx_z_s, mx_t_a, mx_t_2, mx_t_1, mx_t_0, mx_gd_T, mx_gd_t, mx_br_T, mx_br_F, mx_br_t, mx_br_f, mx_br_n, mx_cl_T, mx_cl_t, mx_re_T, mx_re_t, mx_rt_v, mx_rt_0, mx_cu_t, mx_w_id, mx_l_id, mx_b_0, mx_b_1, mx_b_r, mx_nl_0, mx_nl_1, mx_nl_2, mx_nl_n, mx_nl_l, mx_sw_n, mx_sw_h, mx_sw_m, Int.reduceLE, Int.reduceLT, Int.reduceEq, Int.reduceAdd, Int.reduceSub, Int.reduceMul, Int.reduceNeg, Int.reduceToNat, and_self, true_and, and_true, false_and, and_false, true_or, or_true, false_or, or_false, not_true_eq_false, not_false_eq_true, eq_self, rw_X12_valley, hM1, cc, c2, c4]
theorem R_v0 (hM : sh_M S) (w : ws L x S h) (ht : ∀ k, 0 ≤ k → k < N → h 42 k = t k) (tb : ∀ k, 0 ≤ k → k < N → 0 ≤ t k ∧ t k ≤ 255) (hN : h 38 5 = N) (N2 : N ≤ 200) (N0 : 0 ≤ N) (Z : ∀ S' h' n', RX t N 0 S' h' → h' 39 = cl0 (h 39) → ws L x S' h' → ∀ l1 l2 l3 : Option mx_V, ∃ g', mx_ex (d + 9) 173 9 [some (2, 38), l1, l2, l3] [] S' h' n' = some (some (0, 0), S', g', n') ∧ fR h' g' ∧ RX t N p' S' g') : ∃ g, mx_M (d + 10) 174 [(2, 38)] S h n = some (some (0, mx_w (-100 - tst t N p')), S, g, n) ∧ (∀ b, ¬ b = 38 → ¬ b = 39 → ¬ b = 41 → g b = h b) ∧ (∀ k, k < 5 ∨ 10 < k → g 38 k = h 38 k) ∧ g 38 5 = 0 ∧ ∀ k, 0 ≤ k → k ≤ 92 → g 39 k = h 39 k := by
  have hM1 := hM.e
  obtain ⟨g3, a1, a2, a3, a4, Y, w3, E⟩ := R_v (d := d) (n := n) hM w ht tb hN N2 N0
  obtain ⟨g4, e4, f4, Y4⟩ := Z S g3 n Y a4 w3 none none none
  have E4 := E 0 g4 e4
  have cs := Y4.c.s
  have cc := c_carry (d := d + 9) (S := S) (h := mx_u g4 38 5 0) (n := n) (a := 41) (b := 39) (by decide) (by omega) (by omega) (by omega) (by omega)
  obtain ⟨g5, e5⟩ : ∃ g5, id (fo (mx_u g4 38 5 0) 39 0 (mx_u g4 38 5 0 41) 93 = g5) := ⟨_, rfl⟩
  have e5 : fo (mx_u g4 38 5 0) 39 0 (mx_u g4 38 5 0 41) 93 = g5 := e5
  rw [e5] at cc
  have f5 : ∀ b, ¬ b = 39 → g5 b = mx_u g4 38 5 0 b := fun b q => by rw [← e5, fo_o q]
  have k7 : g5 38 7 = tst t N p' := by rw [f5 38 (by decide), mx_u_k (by decide)]; exact cs
  refine ⟨g5, ?_, ?_, ?_, ?_, ?_⟩
  · rw [E4]
    simp (disch := omega) only [mx_vt_h, mx_vt_m, mx_cmp_0, mx_cmp_1, mx_cmp_2, mx_cmp_3, mx_cmp_4, mx_u_s, mx_u_a, mx_u_k, mx_z_a, mx_z_s, mx_t_a, mx_t_2, mx_t_1, mx_t_0, mx_gd_T, mx_gd_t, mx_br_T, mx_br_F, mx_br_t, mx_br_f, mx_br_n, mx_cl_T, mx_cl_t, mx_re_T, mx_re_t, mx_rt_v, mx_rt_0, mx_cu_t, mx_w_id, mx_l_id, mx_b_0, mx_b_1, mx_b_r, mx_nl_0, mx_nl_1, mx_nl_2, mx_nl_n, mx_nl_l, mx_sw_n, mx_sw_h, mx_sw_m, Int.reduceLE, Int.reduceLT, Int.reduceEq, Int.reduceAdd, Int.reduceSub, Int.reduceMul, Int.reduceNeg, Int.reduceToNat, and_self, true_and, and_true, false_and, and_false, true_or, or_true, false_or, or_false, not_true_eq_false, not_false_eq_true, eq_self, rw_X12_valley, hM1, cc, k7]
  · intro b b0 b1 b2
    rw [f5 b b1, mx_u_a b0, f4.1 b b0 b1, a1 b b0 b1 b2]
  · intro k q
    rw [f5 38 (by decide), mx_u_k (by omega), f4.2 k (by omega), a2 k (by omega)]
  · rw [f5 38 (by decide), mx_u_s]
  · intro k k0 k1
    rw [← e5, fo_93 k0 k1, mx_u_a (by decide), f4.1 41 (by decide) (by decide), a3 k k0 k1]
theorem R_v1 (hM : sh_M S) (w : ws L x S h) (ht : ∀ k, 0 ≤ k → k < N → h 42 k = t k) (tb : ∀ k, 0 ≤ k → k < N → 0 ≤ t k ∧ t k ≤ 255) (hN : h 38 5 = N) (N2 : N ≤ 200) (N0 : 0 ≤ N) (Z : ∀ S' h' n', RX t N 0 S' h' → h' 39 = cl0 (h 39) → ws L x S' h' → ∀ l1 l2 l3 : Option mx_V, ∃ g', mx_ex (d + 9) 173 9 [some (2, 38), l1, l2, l3] [] S' h' n' = some (some (0, 1), S', g', n') ∧ fR h' g' ∧ RX t N p' S' g' ∧ g' 39 = σ') : ∃ g, mx_M (d + 10) 174 [(2, 38)] S h n = some (some (0, σ' 0), S, g, n) ∧ (∀ b, ¬ b = 38 → ¬ b = 39 → ¬ b = 41 → g b = h b) ∧ (∀ k, k < 5 ∨ 10 < k ∧ ¬ k = 15 → g 38 k = h 38 k) ∧ g 38 5 = 0 ∧ g 38 15 = 0 ∧ g 39 = σ' := by
  have hM1 := hM.e
  obtain ⟨g3, a1, a2, a3, a4, Y, w3, E⟩ := R_v (d := d) (n := n) hM w ht tb hN N2 N0
  obtain ⟨g4, e4, f4, Y4, y4⟩ := Z S g3 n Y a4 w3 none none none
  have E4 := E 1 g4 e4
  refine ⟨mx_u (mx_u g4 38 5 0) 38 15 0, ?_, ?_, ?_, ?_, ?_, ?_⟩
  · rw [E4]
    simp (disch := omega) only [mx_vt_h, mx_vt_m, mx_cmp_0, mx_cmp_1, mx_cmp_2, mx_cmp_3, mx_cmp_4, mx_u_s, mx_u_a, mx_u_k, mx_z_a, mx_z_s, mx_t_a, mx_t_2, mx_t_1, mx_t_0, mx_gd_T, mx_gd_t, mx_br_T, mx_br_F, mx_br_t, mx_br_f, mx_br_n, mx_cl_T, mx_cl_t, mx_re_T, mx_re_t, mx_rt_v, mx_rt_0, mx_cu_t, mx_w_id, mx_l_id, mx_b_0, mx_b_1, mx_b_r, mx_nl_0, mx_nl_1, mx_nl_2, mx_nl_n, mx_nl_l, mx_sw_n, mx_sw_h, mx_sw_m, Int.reduceLE, Int.reduceLT, Int.reduceEq, Int.reduceAdd, Int.reduceSub, Int.reduceMul, Int.reduceNeg, Int.reduceToNat, and_self, true_and, and_true, false_and, and_false, true_or, or_true, false_or, or_false, not_true_eq_false, not_false_eq_true, eq_self, rw_X12_valley, hM1, y4]
  · intro b b0 b1 b2
    rw [mx_u_a b0, mx_u_a b0, f4.1 b b0 b1, a1 b b0 b1 b2]
  · intro k q
    rw [mx_u_k (by omega), mx_u_k (by omega), f4.2 k (by omega), a2 k (by omega)]
  · rw [mx_u_k (by decide), mx_u_s]
  · rw [mx_u_s]
  · rw [mx_u_a (by decide), mx_u_a (by decide)]; exact y4
theorem Inv.TX (v : Inv L x S h n c) (hc : c ≤ 599) (t : stt T g m) (kp : kpt T g m) (sf : ∀ a k, ok a k → T a k = S a k) (sn : ∀ a, a < 0 → T a = S a) (s32 : T 32 = S 32) (s35 : T 35 = S 35) (sS : ∀ a, 53 ≤ a → a < n → T a = S a)
    (f : ∀ a, a < 53 → ¬ a = 39 → ¬ a = 41 → ¬ a = 0 → ¬ a = 38 → ¬ (3 ≤ a ∧ a ≤ 6) → ¬ (22 ≤ a ∧ a ≤ 28) → g a = h a) (f01 : g 0 1 = 0) (f5 : g 38 5 = 0) (r : rws g) (f22 : g 38 22 = h 38 22) (hh : ∀ a, 53 ≤ a → a < n → g a = h a) (fn : fnd g (c + 1)) (le : n ≤ m) (lm : m ≤ n + 24) : Inv L x T g m (c + 1) := by
  have ff : ∀ a, (28 < a ∧ a < 38 ∨ 41 < a ∧ a < 53 ∨ a < 0) → g a = h a := fun a q => f a (by omega) (by omega) (by omega) (by omega) (by omega) (by omega) (by omega)
  refine Inv.mk (v.s.gg sf sn) (fun a z => by rw [ff a (by omega)]; exact v.g a z) (by have := v.n; omega) (by have := v.c; omega) t kp ?_ r ?_ ?_ ?_ fn
  · exact tpe.mk (by rw [f01, f5]) (by rw [f5]; decide) (fun k a b => by rw [f5] at b; omega) (fun k a b => by rw [f5] at b; omega)
  · exact v.b.gg (ff 47 (by decide)) (ff 48 (by decide)) (ff 49 (by decide)) s32 sS (fun a y z _ => hh a y z) le
  · exact v.l.gg (ff 33 (by decide)) (ff 34 (by decide)) (ff 50 (by decide)) (ff 51 (by decide)) s35 sS (fun a y z _ => hh a y z) le
  · exact v.i.gg (ff 36 (by decide)) f22 (ff 37 (by decide)) (ff 52 (by decide))
end
