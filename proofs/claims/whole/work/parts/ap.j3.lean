/-! The call that takes a text: how it begins -/
/-- a row cleared -/
def cl0 (ρ : Int → Int) : Int → Int := rwu (rwu (rwu (rwu (rwu (rwu (rwu (rwu ρ 0 0) 1 0) 3 2) 4 16) 5 2) 6 16) 7 2) 8 16
theorem cl0_0 {ρ : Int → Int} : cl0 ρ 0 = 0 := rfl
theorem cl0_1 {ρ : Int → Int} : cl0 ρ 1 = 0 := rfl
theorem cl0_2 {ρ : Int → Int} : cl0 ρ 2 = ρ 2 := rfl
theorem cl0_e {ρ : Int → Int} {e : Int} (e0 : 0 ≤ e) (e1 : e ≤ 2) : cl0 ρ (3 + 2 * e) = 2 ∧ cl0 ρ (3 + 2 * e + 1) = 16 := by
  have : e = 0 ∨ e = 1 ∨ e = 2 := by omega
  rcases this with z | z | z <;> subst z <;> exact ⟨rfl, rfl⟩
theorem cl0_w {ρ : Int → Int} : vw (cl0 ρ) := by
  refine vw.mk (by rw [cl0_0]; decide) (by rw [cl0_1]; decide) (fun e a b => ?_) (fun a a0 a1 => ?_) (fun l a0 a1 => ?_)
  · have := cl0_e (ρ := ρ) a b
    omega
  · rw [cl0_0] at a1; omega
  · rw [cl0_1] at a1; omega
section
variable {L : Nat} {x : Nat → Int32} {S h : mx_H} {n c : Int} {d : Nat} {t : Int → Int} {N : Int}
theorem c_cls (hM : sh_M S) : ∃ g, mx_M (d + 1) 156 [(2, 38)] S h n = some (none, S, g, n) ∧ (∀ b, ¬ b = 39 → g b = h b) ∧ g 39 = cl0 (h 39) := by
  have hM1 := hM.e
  refine ⟨mx_u (mx_u (mx_u (mx_u (mx_u (mx_u (mx_u (mx_u h 39 0 0) 39 1 0) 39 3 2) 39 4 16) 39 5 2) 39 6 16) 39 7 2) 39 8 16, ?_, ?_, ?_⟩
  · simp (disch := omega) only [mx_vt_h, mx_vt_m, mx_cmp_0, mx_cmp_1, mx_cmp_2, mx_cmp_3, mx_cmp_4, mx_u_s, mx_u_a, mx_u_k, mx_z_a, mx_z_s, mx_t_a, mx_t_2, mx_t_1, mx_t_0, mx_gd_T, mx_gd_t, mx_br_T, mx_br_F, mx_br_t, mx_br_f, mx_br_n, mx_cl_T, mx_cl_t, mx_re_T, mx_re_t, mx_rt_v, mx_rt_0, mx_cu_t, mx_w_id, mx_l_id, mx_b_0, mx_b_1, mx_b_r, mx_nl_0, mx_nl_1, mx_nl_2, mx_nl_n, mx_nl_l, mx_sw_n, mx_sw_h, mx_sw_m, Int.reduceLE, Int.reduceLT, Int.reduceEq, Int.reduceAdd, Int.reduceSub, Int.reduceMul, Int.reduceNeg, Int.reduceToNat, and_self, true_and, and_true, false_and, and_false, true_or, or_true, false_or, or_false, not_true_eq_false, not_false_eq_true, eq_self, rw_X12_clears, rh_X12_clears_16, hM1]
  · intro b q; simp (disch := omega) only [mx_u_a]
  · simp only [rwu_39, cl0]
theorem R_tp (hM : sh_M S) (ht : ∀ k, 0 ≤ k → k < N → h 42 k = t k) (tb : ∀ k, 0 ≤ k → k < N → 0 ≤ t k ∧ t k ≤ 255) (hN : h 38 5 = N) (N2 : N ≤ 200) (N0 : 0 ≤ N) : ∃ g, mx_M (d + 9) 173 [(2, 38)] S h n = mx_ex (d + 9) 173 9 [some (2, 38), none, none, none] [] S g n ∧ fM h g ∧ RX t N 0 S g := by
  have hM1 := hM.e
  obtain ⟨g, e, f, r, _⟩ := c_nextM (d := d + 6) (n := n) (S := S) (h := mx_u h 38 6 0) (t := t) (N := N) (p := 0) hM (fun k a b => by rw [mx_u_a (by decide)]; exact ht k a b) tb (by rw [mx_u_k (by decide)]; exact hN) N2 mx_u_s (by omega)
  refine ⟨g, ?_, ⟨fun b q => by rw [f.1 b q, mx_u_a q], fun k q => by rw [f.2 k q, mx_u_k (by omega)]⟩, RX.mk hM (fun k a b => by rw [f.1 42 (by decide), mx_u_a (by decide)]; exact ht k a b) tb N2 (by omega) r⟩
  simp (disch := omega) only [mx_vt_h, mx_vt_m, mx_cmp_0, mx_cmp_1, mx_cmp_2, mx_cmp_3, mx_cmp_4, mx_u_s, mx_u_a, mx_u_k, mx_z_a, mx_z_s, mx_t_a, mx_t_2, mx_t_1, mx_t_0, mx_gd_T, mx_gd_t, mx_br_T, mx_br_F, mx_br_t, mx_br_f, mx_br_n, mx_cl_T, mx_cl_t, mx_re_T, mx_re_t, mx_rt_v, mx_rt_0, mx_cu_t, mx_w_id, mx_l_id, mx_b_0, mx_b_1, mx_b_r, mx_nl_0, mx_nl_1, mx_nl_2, mx_nl_n, mx_nl_l, mx_sw_n, mx_sw_h, mx_sw_m, Int.reduceLE, Int.reduceLT, Int.reduceEq, Int.reduceAdd, Int.reduceSub, Int.reduceMul, Int.reduceNeg, Int.reduceToNat, and_self, true_and, and_true, false_and, and_false, true_or, or_true, false_or, or_false, not_true_eq_false, not_false_eq_true, eq_self, rw_X12_takesAll, rw_X12_takesAll_1, hM1, e]
theorem C_tp (v : Inv L x S h n c) : ∃ g, mx_M (d + 10) 60 [(2, 22), (2, 1), (0, h 38 5)] S (mx_u h 0 1 0) n = mx_ex (d + 10) 60 36 [some (2, 22), some (2, 1), some (0, h 38 5), some (0, 1), some (0, 0), none, none] [] (mx_u S 22 3 1) g n ∧ CX (h 1) (h 38 5) 0 (mx_u S 22 3 1) g ∧ DS (mx_u S 22 3 1) (mx_u h 0 1 0) n (cl0 (h 39)) (mx_u S 22 3 1) g n ∧ sv (mx_u S 22 3 1) 23 := by
  have hX := v.s.x.e
  have sv0 := v.s.t.e
  have vn := v.n
  have r := v.p.r
  have ts : tS (mx_u S 22 3 1) := by
    refine tS.mk ?_
    simp (disch := omega) only [mx_u_s, mx_u_k, mx_u_a, hX, and_self]
  have s0 : sv (mx_u S 22 3 1) 23 := by
    refine sv.mk ?_
    simp (disch := omega) only [mx_u_a]
    exact sv0
  obtain ⟨g1, ec, C⟩ := c_clear (d := d + 8) (h := mx_u (mx_u (mx_u h 0 1 0) 22 4 (h 38 5)) 22 5 0) (n := n) s0 (by decide)
  have Co : ∀ b, ¬ (23 ≤ b ∧ b ≤ 25) → g1 b = mx_u (mx_u (mx_u h 0 1 0) 22 4 (h 38 5)) 22 5 0 b := fun b q => C.o b (by omega) (by omega) (by omega)
  obtain ⟨g2, en, f2, ct⟩ := c_next (d := d + 7) (n := n) (S := mx_u S 22 3 1) (h := g1) (t := h 1) (N := h 38 5) (p := 0) ts (by rw [Co 1 (by decide)]; simp (disch := omega) only [mx_u_a]) (by rw [Co 22 (by decide)]; simp (disch := omega) only [mx_u_k, mx_u_s]) r.2 (by rw [Co 22 (by decide), mx_u_s]) (by omega)
  have i1 : (if h 38 5 < 200 then h 38 5 else 200) = h 38 5 := by split <;> omega
  have i2 : (if 200 < h 38 5 then 200 else h 38 5) = h 38 5 := by split <;> omega
  have lo : ∀ e, 0 ≤ e → e ≤ 2 → g1 24 e = 2 := C.lo
  have hi : ∀ e, 0 ≤ e → e ≤ 2 → g1 25 e = 16 := C.hi
  refine ⟨g2, ?_, CX.mk ts ?_ r.2 (by omega) ct, DS.mk (DF.mk (fun _ _ _ => rfl) (fun _ _ => rfl) ?_ (by omega)) (rr.mk ?_ ?_ ?_ ?_ ?_ ?_) cl0_w ?_, s0⟩
  · simp (disch := omega) only [mx_vt_h, mx_vt_m, mx_cmp_0, mx_cmp_1, mx_cmp_2, mx_cmp_3, mx_cmp_4, mx_u_s, mx_u_a, mx_u_k, mx_z_a, mx_z_s, mx_t_a, mx_t_2, mx_t_1, mx_t_0, mx_gd_T, mx_gd_t, mx_br_T, mx_br_F, mx_br_t, mx_br_f, mx_br_n, mx_cl_T, mx_cl_t, mx_re_T, mx_re_t, mx_rt_v, mx_rt_0, mx_cu_t, mx_w_id, mx_l_id, mx_b_0, mx_b_1, mx_b_r, mx_nl_0, mx_nl_1, mx_nl_2, mx_nl_n, mx_nl_l, mx_sw_n, mx_sw_h, mx_sw_m, Int.reduceLE, Int.reduceLT, Int.reduceEq, Int.reduceAdd, Int.reduceSub, Int.reduceMul, Int.reduceNeg, Int.reduceToNat, and_self, true_and, and_true, false_and, and_false, true_or, or_true, false_or, or_false, not_true_eq_false, not_false_eq_true, eq_self, rw_X7_told, rw_X7_told_1, hX, i1, i2, ec, en]
  · rw [f2 1 (by decide), Co 1 (by decide)]; simp (disch := omega) only [mx_u_a]
  · intro b b0 q
    rw [f2 b (by omega), Co b (by omega)]; simp (disch := omega) only [mx_u_a]
  · rw [f2 23 (by decide), cl0_0]; exact C.c
  · rw [f2 23 (by decide), cl0_1]; exact C.L
  · intro e e0 e1
    rw [(cl0_e e0 e1).1, f2 _ (by decide)]; exact lo e e0 e1
  · intro e e0 e1
    rw [(cl0_e e0 e1).2, f2 _ (by decide)]; exact hi e e0 e1
  · intro l k l0 l1; rw [cl0_1] at l1; omega
  · intro i i0 i1; rw [cl0_0] at i1; omega
  · rw [cl0_0]; omega
end
