/-! A valley becomes another one -/
/-- a valley has been cleared -/
def clr (h g : mx_H) (v : Int) : Prop := (∀ b, ¬ b = v → ¬ b = v + 1 → ¬ b = v + 2 → g b = h b) ∧ (∀ e, 0 ≤ e → e ≤ 2 → g (v + 1) e = 2) ∧ (∀ e, 0 ≤ e → e ≤ 2 → g (v + 2) e = 16) ∧ (g v 3 = 0) ∧ (g v 4 = 0) ∧ (∀ k, k < 3 ∨ 5 < k → g v k = h v k) ∧ (g v 5 = mx_w (h v 5 + 1))
theorem clr.mk {h g : mx_H} {v : Int} (x0 : ∀ b, ¬ b = v → ¬ b = v + 1 → ¬ b = v + 2 → g b = h b) (x1 : ∀ e, 0 ≤ e → e ≤ 2 → g (v + 1) e = 2) (x2 : ∀ e, 0 ≤ e → e ≤ 2 → g (v + 2) e = 16) (x3 : g v 3 = 0) (x4 : g v 4 = 0) (x5 : ∀ k, k < 3 ∨ 5 < k → g v k = h v k) (x6 : g v 5 = mx_w (h v 5 + 1)) : clr h g v := (And.intro x0 (And.intro x1 (And.intro x2 (And.intro x3 (And.intro x4 (And.intro x5 x6))))))
theorem clr.o {h g : mx_H} {v : Int} (q : clr h g v) : ∀ b, ¬ b = v → ¬ b = v + 1 → ¬ b = v + 2 → g b = h b := (And.left q)
theorem clr.lo {h g : mx_H} {v : Int} (q : clr h g v) : ∀ e, 0 ≤ e → e ≤ 2 → g (v + 1) e = 2 := (And.left (And.right q))
theorem clr.hi {h g : mx_H} {v : Int} (q : clr h g v) : ∀ e, 0 ≤ e → e ≤ 2 → g (v + 2) e = 16 := (And.left (And.right (And.right q)))
theorem clr.c {h g : mx_H} {v : Int} (q : clr h g v) : g v 3 = 0 := (And.left (And.right (And.right (And.right q))))
theorem clr.L {h g : mx_H} {v : Int} (q : clr h g v) : g v 4 = 0 := (And.left (And.right (And.right (And.right (And.right q)))))
theorem clr.k {h g : mx_H} {v : Int} (q : clr h g v) : ∀ k, k < 3 ∨ 5 < k → g v k = h v k := (And.left (And.right (And.right (And.right (And.right (And.right q))))))
theorem clr.v5 {h g : mx_H} {v : Int} (q : clr h g v) : g v 5 = mx_w (h v 5 + 1) := (And.right (And.right (And.right (And.right (And.right (And.right q))))))
section
variable {S h : mx_H} {n v w : Int} {d : Nat} {τ : Int → Int}
theorem c_clear (s : sv S v) (v0 : 0 ≤ v) : ∃ g, mx_M (d + 1) 85 [(2, v)] S h n = some (none, S, g, n) ∧ clr h g v := by
  have se := s.e
  have t1 : S (v + 1) (-2) = 20 := by omega
  have l1 : S (v + 1) (-1) = 3 := by omega
  have t2 : S (v + 2) (-2) = 20 := by omega
  have l2 : S (v + 2) (-1) = 3 := by omega
  have f1 := c_fill (d := d) (n := n) (h := h) (v := 2) t1 l1 (by decide) (by decide)
  have f2 := c_fill (d := d) (n := n) (h := fil h (v + 1) 2 3) (v := 16) t2 l2 (by decide) (by decide)
  have e3 : ∀ k, fil (fil h (v + 1) 2 3) (v + 2) 16 3 v k = h v k := fun k => by rw [fil_a (by omega), fil_a (by omega)]
  refine ⟨mx_u (mx_u (mx_u (fil (fil h (v + 1) 2 3) (v + 2) 16 3) v 3 0) v 4 0) v 5 (mx_w (h v 5 + 1)), ?_, ?_⟩
  · simp (disch := omega) only [mx_vt_h, mx_vt_m, mx_cmp_0, mx_cmp_1, mx_cmp_2, mx_cmp_3, mx_cmp_4, mx_u_s, mx_u_a, mx_u_k, mx_z_a, mx_z_s, mx_t_a, mx_t_2, mx_t_1, mx_t_0, mx_gd_T, mx_gd_t, mx_br_T, mx_br_F, mx_br_t, mx_br_f, mx_br_n, mx_cl_T, mx_cl_t, mx_re_T, mx_re_t, mx_rt_v, mx_rt_0, mx_cu_t, mx_w_id, mx_l_id, mx_b_0, mx_b_1, mx_b_r, mx_nl_0, mx_nl_1, mx_nl_2, mx_nl_n, mx_nl_l, mx_sw_n, mx_sw_h, mx_sw_m, Int.reduceLE, Int.reduceLT, Int.reduceEq, Int.reduceAdd, Int.reduceSub, Int.reduceMul, Int.reduceNeg, Int.reduceToNat, and_self, true_and, and_true, false_and, and_false, true_or, or_true, false_or, or_false, not_true_eq_false, not_false_eq_true, eq_self, rw_X10_clear, se, f1, f2, e3]
  · refine clr.mk ?_ ?_ ?_ ?_ ?_ ?_ ?_
    · intro b b0 b1 b2; rw [mx_u_a b0, mx_u_a b0, mx_u_a b0, fil_a b2, fil_a b1]
    · intro e e0 e1; rw [mx_u_a (by omega), mx_u_a (by omega), mx_u_a (by omega), fil_a (by omega), fil_i e0 (by omega)]
    · intro e e0 e1; rw [mx_u_a (by omega), mx_u_a (by omega), mx_u_a (by omega), fil_i e0 (by omega)]
    · rw [mx_u_k (by decide), mx_u_k (by decide), mx_u_s]
    · rw [mx_u_k (by decide), mx_u_s]
    · intro k k0; rw [mx_u_k (by omega), mx_u_k (by omega), mx_u_k (by omega), e3]
    · rw [mx_u_s]
end
/-- i notes have been made anew -/
def bcm (S h : mx_H) (n v : Int) (τ : Int → Int) (T g : mx_H) (m i : Int) : Prop := (m = n + 2 * i) ∧ (∀ b, b < n → ¬ b = v + 4 → T b = S b) ∧ (∀ k, k < 0 → T (v + 4) k = S (v + 4) k) ∧ (∀ b, b < n → ¬ b = v → g b = h b) ∧ (∀ k, ¬ k = 3 → ¬ k = 5 → g v k = h v k) ∧ (g v 3 = i) ∧ (∀ j, 0 ≤ j → j < i → nr T g m (T (v + 4) j) τ j) ∧ (∀ j, 0 ≤ j → j < i → n ≤ T (v + 4) j ∧ n ≤ T (T (v + 4) j) 2) ∧ (∀ j k, 0 ≤ j → j < i → 0 ≤ k → k < i → ¬ j = k → ¬ T (v + 4) j = T (v + 4) k ∧ ¬ T (T (v + 4) j) 2 = T (T (v + 4) k) 2) ∧ (0 ≤ h v 5 → h v 5 ≤ 10000 → g v 5 = h v 5 + i)
theorem bcm.mk {S h : mx_H} {n v : Int} {τ : Int → Int} {T g : mx_H} {m i : Int} (x0 : m = n + 2 * i) (x1 : ∀ b, b < n → ¬ b = v + 4 → T b = S b) (x2 : ∀ k, k < 0 → T (v + 4) k = S (v + 4) k) (x3 : ∀ b, b < n → ¬ b = v → g b = h b) (x4 : ∀ k, ¬ k = 3 → ¬ k = 5 → g v k = h v k) (x5 : g v 3 = i) (x6 : ∀ j, 0 ≤ j → j < i → nr T g m (T (v + 4) j) τ j) (x7 : ∀ j, 0 ≤ j → j < i → n ≤ T (v + 4) j ∧ n ≤ T (T (v + 4) j) 2) (x8 : ∀ j k, 0 ≤ j → j < i → 0 ≤ k → k < i → ¬ j = k → ¬ T (v + 4) j = T (v + 4) k ∧ ¬ T (T (v + 4) j) 2 = T (T (v + 4) k) 2) (x9 : 0 ≤ h v 5 → h v 5 ≤ 10000 → g v 5 = h v 5 + i) : bcm S h n v τ T g m i := (And.intro x0 (And.intro x1 (And.intro x2 (And.intro x3 (And.intro x4 (And.intro x5 (And.intro x6 (And.intro x7 (And.intro x8 x9)))))))))
theorem bcm.m {S h : mx_H} {n v : Int} {τ : Int → Int} {T g : mx_H} {m i : Int} (q : bcm S h n v τ T g m i) : m = n + 2 * i := (And.left q)
theorem bcm.S0 {S h : mx_H} {n v : Int} {τ : Int → Int} {T g : mx_H} {m i : Int} (q : bcm S h n v τ T g m i) : ∀ b, b < n → ¬ b = v + 4 → T b = S b := (And.left (And.right q))
theorem bcm.S4 {S h : mx_H} {n v : Int} {τ : Int → Int} {T g : mx_H} {m i : Int} (q : bcm S h n v τ T g m i) : ∀ k, k < 0 → T (v + 4) k = S (v + 4) k := (And.left (And.right (And.right q)))
theorem bcm.g0 {S h : mx_H} {n v : Int} {τ : Int → Int} {T g : mx_H} {m i : Int} (q : bcm S h n v τ T g m i) : ∀ b, b < n → ¬ b = v → g b = h b := (And.left (And.right (And.right (And.right q))))
theorem bcm.gv {S h : mx_H} {n v : Int} {τ : Int → Int} {T g : mx_H} {m i : Int} (q : bcm S h n v τ T g m i) : ∀ k, ¬ k = 3 → ¬ k = 5 → g v k = h v k := (And.left (And.right (And.right (And.right (And.right q)))))
theorem bcm.c {S h : mx_H} {n v : Int} {τ : Int → Int} {T g : mx_H} {m i : Int} (q : bcm S h n v τ T g m i) : g v 3 = i := (And.left (And.right (And.right (And.right (And.right (And.right q))))))
theorem bcm.n {S h : mx_H} {n v : Int} {τ : Int → Int} {T g : mx_H} {m i : Int} (q : bcm S h n v τ T g m i) : ∀ j, 0 ≤ j → j < i → nr T g m (T (v + 4) j) τ j := (And.left (And.right (And.right (And.right (And.right (And.right (And.right q)))))))
theorem bcm.l {S h : mx_H} {n v : Int} {τ : Int → Int} {T g : mx_H} {m i : Int} (q : bcm S h n v τ T g m i) : ∀ j, 0 ≤ j → j < i → n ≤ T (v + 4) j ∧ n ≤ T (T (v + 4) j) 2 := (And.left (And.right (And.right (And.right (And.right (And.right (And.right (And.right q))))))))
theorem bcm.d {S h : mx_H} {n v : Int} {τ : Int → Int} {T g : mx_H} {m i : Int} (q : bcm S h n v τ T g m i) : ∀ j k, 0 ≤ j → j < i → 0 ≤ k → k < i → ¬ j = k → ¬ T (v + 4) j = T (v + 4) k ∧ ¬ T (T (v + 4) j) 2 = T (T (v + 4) k) 2 := (And.left (And.right (And.right (And.right (And.right (And.right (And.right (And.right (And.right q)))))))))
theorem bcm.u {S h : mx_H} {n v : Int} {τ : Int → Int} {T g : mx_H} {m i : Int} (q : bcm S h n v τ T g m i) : 0 ≤ h v 5 → h v 5 ≤ 10000 → g v 5 = h v 5 + i := (And.right (And.right (And.right (And.right (And.right (And.right (And.right (And.right (And.right q)))))))))
section
variable {S h T g : mx_H} {n m v w i : Int} {d : Nat} {τ : Int → Int} {Q : Option mx_V → mx_H → mx_H → Int → Prop}
theorem bcm.sv (B : bcm S h n v τ T g m i) (s : sv S v) (v0 : 0 ≤ v ∧ v ≤ 40) (n0 : 53 ≤ n) : sv T v := by
  have se := s.e
  have o := B.S0
  have o4 := B.S4
  refine sv.mk ?_
  rw [o v (by omega) (by omega), o (v + 1) (by omega) (by omega), o (v + 2) (by omega) (by omega), o (v + 3) (by omega) (by omega), o4 (-2) (by decide), o4 (-1) (by decide)]; exact se
theorem bcm.sw (B : bcm S h n v τ T g m i) (s : CRoomNumbersLaw_law_r7303_6997d3.sv S w) (w0 : 0 ≤ w ∧ w ≤ 40) (n0 : 53 ≤ n) (vw : v + 4 < w ∨ w + 4 < v) : CRoomNumbersLaw_law_r7303_6997d3.sv T w := by
  have se := s.e
  have o := B.S0
  refine sv.mk ?_
  rw [o w (by omega) (by omega), o (w + 1) (by omega) (by omega), o (w + 2) (by omega) (by omega), o (w + 3) (by omega) (by omega), o (w + 4) (by omega) (by omega)]; exact se
theorem bcm.rw' (B : bcm S h n v τ T g m i) (r : rr S h n w τ) (w0 : 0 ≤ w ∧ w ≤ 40) (v0 : 0 ≤ v ∧ v ≤ 40) (n0 : 53 ≤ n) (i0 : 0 ≤ i) (vw : v + 4 < w ∨ w + 4 < v) : rr T g m w τ := by
  have hm := B.m
  have o := B.S0
  have g0 := B.g0
  exact r.gg (by rw [g0 w (by omega) (by omega)]) (by rw [g0 w (by omega) (by omega)]) (g0 _ (by omega) (by omega)) (g0 _ (by omega) (by omega)) (g0 _ (by omega) (by omega)) (o _ (by omega) (by omega)) (fun b b0 b1 => o b b1 (by omega)) (fun b b0 b1 => g0 b b1 (by omega)) (by omega)
/-- one more -/
theorem bcm.s {k e a : Int} {T2 g2 g1 : mx_H} (B : bcm S h n v τ T g m i) (W : nw τ i) (i0 : 0 ≤ i ∧ i ≤ 5) (v0 : 0 ≤ v ∧ v ≤ 40) (n0 : 53 ≤ n) (ek : k = it τ i 0) (ee : e = it τ i 1) (ea : a = it τ i 2) (A : ad (mx_t T m 20 (it τ i 3)) g1 (m + 1) v k e a m T2 g2) (o1 : ∀ b, b < m → g1 b = g b) (s1 : ∀ j, 0 ≤ j → j < it τ i 3 → g1 m j = it τ i (4 + j)) : bcm S h n v τ T2 g2 (m + 1 + 1) (i + 1) := by
  have hm := B.m
  have c1 : g1 v 3 = i := by rw [o1 v (by omega)]; exact B.c
  have AS := A.S4
  have Ac := A.Sc
  have An := A.gn
  rw [c1] at AS Ac An
  have oT : ∀ b, b < m → ¬ b = v + 4 → T2 b = T b := fun b b0 b1 => by rw [A.S0 b (by omega) b1, mx_t_a (by omega)]
  have og : ∀ b, b < m → ¬ b = v → g2 b = g b := fun b b0 b1 => by rw [A.g0 b (by omega) b1, o1 b b0]
  have T4 : ∀ j, ¬ j = i → T2 (v + 4) j = T (v + 4) j := fun j q => by rw [AS j q, mx_t_a (by omega)]
  have Tm : T2 m (-2) = 20 ∧ T2 m (-1) = it τ i 3 := by rw [A.S0 m (by omega) (by omega)]; exact ⟨mx_t_2, mx_t_1⟩
  have old : ∀ j, 0 ≤ j → j < i → T2 (v + 4) j = T (v + 4) j ∧ T2 (T (v + 4) j) 2 = T (T (v + 4) j) 2 ∧ T (v + 4) j < m ∧ T (T (v + 4) j) 2 < m := fun j j0 j1 => by
    have r := B.n j j0 j1
    have l := B.l j j0 j1
    have p1 := r.p1
    exact ⟨T4 j (by omega), by rw [oT _ p1 (by omega)], p1, r.q1⟩
  refine bcm.mk (by omega) (fun b b0 b1 => by rw [oT b (by omega) b1]; exact B.S0 b b0 b1) (fun k k0 => by rw [T4 k (by omega)]; exact B.S4 k k0) (fun b b0 b1 => by rw [og b (by omega) b1]; exact B.g0 b b0 b1) (fun k k0 k1 => by rw [A.gv k k0 k1, o1 v (by omega)]; exact B.gv k k0 k1) (by rw [A.g3, c1]) ?_ ?_ ?_ ?_
  · intro j j0 j1
    by_cases q : j = i
    · subst q
      rw [Ac]
      refine nr.mk (by rw [A.St, ek]) An (by rw [A.ga, ea]) (by rw [A.ge, ee]) ?_ ?_ (fun k k0 k1 => ?_) (by omega) (by omega) ?_ ?_
      · rw [A.Sm]; exact Tm.1
      · rw [A.Sm]; exact Tm.2
      · rw [A.Sm, A.g0 m (by omega) (by omega)]; exact s1 k k0 k1
      · rw [A.Sm]; omega
      · rw [A.Sm]; omega
    · have oj := old j j0 (by omega)
      rw [oj.1]
      exact (B.n j j0 (by omega)).gg (fun b b0 b1 => oT b b1 (by omega)) (fun b b0 b1 => og b b1 (by omega)) (by omega)
  · intro j j0 j1
    by_cases q : j = i
    · subst q
      rw [Ac, A.Sm]; omega
    · have oj := old j j0 (by omega)
      rw [oj.1, oj.2.1]; exact B.l j j0 (by omega)
  · intro j k j0 j1 k0 k1 q
    by_cases qj : j = i
    · have ok := old k k0 (by omega)
      rw [qj, Ac, A.Sm, ok.1, ok.2.1]; omega
    · have oj := old j j0 (by omega)
      by_cases qk : k = i
      · rw [qk, Ac, A.Sm, oj.1, oj.2.1]; omega
      · have ok := old k k0 (by omega)
        rw [oj.1, ok.1, oj.2.1, ok.2.1]; exact B.d j k j0 (by omega) k0 (by omega) q
  · intro u0 u1
    have := B.u u0 u1
    rw [A.g5, o1 v (by omega), this, mx_w_id (by omega) (by omega)]; omega
end
section
variable {S h : mx_H} {n v w : Int} {d : Nat} {τ : Int → Int} {Q : Option mx_V → mx_H → mx_H → Int → Prop}
theorem c_bec_l {T g : mx_H} {m i : Int} {l3 : Option mx_V} (s : sv S v) (s' : sv S w) (r : rr S h n w τ) (W : vw τ) (v0 : 0 ≤ v ∧ v ≤ 40) (w0 : 0 ≤ w ∧ w ≤ 40) (n0 : 53 ≤ n) (vw : v + 4 < w ∨ w + 4 < v) (i0 : 0 ≤ i ∧ i ≤ τ 0) (B : bcm S h n v τ T g m i)
    (hQ : ∀ T g m, bcm S h n v τ T g m (τ 0) → Q none T (mx_u (mx_y g (w + 3) 0 (v + 3) 0 24) v 4 (g w 4)) m) :
    mx_W (mx_ex (d + 6) 86 34 [some (2, v), some (2, w), some (0, i), l3] [] T g m) Q := by
  have WN := W.N
  have hm := B.m
  have sT := B.sv s v0 n0
  have sW := B.sw s' w0 n0 vw
  have rW := B.rw' r w0 v0 n0 i0.1 vw
  have e1 := sT.e
  have e2 := sW.e
  rw [rh_X10_become_34]
  by_cases q : i < τ 0
  · have ri := rW.n i i0.1 q
    have wi := W.n i i0.1 q
    have ki := wi.k
    have ni := wi.n
    have p0 := ri.p0
    have rt := ri.t
    have rq := ri.q
    have rl := ri.l
    have na := c_noteAt1 (d := d + 5) (n := m) sW rW W i0.1 q
    have ck := fun mm pc L st => c_kindV (d := d + 5) (n := m) (m := mm) (pc := pc) (L := L) (st := st) ri wi
    have s1 : CRoomNumbersLaw_law_r7303_6997d3.sv (mx_t T m 20 (it τ i 3)) v := by
      have e := sT.e
      refine sv.mk ?_
      rw [mx_t_a (by omega), mx_t_a (by omega), mx_t_a (by omega), mx_t_a (by omega), mx_t_a (by omega)]; exact e
    have o1 : ∀ b, b < m → mx_y (mx_z g m) (T (T (w + 4) i) 2) 0 m 0 (it τ i 3) b = g b := fun b b0 => by rw [mx_y_a (by omega), mx_z_a (by omega)]
    have c3 : mx_y (mx_z g m) (T (T (w + 4) i) 2) 0 m 0 (it τ i 3) v 3 = i := by rw [o1 v (by omega)]; exact B.c
    obtain ⟨T2, g2, eA, A⟩ := c_addNote (d := d) (S := mx_t T m 20 (it τ i 3)) (h := mx_y (mx_z g m) (T (T (w + 4) i) 2) 0 m 0 (it τ i 3)) (n := m + 1) (v := v) (k := it τ i 0) (e := it τ i 1) (a := it τ i 2) (mk := m) s1 (by omega) ki (by omega) v0
    have B2 := B.s wi (by omega) v0 n0 rfl rfl rfl A o1 (fun j j0 j1 => by
      have q1 := ri.q1
      rw [mx_y_i (by omega) (by omega), mx_z_a (by omega)]
      have : (0 : Int) + (j - 0) = j := by omega
      rw [this]; exact ri.s j j0 j1)
    have ih := fun l3 => c_bec_l (i := i + 1) (l3 := l3) (T := T2) (g := g2) (m := m + 1 + 1) s s' r W v0 w0 n0 vw (by omega) B2 hQ
    simp (disch := omega) only [mx_vt_h, mx_vt_m, mx_cmp_0, mx_cmp_1, mx_cmp_2, mx_cmp_3, mx_cmp_4, mx_u_s, mx_u_a, mx_u_k, mx_z_a, mx_z_s, mx_t_a, mx_t_2, mx_t_1, mx_t_0, mx_gd_T, mx_gd_t, mx_br_T, mx_br_F, mx_br_t, mx_br_f, mx_br_n, mx_cl_T, mx_cl_t, mx_re_T, mx_re_t, mx_rt_v, mx_rt_0, mx_cu_t, mx_w_id, mx_l_id, mx_b_0, mx_b_1, mx_b_r, mx_nl_0, mx_nl_1, mx_nl_2, mx_nl_n, mx_nl_l, mx_sw_n, mx_sw_h, mx_sw_m, Int.reduceLE, Int.reduceLT, Int.reduceEq, Int.reduceAdd, Int.reduceSub, Int.reduceMul, Int.reduceNeg, Int.reduceToNat, and_self, true_and, and_true, false_and, and_false, true_or, or_true, false_or, or_false, not_true_eq_false, not_false_eq_true, eq_self, rw_X10_become, e1, e2, rW.c, na, ck]
    simp (disch := omega) only [mx_vt_h, mx_vt_m, mx_cmp_0, mx_cmp_1, mx_cmp_2, mx_cmp_3, mx_cmp_4, mx_u_s, mx_u_a, mx_u_k, mx_z_a, mx_z_s, mx_t_a, mx_t_2, mx_t_1, mx_t_0, mx_gd_T, mx_gd_t, mx_br_T, mx_br_F, mx_br_t, mx_br_f, mx_br_n, mx_cl_T, mx_cl_t, mx_re_T, mx_re_t, mx_rt_v, mx_rt_0, mx_cu_t, mx_w_id, mx_l_id, mx_b_0, mx_b_1, mx_b_r, mx_nl_0, mx_nl_1, mx_nl_2, mx_nl_n, mx_nl_l, mx_sw_n, mx_sw_h, mx_sw_m, Int.reduceLE, Int.reduceLT, Int.reduceEq, Int.reduceAdd, Int.reduceSub, Int.reduceMul, Int.reduceNeg, Int.reduceToNat, and_self, true_and, and_true, false_and, and_false, true_or, or_true, false_or, or_false, not_true_eq_false, not_false_eq_true, eq_self, rw_X10_become, e1, e2, rt, rq, rl, ri.e, ri.a, eA]
    exact ih _
  · have ei : i = τ 0 := by omega
    subst ei
    simp (disch := omega) only [mx_vt_h, mx_vt_m, mx_cmp_0, mx_cmp_1, mx_cmp_2, mx_cmp_3, mx_cmp_4, mx_u_s, mx_u_a, mx_u_k, mx_z_a, mx_z_s, mx_t_a, mx_t_2, mx_t_1, mx_t_0, mx_gd_T, mx_gd_t, mx_br_T, mx_br_F, mx_br_t, mx_br_f, mx_br_n, mx_cl_T, mx_cl_t, mx_re_T, mx_re_t, mx_rt_v, mx_rt_0, mx_cu_t, mx_w_id, mx_l_id, mx_b_0, mx_b_1, mx_b_r, mx_nl_0, mx_nl_1, mx_nl_2, mx_nl_n, mx_nl_l, mx_sw_n, mx_sw_h, mx_sw_m, Int.reduceLE, Int.reduceLT, Int.reduceEq, Int.reduceAdd, Int.reduceSub, Int.reduceMul, Int.reduceNeg, Int.reduceToNat, and_self, true_and, and_true, false_and, and_false, true_or, or_true, false_or, or_false, not_true_eq_false, not_false_eq_true, eq_self, rw_X10_become, e1, e2, rW.c, mx_y_a]
    exact mx_W_s (hQ _ _ _ B)
termination_by (τ 0 - i).toNat
decreasing_by omega
end
