/-! The program's finder: a line narrows the limits -/
section
variable {d : Nat} {S h : mx_H} {n : Int} {σ : Int → Int} {Q : Option mx_V → mx_H → mx_H → Int → Prop}
theorem tc_r (w : vw σ) {l k : Int} (l0 : 0 ≤ l) (l1 : l < σ 1) (q : tc σ l k) : 0 ≤ k ∧ k ≤ 2 := by
  have lw := w.l l l0 l1
  rcases q with q | ⟨_, q⟩ | ⟨s, q⟩
  · rw [← q]; exact (w.n _ lw.x.1 lw.x.2).e
  · rw [← q]; exact (w.n _ lw.y.1 lw.y.2).e
  · rw [← q]; exact (w.n _ lw.z.1 (lw.z2 s)).e
/-- what a line makes of the limits -/
def nl (σ : Int → Int) (Λ Λ' : Int → Int → Prop) (l : Int) : Prop := ∀ a b c, 2 ≤ a → a ≤ 16 → 2 ≤ b → b ≤ 16 → 2 ≤ c → c ≤ 16 → (IL Λ' a b c ↔ IL Λ a b c ∧ (¬ (tc σ l 0 ∧ tc σ l 1 ∧ tc σ l 2) → hl σ (tb a b c) l))
theorem c_lblp (hS : sh_F S) (w : vw σ) (r : lr h σ) (t : tw h σ) (o : ro h) {l : Int} {Λ : Int → Int → Prop} (m : lim h Λ) (l0 : 0 ≤ l) (l1 : l < σ 1) (th : h 12 l = tt σ l) {e1 e2 : Int} (a0 : 0 ≤ e1) (a1 : e1 < e2) (a2 : e2 ≤ 2) (T : ∀ k, tc σ l k ↔ k = e1 ∨ k = e2)
    (hX : ∀ g, fl h g → lim g (l2 σ Λ l e1 e2 (3 + (e1 + e2 - 1) * 17) 17) → Q none S g n) :
    mx_W (mx_M (d + 2) 27 [(2, 2), (0, l)] S h n) Q := by
  have hL := w.L
  have ih := c_lbl2_l (d := d) (n := n) (Q := Q) (g := h) (b := 2) (pr := 3 + (e1 + e2 - 1) * 17) hS w r t l0 l1 a0 a1 a2 (by omega) (by omega) (fun k q => (T k).mp q) (by omega) (by omega) (fl.mk (fun _ _ _ => rfl)) (by
    intro k k0 k1
    rw [m k k0 k1]
    exact bz_c (fun c _ _ => ⟨fun x => ⟨x, fun u v => by omega⟩, fun x => x.1⟩)) hX
  have ev : h (-3) (tt σ l) = e1 ∧ h (-4) (tt σ l) = e2 ∧ 0 ≤ tt σ l ∧ tt σ l < 8 := by
    have : (e1 = 0 ∧ e2 = 1) ∨ (e1 = 0 ∧ e2 = 2) ∨ (e1 = 1 ∧ e2 = 2) := by omega
    rw [tt_v]
    rcases this with ⟨q, s⟩ | ⟨q, s⟩ | ⟨q, s⟩ <;> subst q <;> subst s
    · rw [mx_b_t ((T 0).mpr (by decide)), mx_b_t ((T 1).mpr (by decide)), mx_b_f (fun x => absurd ((T 2).mp x) (by decide))]; refine ⟨?_, ?_, by decide, by decide⟩ <;> simp only [Int.reduceMul, Int.reduceAdd, o.e]
    · rw [mx_b_t ((T 0).mpr (by decide)), mx_b_f (fun x => absurd ((T 1).mp x) (by decide)), mx_b_t ((T 2).mpr (by decide))]; refine ⟨?_, ?_, by decide, by decide⟩ <;> simp only [Int.reduceMul, Int.reduceAdd, o.e]
    · rw [mx_b_f (fun x => absurd ((T 0).mp x) (by decide)), mx_b_t ((T 1).mpr (by decide)), mx_b_t ((T 2).mpr (by decide))]; refine ⟨?_, ?_, by decide, by decide⟩ <;> simp only [Int.reduceMul, Int.reduceAdd, o.e]
  obtain ⟨v1, v2, v3, v4⟩ := ev
  simp (disch := omega) only [mx_vt_h, mx_vt_m, mx_cmp_0, mx_cmp_1, mx_cmp_2, mx_cmp_3, mx_cmp_4, mx_u_s, mx_u_a, mx_u_k, mx_z_a, mx_z_s, mx_t_a, mx_t_2, mx_t_1, mx_t_0, mx_gd_T, mx_gd_t, mx_br_T, mx_br_F, mx_br_t, mx_br_f, mx_br_n, mx_cl_T, mx_cl_t, mx_re_T, mx_re_t, mx_rt_v, mx_rt_0, mx_cu_t, mx_w_id, mx_l_id, mx_b_0, mx_b_1, mx_b_r, mx_nl_0, mx_nl_1, mx_nl_2, mx_nl_n, mx_nl_l, mx_sw_n, mx_sw_h, mx_sw_m, Int.reduceLE, Int.reduceLT, Int.reduceEq, Int.reduceAdd, Int.reduceSub, Int.reduceMul, Int.reduceNeg, Int.reduceToNat, and_self, true_and, and_true, false_and, and_false, true_or, or_true, false_or, or_false, not_true_eq_false, not_false_eq_true, eq_self, rw_X2_limitByLine, rw_X2_limitByLine_1, hS.e, th, v1, v2]
  exact ih
theorem nl_1 {Λ : Int → Int → Prop} {l e : Int} (e0 : 0 ≤ e) (e1 : e ≤ 2) (T : ∀ k, tc σ l k ↔ k = e) : nl σ Λ (fun k b => Λ k b ∧ (k = e → hl σ (fun _ => b) l)) l := by
  intro a b c a0 a1 b0 b1 c0 c1
  have hh : hl σ (tb a b c) l = hl σ (fun _ => tb a b c e) l := hl_t (fun k hk => by rw [(T k).mp hk])
  have n3 : ¬ (tc σ l 0 ∧ tc σ l 1 ∧ tc σ l 2) := fun ⟨x, y, _⟩ => by have := (T 0).mp x; have := (T 1).mp y; omega
  rw [hh]
  unfold IL
  have : e = 0 ∨ e = 1 ∨ e = 2 := by omega
  rcases this with q | q | q <;> subst q
  · constructor
    · rintro ⟨⟨x0, y0⟩, ⟨x1, _⟩, ⟨x2, _⟩, ⟨x3, _⟩, ⟨x4, _⟩, ⟨x5, _⟩⟩; exact ⟨⟨x0, x1, x2, x3, x4, x5⟩, fun _ => y0 rfl⟩
    · rintro ⟨⟨x0, x1, x2, x3, x4, x5⟩, y⟩
      exact ⟨⟨x0, fun _ => y n3⟩, ⟨x1, fun u => by omega⟩, ⟨x2, fun u => by omega⟩, ⟨x3, fun u => by omega⟩, ⟨x4, fun u => by omega⟩, ⟨x5, fun u => by omega⟩⟩
  · constructor
    · rintro ⟨⟨x0, _⟩, ⟨x1, y0⟩, ⟨x2, _⟩, ⟨x3, _⟩, ⟨x4, _⟩, ⟨x5, _⟩⟩; exact ⟨⟨x0, x1, x2, x3, x4, x5⟩, fun _ => y0 rfl⟩
    · rintro ⟨⟨x0, x1, x2, x3, x4, x5⟩, y⟩
      exact ⟨⟨x0, fun u => by omega⟩, ⟨x1, fun _ => y n3⟩, ⟨x2, fun u => by omega⟩, ⟨x3, fun u => by omega⟩, ⟨x4, fun u => by omega⟩, ⟨x5, fun u => by omega⟩⟩
  · constructor
    · rintro ⟨⟨x0, _⟩, ⟨x1, _⟩, ⟨x2, y0⟩, ⟨x3, _⟩, ⟨x4, _⟩, ⟨x5, _⟩⟩; exact ⟨⟨x0, x1, x2, x3, x4, x5⟩, fun _ => y0 rfl⟩
    · rintro ⟨⟨x0, x1, x2, x3, x4, x5⟩, y⟩
      exact ⟨⟨x0, fun u => by omega⟩, ⟨x1, fun u => by omega⟩, ⟨x2, fun _ => y n3⟩, ⟨x3, fun u => by omega⟩, ⟨x4, fun u => by omega⟩, ⟨x5, fun u => by omega⟩⟩
theorem nl_01 {Λ : Int → Int → Prop} {l : Int} (T : ∀ k, tc σ l k ↔ k = 0 ∨ k = 1) : nl σ Λ (l2 σ Λ l 0 1 3 17) l := by
  intro a b c a0 a1 b0 b1 c0 c1
  have ea : 3 + a - 3 = a := by omega
  have hh : hl σ (tb a b c) l = hl σ (up (fun _ => 3 + a - 3) 1 b) l := hl_t (fun k hk => by
    rcases (T k).mp hk with q | q <;> subst q
    · show a = 3 + a - 3; omega
    · rfl)
  have n3 : ¬ (tc σ l 0 ∧ tc σ l 1 ∧ tc σ l 2) := fun ⟨_, _, y⟩ => by have := (T 2).mp y; omega
  rw [hh]
  unfold IL l2
  constructor
  · rintro ⟨⟨x0, _⟩, ⟨x1, _⟩, ⟨x2, _⟩, ⟨x3, y⟩, ⟨x4, _⟩, ⟨x5, _⟩⟩
    exact ⟨⟨x0, x1, x2, x3, x4, x5⟩, fun _ => (y (by omega) (by omega) (by rw [ea]; exact x0)).2⟩
  · rintro ⟨⟨x0, x1, x2, x3, x4, x5⟩, y⟩
    exact ⟨⟨x0, fun u => by omega⟩, ⟨x1, fun u => by omega⟩, ⟨x2, fun u => by omega⟩, ⟨x3, fun _ _ _ => ⟨x1, y n3⟩⟩, ⟨x4, fun u v => by omega⟩, ⟨x5, fun u v => by omega⟩⟩
theorem nl_02 {Λ : Int → Int → Prop} {l : Int} (T : ∀ k, tc σ l k ↔ k = 0 ∨ k = 2) : nl σ Λ (l2 σ Λ l 0 2 20 17) l := by
  intro a b c a0 a1 b0 b1 c0 c1
  have ea : 20 + a - 20 = a := by omega
  have hh : hl σ (tb a b c) l = hl σ (up (fun _ => 20 + a - 20) 2 c) l := hl_t (fun k hk => by
    rcases (T k).mp hk with q | q <;> subst q
    · show a = 20 + a - 20; omega
    · rfl)
  have n3 : ¬ (tc σ l 0 ∧ tc σ l 1 ∧ tc σ l 2) := fun ⟨_, y, _⟩ => by have := (T 1).mp y; omega
  rw [hh]
  unfold IL l2
  constructor
  · rintro ⟨⟨x0, _⟩, ⟨x1, _⟩, ⟨x2, _⟩, ⟨x3, _⟩, ⟨x4, y⟩, ⟨x5, _⟩⟩
    exact ⟨⟨x0, x1, x2, x3, x4, x5⟩, fun _ => (y (by omega) (by omega) (by rw [ea]; exact x0)).2⟩
  · rintro ⟨⟨x0, x1, x2, x3, x4, x5⟩, y⟩
    exact ⟨⟨x0, fun u => by omega⟩, ⟨x1, fun u => by omega⟩, ⟨x2, fun u => by omega⟩, ⟨x3, fun u v => by omega⟩, ⟨x4, fun _ _ _ => ⟨x2, y n3⟩⟩, ⟨x5, fun u v => by omega⟩⟩
theorem nl_12 {Λ : Int → Int → Prop} {l : Int} (T : ∀ k, tc σ l k ↔ k = 1 ∨ k = 2) : nl σ Λ (l2 σ Λ l 1 2 37 17) l := by
  intro a b c a0 a1 b0 b1 c0 c1
  have ea : 37 + b - 37 = b := by omega
  have hh : hl σ (tb a b c) l = hl σ (up (fun _ => 37 + b - 37) 2 c) l := hl_t (fun k hk => by
    rcases (T k).mp hk with q | q <;> subst q
    · show b = 37 + b - 37; omega
    · rfl)
  have n3 : ¬ (tc σ l 0 ∧ tc σ l 1 ∧ tc σ l 2) := fun ⟨y, _, _⟩ => by have := (T 0).mp y; omega
  rw [hh]
  unfold IL l2
  constructor
  · rintro ⟨⟨x0, _⟩, ⟨x1, _⟩, ⟨x2, _⟩, ⟨x3, _⟩, ⟨x4, _⟩, ⟨x5, y⟩⟩
    exact ⟨⟨x0, x1, x2, x3, x4, x5⟩, fun _ => (y (by omega) (by omega) (by rw [ea]; exact x1)).2⟩
  · rintro ⟨⟨x0, x1, x2, x3, x4, x5⟩, y⟩
    exact ⟨⟨x0, fun u => by omega⟩, ⟨x1, fun u => by omega⟩, ⟨x2, fun u => by omega⟩, ⟨x3, fun u v => by omega⟩, ⟨x4, fun u v => by omega⟩, ⟨x5, fun _ _ _ => ⟨x2, y n3⟩⟩⟩
/-- limitByLine -/
theorem c_lbl (hS : sh_F S) (w : vw σ) (r : lr h σ) (t : tw h σ) (o : ro h) {l : Int} {Λ : Int → Int → Prop} (m : lim h Λ) (l0 : 0 ≤ l) (l1 : l < σ 1) (th : h 12 l = tt σ l)
    (hX : ∀ g Λ', fl h g → lim g Λ' → nl σ Λ Λ' l → Q none S g n) :
    mx_W (mx_M (d + 2) 27 [(2, 2), (0, l)] S h n) Q := by
  have hL := w.L
  have R := fun k (q : tc σ l k) => tc_r w l0 l1 q
  have lw := w.l l l0 l1
  have re := (w.n _ lw.x.1 lw.x.2).e
  have some1 : tc σ l (it σ (ln σ l 1) 1) := Or.inl rfl
  by_cases t0 : tc σ l 0
  · by_cases t1 : tc σ l 1
    · by_cases t2 : tc σ l 2
      · have v : tt σ l = 7 := by rw [tt_v, mx_b_t t0, mx_b_t t1, mx_b_t t2]; decide
        simp (disch := omega) only [mx_vt_h, mx_vt_m, mx_cmp_0, mx_cmp_1, mx_cmp_2, mx_cmp_3, mx_cmp_4, mx_u_s, mx_u_a, mx_u_k, mx_z_a, mx_z_s, mx_t_a, mx_t_2, mx_t_1, mx_t_0, mx_gd_T, mx_gd_t, mx_br_T, mx_br_F, mx_br_t, mx_br_f, mx_br_n, mx_cl_T, mx_cl_t, mx_re_T, mx_re_t, mx_rt_v, mx_rt_0, mx_cu_t, mx_w_id, mx_l_id, mx_b_0, mx_b_1, mx_b_r, mx_nl_0, mx_nl_1, mx_nl_2, mx_nl_n, mx_nl_l, mx_sw_n, mx_sw_h, mx_sw_m, Int.reduceLE, Int.reduceLT, Int.reduceEq, Int.reduceAdd, Int.reduceSub, Int.reduceMul, Int.reduceNeg, Int.reduceToNat, and_self, true_and, and_true, false_and, and_false, true_or, or_true, false_or, or_false, not_true_eq_false, not_false_eq_true, eq_self, rw_X2_limitByLine, rw_X2_limitByLine_1, hS.e, th, v, o.e]
        exact mx_W_s (hX h Λ (fl.mk (fun _ _ _ => rfl)) m (fun a b c _ _ _ _ _ _ => ⟨fun x => ⟨x, fun y => absurd ⟨t0, t1, t2⟩ y⟩, fun x => x.1⟩))
      · have T : ∀ k, tc σ l k ↔ k = 0 ∨ k = 1 := fun k => ⟨fun q => by
          have := R k q
          by_cases e : k = 2
          · rw [e] at q; exact absurd q t2
          · omega, fun q => by rcases q with q | q <;> rw [q] <;> assumption⟩
        exact c_lblp hS w r t o m l0 l1 th (by decide) (by decide) (by decide) T (fun g f m => hX g _ f m (nl_01 T))
    · by_cases t2 : tc σ l 2
      · have T : ∀ k, tc σ l k ↔ k = 0 ∨ k = 2 := fun k => ⟨fun q => by
          have := R k q
          by_cases e : k = 1
          · rw [e] at q; exact absurd q t1
          · omega, fun q => by rcases q with q | q <;> rw [q] <;> assumption⟩
        exact c_lblp hS w r t o m l0 l1 th (by decide) (by decide) (by decide) T (fun g f m => hX g _ f m (nl_02 T))
      · have T : ∀ k, tc σ l k ↔ k = 0 := fun k => ⟨fun q => by
          have := R k q
          by_cases e : k = 1
          · rw [e] at q; exact absurd q t1
          · by_cases e : k = 2
            · rw [e] at q; exact absurd q t2
            · omega, fun q => by rw [q]; assumption⟩
        exact c_lbl1 hS w r t o m l0 l1 (by decide) (by decide) th T (fun g f m => hX g _ f m (nl_1 (by decide) (by decide) T))
  · by_cases t1 : tc σ l 1
    · by_cases t2 : tc σ l 2
      · have T : ∀ k, tc σ l k ↔ k = 1 ∨ k = 2 := fun k => ⟨fun q => by
          have := R k q
          by_cases e : k = 0
          · rw [e] at q; exact absurd q t0
          · omega, fun q => by rcases q with q | q <;> rw [q] <;> assumption⟩
        exact c_lblp hS w r t o m l0 l1 th (by decide) (by decide) (by decide) T (fun g f m => hX g _ f m (nl_12 T))
      · have T : ∀ k, tc σ l k ↔ k = 1 := fun k => ⟨fun q => by
          have := R k q
          by_cases e : k = 0
          · rw [e] at q; exact absurd q t0
          · by_cases e : k = 2
            · rw [e] at q; exact absurd q t2
            · omega, fun q => by rw [q]; assumption⟩
        exact c_lbl1 hS w r t o m l0 l1 (by decide) (by decide) th T (fun g f m => hX g _ f m (nl_1 (by decide) (by decide) T))
    · have T : ∀ k, tc σ l k ↔ k = 2 := fun k => ⟨fun q => by
        have := R k q
        by_cases e : k = 0
        · rw [e] at q; exact absurd q t0
        · by_cases e : k = 1
          · rw [e] at q; exact absurd q t1
          · omega, fun q => by
        have e : it σ (ln σ l 1) 1 = 2 := by
          have : it σ (ln σ l 1) 1 = 0 ∨ it σ (ln σ l 1) 1 = 1 ∨ it σ (ln σ l 1) 1 = 2 := by omega
          rcases this with e | e | e
          · rw [e] at some1; exact absurd some1 t0
          · rw [e] at some1; exact absurd some1 t1
          · exact e
        rw [q, ← e]; exact some1⟩
      exact c_lbl1 hS w r t o m l0 l1 (by decide) (by decide) th T (fun g f m => hX g _ f m (nl_1 (by decide) (by decide) T))
end
