section
variable {L : Nat} {x : Nat → Int32} {S T h g : mx_H} {n m c : Int} {d : Nat}
/-- the reference is ready to act -/
theorem np_k (v : Inv L x S h n c) {i : Int} {G : mx_H} (i0 : 0 ≤ i ∧ i < h 39 0) (f : G 39 = h 39) : np S (mx_u (mx_u (mx_u G 38 22 0) 38 23 i) 38 24 0) (it (h 39) i 0) i (it (h 39) i 2) := by
  have e39 : mx_u (mx_u (mx_u G 38 22 0) 38 23 i) 38 24 0 39 = h 39 := by rw [mx_u_a (by decide), mx_u_a (by decide), mx_u_a (by decide)]; exact f
  have hN := v.t.w.N
  refine np.mk v.s.m ?_ ?_ ?_ (by omega) ?_
  · rw [mx_u_k (by decide), mx_u_s]
  · rw [e39]
  · rw [e39]
  · rw [mx_u_k (by decide), mx_u_k (by decide), mx_u_s]; decide
theorem no_h (v : Inv L x S h n c) {i : Int} (i0 : 0 ≤ i ∧ i < h 39 0) : no S (h0' h) (S 7 i) (it (h 39) i 0) i (it (h 39) i 2) := by
  have r := v.nr i0
  have p0 := r.p0
  have hX := v.s.x.e
  refine no.mk r.t ?_ ?_ p0 ?_ ?_
  · rw [h0_o (by omega)]; exact r.n
  · rw [h0_o (by omega)]; exact r.a
  · unfold h0'; rw [mx_u_k (by decide), mx_u_s]; decide
  · simp only [hX]; decide
theorem h0_1 : h0' h 36 1 = 0 := by unfold h0'; rw [mx_u_k (by decide), mx_u_s]
theorem h0_2 : h0' h 36 2 = -1 := by unfold h0'; rw [mx_u_s]
theorem k_22 {i : Int} {G : mx_H} : mx_u (mx_u (mx_u G 38 22 0) 38 23 i) 38 24 0 38 22 = 0 := by rw [mx_u_k (by decide), mx_u_k (by decide), mx_u_s]
theorem k_24 {i : Int} {G : mx_H} : mx_u (mx_u (mx_u G 38 22 0) 38 23 i) 38 24 0 38 24 = 0 := mx_u_s
section
variable {a y : Int}
theorem act_t0 (v : Inv L x S h n c) (hc : c ≤ 599) (q : 0 ≤ a ∧ a ≤ 3) (z : h 33 a = 0 ∧ h 50 a = 1 ∧ h 51 a = h 34 a) (i0 : 0 ≤ h 34 a ∧ h 34 a < h 39 0) : mx_W (mx_M (d + 12) 137 [(2, 0), (0, a), (0, 0), (0, y)] S h n) (fun v S1 h1 n1 => mx_W (mx_M (d + 12) 243 [(2, 38), (0, a), (0, 0), (0, y)] S1 h1 n1) (fun v2 S2 h2 n2 => (∃ y, v = some (0, y) ∧ v2 = some (0, y)) ∧ Inv L x S2 h2 n2 (c + 1))) := by
  have k := (v.nw i0).k
  obtain ⟨G, eG, e⟩ := c_rV (d := d + 9) (n := n) (y := y) (no_h v i0) k (by rw [h0_1]; decide)
  have ff : ∀ b, ¬ b = 36 → ¬ b = 37 → G b = h b := fun b b0 b1 => by rw [eG, tC_o b0 b1, h0_o b0]
  have o := np_k v i0 (ff 39 (by decide) (by decide))
  obtain ⟨K, eK, e2⟩ := c_RV (d := d + 8) (n := n) (y := y) o k (by rw [k_22]; decide)
  have eC := act_c0 v q z.1 i0.1 i0.2 e
  have eR := act_r0 o q (by rw [ff 50 (by decide) (by decide)]; exact z.2.1) (by rw [ff 51 (by decide) (by decide)]; exact z.2.2) (by rw [ff 39 (by decide) (by decide)]; exact v.t.w) (by rw [ff 39 (by decide) (by decide)]; exact i0.2) e2
  rw [if_pos (by rw [eG, tC_k (by decide), h0_2])] at eC
  rw [if_pos (by rw [eK, tR_k (by decide), k_24])] at eR
  rw [eG] at eC
  rw [eK, eG] at eR
  exact act_1 v hc (a := 0) (t := 0) (by have := ll_r k; omega) eC eR
theorem act_t1 (v : Inv L x S h n c) (hc : c ≤ 599) (q : 0 ≤ a ∧ a ≤ 3) (z : h 33 a = 0 ∧ h 50 a = 1 ∧ h 51 a = h 34 a) (i0 : 0 ≤ h 34 a ∧ h 34 a < h 39 0) : mx_W (mx_M (d + 12) 137 [(2, 0), (0, a), (0, 1), (0, y)] S h n) (fun v S1 h1 n1 => mx_W (mx_M (d + 12) 243 [(2, 38), (0, a), (0, 1), (0, y)] S1 h1 n1) (fun v2 S2 h2 n2 => (∃ y, v = some (0, y) ∧ v2 = some (0, y)) ∧ Inv L x S2 h2 n2 (c + 1))) := by
  have k := (v.nw i0).k
  obtain ⟨G, eG, e⟩ := c_wV (d := d + 7) (n := n) (y := y) (no_h v i0) k (by rw [h0_1]; decide)
  have ff : ∀ b, ¬ b = 36 → ¬ b = 37 → G b = h b := fun b b0 b1 => by rw [eG, tC_o b0 b1, h0_o b0]
  have o := np_k v i0 (ff 39 (by decide) (by decide))
  obtain ⟨K, eK, e2⟩ := c_WV (d := d + 5) (n := n) (y := y) o k (by rw [k_22]; decide)
  have eC := act_c1 v q z.1 i0.1 i0.2 e
  have eR := act_r1 o q (by rw [ff 50 (by decide) (by decide)]; exact z.2.1) (by rw [ff 51 (by decide) (by decide)]; exact z.2.2) (by rw [ff 39 (by decide) (by decide)]; exact v.t.w) (by rw [ff 39 (by decide) (by decide)]; exact i0.2) e2
  rw [if_pos (by rw [eG, tC_k (by decide), h0_2])] at eC
  rw [if_pos (by rw [eK, tR_k (by decide), k_24])] at eR
  rw [eG] at eC
  rw [eK, eG] at eR
  exact act_1 v hc (a := 0) (t := 0) (by have := ll_w k; omega) eC eR
/-- both sides end a parting alike -/
theorem se_2 {h : mx_H} {bs : List Int} {A i w : Int} (h1 : h 36 1 = 0) (h2 : h 36 2 = -1) : (if se (tC h bs) A i 36 2 = -1 then w else -15) = if A = i then -15 else w := by
  by_cases q : A = i
  · rw [if_pos q, if_neg]
    unfold se; rw [if_pos q, mx_u_s, tC_c, h1]; omega
  · rw [if_neg q, if_pos]
    unfold se; rw [if_neg q, tC_k (by decide)]; exact h2
theorem sR_2 {h : mx_H} {A i w : Int} : (if sR h A i 38 24 = 0 then w else -15) = if A = i then -15 else w := by
  by_cases q : A = i
  · rw [if_pos q, if_neg]
    unfold sR; rw [mx_u_s, if_pos q]; decide
  · rw [if_neg q, if_pos]
    unfold sR; rw [mx_u_s, if_neg q]
/-- a parting at the end -/
theorem act_2' (v : Inv L x S h n c) (hc : c ≤ 599) {i A w : Int} {bs : List Int} {as : List mx_V} (l : bs.length ≤ 12) {G K : mx_H} (eG : G = se (tC (h0' h) bs) A i) (eK : K = sR (tR (mx_u (mx_u (mx_u G 38 22 0) 38 23 i) 38 24 0) bs) A i)
    (eC : mx_M (d + 12) 137 ((2, 0) :: as) S h n = some (some (0, if G 36 2 = -1 then w else -15), S, G, n))
    (eR : mx_M (d + 12) 243 ((2, 38) :: as) S G n = some (some (0, if K 38 24 = 0 then w else -15), S, K, n)) :
    mx_W (mx_M (d + 12) 137 ((2, 0) :: as) S h n) (fun v S1 h1 n1 => mx_W (mx_M (d + 12) 243 ((2, 38) :: as) S1 h1 n1) (fun v2 S2 h2 n2 => (∃ y, v = some (0, y) ∧ v2 = some (0, y)) ∧ Inv L x S2 h2 n2 (c + 1))) := by
  rw [eK, sR_2] at eR
  rw [eG] at eC eR
  rw [se_2 h0_1 h0_2] at eC
  exact act_2 v hc (a := 0) (t := 0) l eC eR
theorem act_t2 (v : Inv L x S h n c) (hc : c ≤ 599) (q : 0 ≤ a ∧ a ≤ 3) (z : h 33 a = 0 ∧ h 50 a = 1 ∧ h 51 a = h 34 a) (i0 : 0 ≤ h 34 a ∧ h 34 a < h 39 0) : mx_W (mx_M (d + 12) 137 [(2, 0), (0, a), (0, 2), (0, y)] S h n) (fun v S1 h1 n1 => mx_W (mx_M (d + 12) 243 [(2, 38), (0, a), (0, 2), (0, y)] S1 h1 n1) (fun v2 S2 h2 n2 => (∃ y, v = some (0, y) ∧ v2 = some (0, y)) ∧ Inv L x S2 h2 n2 (c + 1))) := by
  have nw := v.nw i0
  have k := nw.k
  have A0 := nw.p
  have hN := v.t.w.N
  have i5 : 0 ≤ h 34 a ∧ h 34 a ≤ 5 := by omega
  have n0 := no_h v i0
  have c1 : h0' h 36 1 = 0 := h0_1
  by_cases k4 : it (h 39) (h 34 a) 0 = 4
  · rw [k4] at n0
    obtain ⟨G, eG, e⟩ := c_s9 (d := d + 9) (n := n) (y := y) n0 (by omega) h0_2 i5 A0
    have ff : ∀ b, ¬ b = 36 → ¬ b = 37 → G b = h b := fun b b0 b1 => by rw [eG, tC_o b0 b1, se_o b0, tC_o b0 b1, h0_o b0]
    have o := np_k v i0 (ff 39 (by decide) (by decide))
    rw [k4] at o
    obtain ⟨K, eK, e2⟩ := c_S4 (d := d + 7) (n := n) (y := y) o (by rw [k_22]; decide) k_24 A0
    have eg : gS (it (h 39) (h 34 a) 0) = 83 := by rw [k4]; rfl
    have e' := Eq.trans (congrArg (fun m => mx_M (d + 11) m [(2, S 7 (h 34 a)), (0, y), (2, 36)] S (h0' h) n) eg) e
    have eC := act_c2 v q z.1 i0.1 i0.2 e'
    have eR := act_r2 o q (by rw [ff 50 (by decide) (by decide)]; exact z.2.1) (by rw [ff 51 (by decide) (by decide)]; exact z.2.2) (by rw [ff 39 (by decide) (by decide)]; exact v.t.w) (by rw [ff 39 (by decide) (by decide)]; exact i0.2) e2
    have w1 : ∀ w : Int, (if G 36 2 = -1 then w else -15) = if it (h 39) (h 34 a) 2 = h 34 a then -15 else w := by
      intro w
      have : G 36 2 = se (tC (h0' h) [61, 12]) (it (h 39) (h 34 a) 2) (h 34 a) 36 2 := by rw [eG, tC_k (by decide)]
      rw [this]; exact se_2 h0_1 h0_2
    have w2 : ∀ w : Int, (if K 38 24 = 0 then (if it (h 39) (h 34 a) 2 = h 34 a then 0 else w) else -15) = if it (h 39) (h 34 a) 2 = h 34 a then -15 else w := by
      intro w
      by_cases u : it (h 39) (h 34 a) 2 = h 34 a
      · have : K 38 24 = 1 := by rw [eK, if_pos u]; unfold sR; rw [mx_u_s, if_pos u]
        rw [if_pos u, if_pos u, if_neg (by rw [this]; decide)]
      · have : K 38 24 = 0 := by rw [eK, if_neg u, tR_k (by decide)]; unfold sR; rw [mx_u_s, if_neg u]
        rw [if_neg u, if_neg u, if_pos this]
    rw [w1] at eC
    rw [w2] at eR
    exact act_3 v hc (a := 0) (t := 0) (bs := [61, 12]) (by decide) eG rfl eK eC eR
  · by_cases k5 : it (h 39) (h 34 a) 0 = 5
    · rw [k5] at n0
      obtain ⟨G, eG, e⟩ := c_s1 (d := d + 9) (n := n) (y := y) n0 (by omega) h0_2 i5 A0
      have ff : ∀ b, ¬ b = 36 → ¬ b = 37 → G b = h b := fun b b0 b1 => by rw [eG, se_o b0, tC_o b0 b1, h0_o b0]
      have o := np_k v i0 (ff 39 (by decide) (by decide))
      rw [k5] at o
      obtain ⟨K, eK, e2⟩ := c_S5 (d := d + 8) (n := n) (y := y) o (by rw [k_22]; decide) k_24 A0
      have eg : gS (it (h 39) (h 34 a) 0) = 10 := by rw [k5]; rfl
      have e' := Eq.trans (congrArg (fun m => mx_M (d + 11) m [(2, S 7 (h 34 a)), (0, y), (2, 36)] S (h0' h) n) eg) e
      have eC := act_c2 v q z.1 i0.1 i0.2 e'
      have eR := act_r2 o q (by rw [ff 50 (by decide) (by decide)]; exact z.2.1) (by rw [ff 51 (by decide) (by decide)]; exact z.2.2) (by rw [ff 39 (by decide) (by decide)]; exact v.t.w) (by rw [ff 39 (by decide) (by decide)]; exact i0.2) e2
      exact act_2' v hc (bs := [50, 12]) (by decide) eG eK eC eR
    · obtain ⟨G, eG, e⟩ := c_s4 (d := d + 10) (n := n) (y := y) n0 k (by omega) h0_2 i5 A0
      have ff : ∀ b, ¬ b = 36 → ¬ b = 37 → G b = h b := fun b b0 b1 => by rw [eG, se_o b0, tC_o b0 b1, h0_o b0]
      have o := np_k v i0 (ff 39 (by decide) (by decide))
      have e2 : ∃ K, K = sR (tR (mx_u (mx_u (mx_u G 38 22 0) 38 23 (h 34 a)) 38 24 0) [12]) (it (h 39) (h 34 a) 2) (h 34 a) ∧ mx_M (d + 11) 241 [(2, 38), (0, it (h 39) (h 34 a) 0), (0, y)] S (mx_u (mx_u (mx_u G 38 22 0) 38 23 (h 34 a)) 38 24 0) n = some (some (0, sx (it (h 39) (h 34 a) 2) (h 34 a) y), S, K, n) := by
        have : it (h 39) (h 34 a) 0 = 0 ∨ it (h 39) (h 34 a) 0 = 1 ∨ it (h 39) (h 34 a) 0 = 2 ∨ it (h 39) (h 34 a) 0 = 3 := by omega
        rcases this with u | u | u | u <;> rw [u] at o ⊢
        · exact c_S0 (d := d + 10) (n := n) (y := y) o (by rw [k_22]; decide) k_24 A0
        · exact c_S1 (d := d + 9) (n := n) (y := y) o (by rw [k_22]; decide) k_24 A0
        · exact c_S2 (d := d + 9) (n := n) (y := y) o (by rw [k_22]; decide) k_24 A0
        · exact c_S3 (d := d + 8) (n := n) (y := y) o (by rw [k_22]; decide) k_24 A0
      obtain ⟨K, eK, e2⟩ := e2
      have eg : gS (it (h 39) (h 34 a) 0) = 50 := by unfold gS; rw [if_neg k4, if_neg k5]
      have e' := Eq.trans (congrArg (fun m => mx_M (d + 11) m [(2, S 7 (h 34 a)), (0, y), (2, 36)] S (h0' h) n) eg) e
      have eC := act_c2 v q z.1 i0.1 i0.2 e'
      have eR := act_r2 o q (by rw [ff 50 (by decide) (by decide)]; exact z.2.1) (by rw [ff 51 (by decide) (by decide)]; exact z.2.2) (by rw [ff 39 (by decide) (by decide)]; exact v.t.w) (by rw [ff 39 (by decide) (by decide)]; exact i0.2) e2
      exact act_2' v hc (bs := [12]) (by decide) eG eK eC eR
theorem act_t3 (v : Inv L x S h n c) (hc : c ≤ 599) (q : 0 ≤ a ∧ a ≤ 3) (z : h 33 a = 0 ∧ h 50 a = 1 ∧ h 51 a = h 34 a) (i0 : 0 ≤ h 34 a ∧ h 34 a < h 39 0) : mx_W (mx_M (d + 12) 137 [(2, 0), (0, a), (0, 3), (0, y)] S h n) (fun v S1 h1 n1 => mx_W (mx_M (d + 12) 243 [(2, 38), (0, a), (0, 3), (0, y)] S1 h1 n1) (fun v2 S2 h2 n2 => (∃ y, v = some (0, y) ∧ v2 = some (0, y)) ∧ Inv L x S2 h2 n2 (c + 1))) := by
  have nw := v.nw i0
  have k := nw.k
  have A0 := nw.p
  have hN := v.t.w.N
  have i5 : 0 ≤ h 34 a ∧ h 34 a ≤ 5 := by omega
  have n0 := no_h v i0
  have c1 : h0' h 36 1 = 0 := h0_1
  by_cases k4 : it (h 39) (h 34 a) 0 = 4
  · rw [k4] at n0
    obtain ⟨G, eG, e⟩ := c_t9 (d := d + 5) (n := n) (y := y) n0 (by omega)
    have ff : ∀ b, ¬ b = 36 → ¬ b = 37 → G b = h b := fun b b0 b1 => by rw [eG, tC_o b0 b1, h0_o b0]
    have o := np_k v i0 (ff 39 (by decide) (by decide))
    rw [k4] at o
    obtain ⟨K, eK, e2⟩ := c_T4 (d := d + 3) (n := n) (y := y) o (by rw [k_22]; decide)
    have eg : gT (it (h 39) (h 34 a) 0) = 82 := by rw [k4]; rfl
    have e' := Eq.trans (congrArg (fun m => mx_M (d + 11) m [(2, S 7 (h 34 a)), (0, y), (2, 36)] S (h0' h) n) eg) e
    have eC := act_c3 v q z.1 i0.1 i0.2 e'
    have eR := act_r3 o q (by rw [ff 50 (by decide) (by decide)]; exact z.2.1) (by rw [ff 51 (by decide) (by decide)]; exact z.2.2) (by rw [ff 39 (by decide) (by decide)]; exact v.t.w) (by rw [ff 39 (by decide) (by decide)]; exact i0.2) e2
    rw [if_pos (by rw [eG, tC_k (by decide), h0_2])] at eC
    rw [if_pos (by rw [eK, tR_k (by decide), k_24])] at eR
    rw [eG] at eC
    rw [eK, eG] at eR
    exact act_1 v hc (a := 0) (t := 0) (by decide) eC eR
  · by_cases k2 : it (h 39) (h 34 a) 0 = 2 ∨ it (h 39) (h 34 a) 0 = 3
    · obtain ⟨G, eG, e⟩ := c_t0 (d := d + 5) (n := n) (y := y) n0 k2 (by omega) h0_2 i5 A0
      have ff : ∀ b, ¬ b = 36 → ¬ b = 37 → G b = h b := fun b b0 b1 => by rw [eG, se_o b0, tC_o b0 b1, h0_o b0]
      have o := np_k v i0 (ff 39 (by decide) (by decide))
      have e2 : ∃ K, K = sR (tR (mx_u (mx_u (mx_u G 38 22 0) 38 23 (h 34 a)) 38 24 0) (31 :: 13 :: wl (it (h 39) (h 34 a) 0) ++ [12])) (it (h 39) (h 34 a) 2) (h 34 a) ∧ mx_M (d + 11) 242 [(2, 38), (0, it (h 39) (h 34 a) 0), (0, y)] S (mx_u (mx_u (mx_u G 38 22 0) 38 23 (h 34 a)) 38 24 0) n = some (some (0, mx_w (mx_xor (wx (it (h 39) (h 34 a) 0) (h 34 a) (it (h 39) (h 34 a) 2) y) (it (h 39) (h 34 a) 2) + sx (it (h 39) (h 34 a) 2) (h 34 a) (h 34 a))), S, K, n) := by
        rcases k2 with u | u <;> rw [u] at o ⊢
        · exact c_T2 (d := d + 3) (n := n) (y := y) o (by decide) (by rw [k_22]; decide) k_24 A0
        · exact c_T3 (d := d + 2) (n := n) (y := y) o (by decide) (by rw [k_22]; decide) k_24 A0
      obtain ⟨K, eK, e2⟩ := e2
      have eg : gT (it (h 39) (h 34 a) 0) = 6 := by unfold gT; rw [if_neg k4, if_pos k2]
      have e' := Eq.trans (congrArg (fun m => mx_M (d + 11) m [(2, S 7 (h 34 a)), (0, y), (2, 36)] S (h0' h) n) eg) e
      have eC := act_c3 v q z.1 i0.1 i0.2 e'
      have eR := act_r3 o q (by rw [ff 50 (by decide) (by decide)]; exact z.2.1) (by rw [ff 51 (by decide) (by decide)]; exact z.2.2) (by rw [ff 39 (by decide) (by decide)]; exact v.t.w) (by rw [ff 39 (by decide) (by decide)]; exact i0.2) e2
      refine act_2' v hc (bs := 31 :: 13 :: wl (it (h 39) (h 34 a) 0) ++ [12]) ?_ eG eK eC eR
      have := ll_w k
      simp only [List.cons_append, List.length_cons, List.length_append, List.length_nil]; omega
    · obtain ⟨G, eG, e⟩ := c_t4 (d := d + 6) (n := n) (y := y) n0 k (by omega)
      have ff : ∀ b, ¬ b = 36 → ¬ b = 37 → G b = h b := fun b b0 b1 => by rw [eG, tC_o b0 b1, h0_o b0]
      have o := np_k v i0 (ff 39 (by decide) (by decide))
      have e2 : ∃ K, K = tR (mx_u (mx_u (mx_u G 38 22 0) 38 23 (h 34 a)) 38 24 0) (13 :: wl (it (h 39) (h 34 a) 0)) ∧ mx_M (d + 11) 242 [(2, 38), (0, it (h 39) (h 34 a) 0), (0, y)] S (mx_u (mx_u (mx_u G 38 22 0) 38 23 (h 34 a)) 38 24 0) n = some (some (0, mx_xor (wx (it (h 39) (h 34 a) 0) (h 34 a) (it (h 39) (h 34 a) 2) y) (it (h 39) (h 34 a) 2)), S, K, n) := by
        have : it (h 39) (h 34 a) 0 = 0 ∨ it (h 39) (h 34 a) 0 = 1 ∨ it (h 39) (h 34 a) 0 = 5 := by omega
        rcases this with u | u | u <;> rw [u] at o ⊢
        · exact c_T0 (d := d + 4) (n := n) (y := y) o (by decide) (by rw [k_22]; decide)
        · exact c_T1 (d := d + 3) (n := n) (y := y) o (by decide) (by rw [k_22]; decide)
        · exact c_T5 (d := d + 2) (n := n) (y := y) o (by decide) (by rw [k_22]; decide)
      obtain ⟨K, eK, e2⟩ := e2
      have eg : gT (it (h 39) (h 34 a) 0) = 51 := by unfold gT; rw [if_neg k4, if_neg k2]
      have e' := Eq.trans (congrArg (fun m => mx_M (d + 11) m [(2, S 7 (h 34 a)), (0, y), (2, 36)] S (h0' h) n) eg) e
      have eC := act_c3 v q z.1 i0.1 i0.2 e'
      have eR := act_r3 o q (by rw [ff 50 (by decide) (by decide)]; exact z.2.1) (by rw [ff 51 (by decide) (by decide)]; exact z.2.2) (by rw [ff 39 (by decide) (by decide)]; exact v.t.w) (by rw [ff 39 (by decide) (by decide)]; exact i0.2) e2
      rw [if_pos (by rw [eG, tC_k (by decide), h0_2])] at eC
      rw [if_pos (by rw [eK, tR_k (by decide), k_24])] at eR
      rw [eG] at eC
      rw [eK, eG] at eR
      refine act_1 v hc (a := 0) (t := 0) ?_ eC eR
      have := ll_w k
      simp only [List.length_cons]; omega
end
theorem a_act {a t y : Int} (hc : c ≤ 599) : ag L x 137 243 [(0, a), (0, t), (0, y)] 0 c := by
  intro d S h n v
  have hX := v.s.x.e
  have hF := v.s.f.e
  have hM := v.s.m
  have inv := v.a0 hc
  unfold h0' at inv
  by_cases q : 0 ≤ a ∧ a ≤ 3
  · have no := c_noteO (d := d + 9) v q
    have ie := c_isEmpty (d := d + 9) (n := n) (h := mx_u (mx_u (mx_u h 36 1 0) 36 2 (-1)) 38 22 0) hM (by rw [mx_u_a (by decide), mx_u_a (by decide), mx_u_a (by decide)]; exact v.t.w) q
    simp (disch := omega) only [mx_u_a] at ie
    by_cases t0 : 0 ≤ t ∧ t ≤ 3
    · rcases v.l.s a q.1 q.2 with ⟨z0, z1, z2, z3, z4⟩ | ⟨z0, z1, z2⟩ | ⟨z0, z1, r⟩
      · by_cases i0 : h 34 a < h 39 0
        · have : t = 0 ∨ t = 1 ∨ t = 2 ∨ t = 3 := by omega
          rcases this with u | u | u | u <;> subst u
          · exact act_t0 v hc q ⟨z0, z1, z2⟩ ⟨z4.1, i0⟩
          · exact act_t1 v hc q ⟨z0, z1, z2⟩ ⟨z4.1, i0⟩
          · exact act_t2 v hc q ⟨z0, z1, z2⟩ ⟨z4.1, i0⟩
          · exact act_t3 v hc q ⟨z0, z1, z2⟩ ⟨z4.1, i0⟩
        · rw [if_neg (fun u => i0 u.2)] at no
          rw [mx_b_t (Or.inr ⟨z1, by rw [z2]; omega⟩)] at ie
          simp (disch := omega) only [mx_vt_h, mx_vt_m, mx_cmp_0, mx_cmp_1, mx_cmp_2, mx_cmp_3, mx_cmp_4, mx_u_s, mx_u_a, mx_u_k, mx_z_a, mx_z_s, mx_t_a, mx_t_2, mx_t_1, mx_t_0, mx_gd_T, mx_gd_t, mx_br_T, mx_br_F, mx_br_t, mx_br_f, mx_br_n, mx_cl_T, mx_cl_t, mx_re_T, mx_re_t, mx_rt_v, mx_rt_0, mx_cu_t, mx_w_id, mx_l_id, mx_b_0, mx_b_1, mx_b_r, mx_nl_0, mx_nl_1, mx_nl_2, mx_nl_n, mx_nl_l, mx_sw_n, mx_sw_h, mx_sw_m, Int.reduceLE, Int.reduceLT, Int.reduceEq, Int.reduceAdd, Int.reduceSub, Int.reduceMul, Int.reduceNeg, Int.reduceToNat, and_self, true_and, and_true, false_and, and_false, true_or, or_true, false_or, or_false, not_true_eq_false, not_false_eq_true, eq_self, rw_X11_act, rw_X8_clear, hX, c_xSf, mx_b_t q, no]
          refine mx_W_s ?_
          simp (disch := omega) only [mx_vt_h, mx_vt_m, mx_cmp_0, mx_cmp_1, mx_cmp_2, mx_cmp_3, mx_cmp_4, mx_u_s, mx_u_a, mx_u_k, mx_z_a, mx_z_s, mx_t_a, mx_t_2, mx_t_1, mx_t_0, mx_gd_T, mx_gd_t, mx_br_T, mx_br_F, mx_br_t, mx_br_f, mx_br_n, mx_cl_T, mx_cl_t, mx_re_T, mx_re_t, mx_rt_v, mx_rt_0, mx_cu_t, mx_w_id, mx_l_id, mx_b_0, mx_b_1, mx_b_r, mx_nl_0, mx_nl_1, mx_nl_2, mx_nl_n, mx_nl_l, mx_sw_n, mx_sw_h, mx_sw_m, Int.reduceLE, Int.reduceLT, Int.reduceEq, Int.reduceAdd, Int.reduceSub, Int.reduceMul, Int.reduceNeg, Int.reduceToNat, and_self, true_and, and_true, false_and, and_false, true_or, or_true, false_or, or_false, not_true_eq_false, not_false_eq_true, eq_self, rw_X12_act, rw_X12_act_1, hM.e, c_mSf, mx_b_t q, c_in, mx_b_t t0, ie]
          exact mx_W_s ⟨⟨_, rfl, rfl⟩, inv⟩
      · rw [if_neg (fun u => z0 u.1)] at no
        rw [mx_b_t (Or.inl z1)] at ie
        simp (disch := omega) only [mx_vt_h, mx_vt_m, mx_cmp_0, mx_cmp_1, mx_cmp_2, mx_cmp_3, mx_cmp_4, mx_u_s, mx_u_a, mx_u_k, mx_z_a, mx_z_s, mx_t_a, mx_t_2, mx_t_1, mx_t_0, mx_gd_T, mx_gd_t, mx_br_T, mx_br_F, mx_br_t, mx_br_f, mx_br_n, mx_cl_T, mx_cl_t, mx_re_T, mx_re_t, mx_rt_v, mx_rt_0, mx_cu_t, mx_w_id, mx_l_id, mx_b_0, mx_b_1, mx_b_r, mx_nl_0, mx_nl_1, mx_nl_2, mx_nl_n, mx_nl_l, mx_sw_n, mx_sw_h, mx_sw_m, Int.reduceLE, Int.reduceLT, Int.reduceEq, Int.reduceAdd, Int.reduceSub, Int.reduceMul, Int.reduceNeg, Int.reduceToNat, and_self, true_and, and_true, false_and, and_false, true_or, or_true, false_or, or_false, not_true_eq_false, not_false_eq_true, eq_self, rw_X11_act, rw_X8_clear, hX, c_xSf, mx_b_t q, no]
        refine mx_W_s ?_
        simp (disch := omega) only [mx_vt_h, mx_vt_m, mx_cmp_0, mx_cmp_1, mx_cmp_2, mx_cmp_3, mx_cmp_4, mx_u_s, mx_u_a, mx_u_k, mx_z_a, mx_z_s, mx_t_a, mx_t_2, mx_t_1, mx_t_0, mx_gd_T, mx_gd_t, mx_br_T, mx_br_F, mx_br_t, mx_br_f, mx_br_n, mx_cl_T, mx_cl_t, mx_re_T, mx_re_t, mx_rt_v, mx_rt_0, mx_cu_t, mx_w_id, mx_l_id, mx_b_0, mx_b_1, mx_b_r, mx_nl_0, mx_nl_1, mx_nl_2, mx_nl_n, mx_nl_l, mx_sw_n, mx_sw_h, mx_sw_m, Int.reduceLE, Int.reduceLT, Int.reduceEq, Int.reduceAdd, Int.reduceSub, Int.reduceMul, Int.reduceNeg, Int.reduceToNat, and_self, true_and, and_true, false_and, and_false, true_or, or_true, false_or, or_false, not_true_eq_false, not_false_eq_true, eq_self, rw_X12_act, rw_X12_act_1, hM.e, c_mSf, mx_b_t q, c_in, mx_b_t t0, ie]
        exact mx_W_s ⟨⟨_, rfl, rfl⟩, inv⟩
      · rw [if_neg (fun u => z0 u.1)] at no
        rw [mx_b_f (by omega)] at ie
        simp (disch := omega) only [mx_vt_h, mx_vt_m, mx_cmp_0, mx_cmp_1, mx_cmp_2, mx_cmp_3, mx_cmp_4, mx_u_s, mx_u_a, mx_u_k, mx_z_a, mx_z_s, mx_t_a, mx_t_2, mx_t_1, mx_t_0, mx_gd_T, mx_gd_t, mx_br_T, mx_br_F, mx_br_t, mx_br_f, mx_br_n, mx_cl_T, mx_cl_t, mx_re_T, mx_re_t, mx_rt_v, mx_rt_0, mx_cu_t, mx_w_id, mx_l_id, mx_b_0, mx_b_1, mx_b_r, mx_nl_0, mx_nl_1, mx_nl_2, mx_nl_n, mx_nl_l, mx_sw_n, mx_sw_h, mx_sw_m, Int.reduceLE, Int.reduceLT, Int.reduceEq, Int.reduceAdd, Int.reduceSub, Int.reduceMul, Int.reduceNeg, Int.reduceToNat, and_self, true_and, and_true, false_and, and_false, true_or, or_true, false_or, or_false, not_true_eq_false, not_false_eq_true, eq_self, rw_X11_act, rw_X8_clear, hX, c_xSf, mx_b_t q, no]
        refine mx_W_s ?_
        simp (disch := omega) only [mx_vt_h, mx_vt_m, mx_cmp_0, mx_cmp_1, mx_cmp_2, mx_cmp_3, mx_cmp_4, mx_u_s, mx_u_a, mx_u_k, mx_z_a, mx_z_s, mx_t_a, mx_t_2, mx_t_1, mx_t_0, mx_gd_T, mx_gd_t, mx_br_T, mx_br_F, mx_br_t, mx_br_f, mx_br_n, mx_cl_T, mx_cl_t, mx_re_T, mx_re_t, mx_rt_v, mx_rt_0, mx_cu_t, mx_w_id, mx_l_id, mx_b_0, mx_b_1, mx_b_r, mx_nl_0, mx_nl_1, mx_nl_2, mx_nl_n, mx_nl_l, mx_sw_n, mx_sw_h, mx_sw_m, Int.reduceLE, Int.reduceLT, Int.reduceEq, Int.reduceAdd, Int.reduceSub, Int.reduceMul, Int.reduceNeg, Int.reduceToNat, and_self, true_and, and_true, false_and, and_false, true_or, or_true, false_or, or_false, not_true_eq_false, not_false_eq_true, eq_self, rw_X12_act, rw_X12_act_1, hM.e, c_mSf, mx_b_t q, c_in, mx_b_t t0, ie]
        exact mx_W_s ⟨⟨_, rfl, rfl⟩, inv⟩
    · by_cases z : h 33 a = 0 ∧ h 34 a < h 39 0
      · have z4 : 0 ≤ h 34 a := by
          rcases v.l.s a q.1 q.2 with y | y | y
          · exact y.2.2.2.2.1
          · exact absurd z.1 y.1
          · exact absurd z.1 y.1
        have p0 := (v.nr ⟨z4, z.2⟩).p0
        rw [if_pos z] at no
        simp (disch := omega) only [mx_vt_h, mx_vt_m, mx_cmp_0, mx_cmp_1, mx_cmp_2, mx_cmp_3, mx_cmp_4, mx_u_s, mx_u_a, mx_u_k, mx_z_a, mx_z_s, mx_t_a, mx_t_2, mx_t_1, mx_t_0, mx_gd_T, mx_gd_t, mx_br_T, mx_br_F, mx_br_t, mx_br_f, mx_br_n, mx_cl_T, mx_cl_t, mx_re_T, mx_re_t, mx_rt_v, mx_rt_0, mx_cu_t, mx_w_id, mx_l_id, mx_b_0, mx_b_1, mx_b_r, mx_nl_0, mx_nl_1, mx_nl_2, mx_nl_n, mx_nl_l, mx_sw_n, mx_sw_h, mx_sw_m, Int.reduceLE, Int.reduceLT, Int.reduceEq, Int.reduceAdd, Int.reduceSub, Int.reduceMul, Int.reduceNeg, Int.reduceToNat, and_self, true_and, and_true, false_and, and_false, true_or, or_true, false_or, or_false, not_true_eq_false, not_false_eq_true, eq_self, rw_X11_act, rw_X8_clear, hX, c_xSf, mx_b_t q, no, c_within, mx_b_f t0]
        refine mx_W_s ?_
        simp (disch := omega) only [mx_vt_h, mx_vt_m, mx_cmp_0, mx_cmp_1, mx_cmp_2, mx_cmp_3, mx_cmp_4, mx_u_s, mx_u_a, mx_u_k, mx_z_a, mx_z_s, mx_t_a, mx_t_2, mx_t_1, mx_t_0, mx_gd_T, mx_gd_t, mx_br_T, mx_br_F, mx_br_t, mx_br_f, mx_br_n, mx_cl_T, mx_cl_t, mx_re_T, mx_re_t, mx_rt_v, mx_rt_0, mx_cu_t, mx_w_id, mx_l_id, mx_b_0, mx_b_1, mx_b_r, mx_nl_0, mx_nl_1, mx_nl_2, mx_nl_n, mx_nl_l, mx_sw_n, mx_sw_h, mx_sw_m, Int.reduceLE, Int.reduceLT, Int.reduceEq, Int.reduceAdd, Int.reduceSub, Int.reduceMul, Int.reduceNeg, Int.reduceToNat, and_self, true_and, and_true, false_and, and_false, true_or, or_true, false_or, or_false, not_true_eq_false, not_false_eq_true, eq_self, rw_X12_act, rw_X12_act_1, hM.e, c_mSf, mx_b_t q, c_in, mx_b_f t0]
        exact mx_W_s ⟨⟨_, rfl, rfl⟩, inv⟩
      · rw [if_neg z] at no
        simp (disch := omega) only [mx_vt_h, mx_vt_m, mx_cmp_0, mx_cmp_1, mx_cmp_2, mx_cmp_3, mx_cmp_4, mx_u_s, mx_u_a, mx_u_k, mx_z_a, mx_z_s, mx_t_a, mx_t_2, mx_t_1, mx_t_0, mx_gd_T, mx_gd_t, mx_br_T, mx_br_F, mx_br_t, mx_br_f, mx_br_n, mx_cl_T, mx_cl_t, mx_re_T, mx_re_t, mx_rt_v, mx_rt_0, mx_cu_t, mx_w_id, mx_l_id, mx_b_0, mx_b_1, mx_b_r, mx_nl_0, mx_nl_1, mx_nl_2, mx_nl_n, mx_nl_l, mx_sw_n, mx_sw_h, mx_sw_m, Int.reduceLE, Int.reduceLT, Int.reduceEq, Int.reduceAdd, Int.reduceSub, Int.reduceMul, Int.reduceNeg, Int.reduceToNat, and_self, true_and, and_true, false_and, and_false, true_or, or_true, false_or, or_false, not_true_eq_false, not_false_eq_true, eq_self, rw_X11_act, rw_X8_clear, hX, c_xSf, mx_b_t q, no]
        refine mx_W_s ?_
        simp (disch := omega) only [mx_vt_h, mx_vt_m, mx_cmp_0, mx_cmp_1, mx_cmp_2, mx_cmp_3, mx_cmp_4, mx_u_s, mx_u_a, mx_u_k, mx_z_a, mx_z_s, mx_t_a, mx_t_2, mx_t_1, mx_t_0, mx_gd_T, mx_gd_t, mx_br_T, mx_br_F, mx_br_t, mx_br_f, mx_br_n, mx_cl_T, mx_cl_t, mx_re_T, mx_re_t, mx_rt_v, mx_rt_0, mx_cu_t, mx_w_id, mx_l_id, mx_b_0, mx_b_1, mx_b_r, mx_nl_0, mx_nl_1, mx_nl_2, mx_nl_n, mx_nl_l, mx_sw_n, mx_sw_h, mx_sw_m, Int.reduceLE, Int.reduceLT, Int.reduceEq, Int.reduceAdd, Int.reduceSub, Int.reduceMul, Int.reduceNeg, Int.reduceToNat, and_self, true_and, and_true, false_and, and_false, true_or, or_true, false_or, or_false, not_true_eq_false, not_false_eq_true, eq_self, rw_X12_act, rw_X12_act_1, hM.e, c_mSf, mx_b_t q, c_in, mx_b_f t0]
        exact mx_W_s ⟨⟨_, rfl, rfl⟩, inv⟩
  · simp (disch := omega) only [mx_vt_h, mx_vt_m, mx_cmp_0, mx_cmp_1, mx_cmp_2, mx_cmp_3, mx_cmp_4, mx_u_s, mx_u_a, mx_u_k, mx_z_a, mx_z_s, mx_t_a, mx_t_2, mx_t_1, mx_t_0, mx_gd_T, mx_gd_t, mx_br_T, mx_br_F, mx_br_t, mx_br_f, mx_br_n, mx_cl_T, mx_cl_t, mx_re_T, mx_re_t, mx_rt_v, mx_rt_0, mx_cu_t, mx_w_id, mx_l_id, mx_b_0, mx_b_1, mx_b_r, mx_nl_0, mx_nl_1, mx_nl_2, mx_nl_n, mx_nl_l, mx_sw_n, mx_sw_h, mx_sw_m, Int.reduceLE, Int.reduceLT, Int.reduceEq, Int.reduceAdd, Int.reduceSub, Int.reduceMul, Int.reduceNeg, Int.reduceToNat, and_self, true_and, and_true, false_and, and_false, true_or, or_true, false_or, or_false, not_true_eq_false, not_false_eq_true, eq_self, rw_X11_act, rw_X8_clear, hX, c_xSf, mx_b_f q]
    refine mx_W_s ?_
    simp (disch := omega) only [mx_vt_h, mx_vt_m, mx_cmp_0, mx_cmp_1, mx_cmp_2, mx_cmp_3, mx_cmp_4, mx_u_s, mx_u_a, mx_u_k, mx_z_a, mx_z_s, mx_t_a, mx_t_2, mx_t_1, mx_t_0, mx_gd_T, mx_gd_t, mx_br_T, mx_br_F, mx_br_t, mx_br_f, mx_br_n, mx_cl_T, mx_cl_t, mx_re_T, mx_re_t, mx_rt_v, mx_rt_0, mx_cu_t, mx_w_id, mx_l_id, mx_b_0, mx_b_1, mx_b_r, mx_nl_0, mx_nl_1, mx_nl_2, mx_nl_n, mx_nl_l, mx_sw_n, mx_sw_h, mx_sw_m, Int.reduceLE, Int.reduceLT, Int.reduceEq, Int.reduceAdd, Int.reduceSub, Int.reduceMul, Int.reduceNeg, Int.reduceToNat, and_self, true_and, and_true, false_and, and_false, true_or, or_true, false_or, or_false, not_true_eq_false, not_false_eq_true, eq_self, rw_X12_act, rw_X12_act_1, hM.e, c_mSf, mx_b_f q]
    exact mx_W_s ⟨⟨_, rfl, rfl⟩, inv⟩
end
