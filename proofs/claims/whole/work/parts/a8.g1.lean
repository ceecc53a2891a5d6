/-! feed -/
theorem and255 (y : Int) : mx_and y 255 = y % 256 := by
  unfold mx_and Int32.toInt
  rw [Int32.toBitVec_and]
  show (BitVec.ofInt 32 y &&& BitVec.ofInt 32 255).toInt = _
  have e : (BitVec.ofInt 32 y &&& BitVec.ofInt 32 255).toNat = (y % 4294967296).toNat % 256 := by
    rw [BitVec.toNat_and, BitVec.toNat_ofInt]
    have p : ((2 ^ 32 : Nat) : Int) = 4294967296 := rfl
    have q : (BitVec.ofInt 32 255).toNat = 2 ^ 8 - 1 := rfl
    rw [p, q, Nat.and_two_pow_sub_one_eq_mod]
  rw [BitVec.toInt_eq_toNat_of_lt (by rw [e]; omega), e]
  omega
theorem land255 (y : Int) : ml_and y 255 = y % 256 := by
  unfold ml_and Int64.toInt
  rw [Int64.toBitVec_and]
  show (BitVec.ofInt 64 y &&& BitVec.ofInt 64 255).toInt = _
  have e : (BitVec.ofInt 64 y &&& BitVec.ofInt 64 255).toNat = (y % 18446744073709551616).toNat % 256 := by
    rw [BitVec.toNat_and, BitVec.toNat_ofInt]
    have p : ((2 ^ 64 : Nat) : Int) = 18446744073709551616 := rfl
    have q : (BitVec.ofInt 64 255).toNat = 2 ^ 8 - 1 := rfl
    rw [p, q, Nat.and_two_pow_sub_one_eq_mod]
  rw [BitVec.toInt_eq_toNat_of_lt (by rw [e]; omega), e]
  omega
theorem w256 (y : Int) : mx_w y % 256 = y % 256 := by
  unfold mx_w; simp only [Int.bmod]; split <;> omega
theorem ml_ush_v (E : Int) (k : Fin 8) : ml_ush E (8 * k.val) = (BitVec.ofInt 64 E >>> (8 * k.val)).toInt := by
  have key : ∀ k : Fin 8, (((Int32.ofInt (8 * k.val)).toInt64.toUInt64 &&& Int64.toUInt64 63).toBitVec % 64).toNat = 8 * k.val := by decide
  show (((Int64.ofInt E).toUInt64 >>> ((Int32.ofInt (8 * k.val)).toInt64.toUInt64 &&& Int64.toUInt64 63)).toBitVec).toInt = _
  rw [UInt64.toBitVec_shiftRight, BitVec.ushiftRight_eq', key k]; rfl
theorem ml_shr_v (E : Int) (k : Fin 8) : ml_shr E (8 * k.val) = ((BitVec.ofInt 64 E).sshiftRight (8 * k.val)).toInt := by
  have key : ∀ k : Fin 8, (((Int32.ofInt (8 * k.val)).toInt64 &&& 63).toBitVec.smod 64).toNat = 8 * k.val := by decide
  unfold ml_shr Int64.toInt
  rw [Int64.toBitVec_shiftRight, BitVec.sshiftRight_eq', key k]; rfl
theorem t256 (v : BitVec 64) : v.toInt % 256 = (v.toNat : Int) % 256 := by
  rw [BitVec.toInt_eq_toNat_bmod]
  have p : (2 : Nat) ^ 64 = 18446744073709551616 := rfl
  rw [p]; simp only [Int.bmod]; split <;> omega
/-- a byte out of eight -/
def fby (E i : Int) : Int := mx_and (mx_w (ml_ush E (8 * i))) 255
theorem fby_r (E i : Int) : 0 ≤ fby E i ∧ fby E i ≤ 255 := by
  unfold fby; rw [and255]; omega
theorem fby_e (E : Int) {i : Int} (i0 : 0 ≤ i) (i1 : i ≤ 7) : mx_w (ml_and (ml_shr E (8 * i)) 255) = fby E i := by
  unfold fby
  rw [and255, land255, w256]
  obtain ⟨k, hk⟩ : ∃ k : Fin 8, i = (k.val : Int) := ⟨⟨i.toNat, by omega⟩, by simp only; omega⟩
  subst hk
  rw [ml_ush_v, ml_shr_v, t256 (BitVec.ofInt 64 E >>> (8 * k.val)), BitVec.toNat_ushiftRight, BitVec.toInt_sshiftRight, Int.shiftRight_eq_div_pow, Nat.shiftRight_eq_div_pow, BitVec.toInt_eq_toNat_bmod, mx_w_id (by omega) (by omega)]
  generalize (BitVec.ofInt 64 E).toNat = u
  have p : (2 : Nat) ^ 64 = 18446744073709551616 := rfl
  rw [p]
  have : k.val = 0 ∨ k.val = 1 ∨ k.val = 2 ∨ k.val = 3 ∨ k.val = 4 ∨ k.val = 5 ∨ k.val = 6 ∨ k.val = 7 := by omega
  rcases this with z | z | z | z | z | z | z | z <;> rw [z] <;> simp only [Int.bmod] <;> split <;> omega
section
variable {L : Nat} {x : Nat → Int32} {S T h g : mx_H} {n m c : Int} {d : Nat}
theorem c_feed_l (s : shp S L) {E z i : Int} {l2 : Option mx_V} (z0 : 1 ≤ z ∧ z ≤ 8) (t0 : 0 ≤ h 0 1 ∧ h 0 1 + z ≤ 200) (i0 : 0 ≤ i ∧ i ≤ z) :
    mx_ex d 99 30 [some (2, 0), some (1, E), l2, some (0, z), some (0, i)] [] S (fo h 1 (h 0 1) (fby E) i) n = some (some (0, h 0 1 + z), S, mx_u (fo h 1 (h 0 1) (fby E) z) 0 1 (h 0 1 + z), n) := by
  have hX := s.x.e
  have e0 : fo h 1 (h 0 1) (fby E) i 0 1 = h 0 1 := by rw [fo_o (by decide)]
  rw [rh_X11_feed_30]
  by_cases q : i < z
  · have ih := fun l2 => c_feed_l s (E := E) (i := i + 1) (l2 := l2) z0 t0 (by omega)
    rw [← fo_s i0.1] at ih
    unfold fby at ih e0 ⊢
    simp (disch := omega) only [mx_vt_h, mx_vt_m, mx_cmp_0, mx_cmp_1, mx_cmp_2, mx_cmp_3, mx_cmp_4, mx_u_s, mx_u_a, mx_u_k, mx_z_a, mx_z_s, mx_t_a, mx_t_2, mx_t_1, mx_t_0, mx_gd_T, mx_gd_t, mx_br_T, mx_br_F, mx_br_t, mx_br_f, mx_br_n, mx_cl_T, mx_cl_t, mx_re_T, mx_re_t, mx_rt_v, mx_rt_0, mx_cu_t, mx_w_id, mx_l_id, mx_b_0, mx_b_1, mx_b_r, mx_nl_0, mx_nl_1, mx_nl_2, mx_nl_n, mx_nl_l, mx_sw_n, mx_sw_h, mx_sw_m, Int.reduceLE, Int.reduceLT, Int.reduceEq, Int.reduceAdd, Int.reduceSub, Int.reduceMul, Int.reduceNeg, Int.reduceToNat, and_self, true_and, and_true, false_and, and_false, true_or, or_true, false_or, or_false, not_true_eq_false, not_false_eq_true, eq_self, rw_X11_feed, hX, e0]
    exact ih _
  · have ei : i = z := by omega
    subst ei
    simp (disch := omega) only [mx_vt_h, mx_vt_m, mx_cmp_0, mx_cmp_1, mx_cmp_2, mx_cmp_3, mx_cmp_4, mx_u_s, mx_u_a, mx_u_k, mx_z_a, mx_z_s, mx_t_a, mx_t_2, mx_t_1, mx_t_0, mx_gd_T, mx_gd_t, mx_br_T, mx_br_F, mx_br_t, mx_br_f, mx_br_n, mx_cl_T, mx_cl_t, mx_re_T, mx_re_t, mx_rt_v, mx_rt_0, mx_cu_t, mx_w_id, mx_l_id, mx_b_0, mx_b_1, mx_b_r, mx_nl_0, mx_nl_1, mx_nl_2, mx_nl_n, mx_nl_l, mx_sw_n, mx_sw_h, mx_sw_m, Int.reduceLE, Int.reduceLT, Int.reduceEq, Int.reduceAdd, Int.reduceSub, Int.reduceMul, Int.reduceNeg, Int.reduceToNat, and_self, true_and, and_true, false_and, and_false, true_or, or_true, false_or, or_false, not_true_eq_false, not_false_eq_true, eq_self, rw_X11_feed, hX, e0]
termination_by (z - i).toNat
decreasing_by omega
theorem c_feM_l (hM : sh_M S) {E z i t : Int} {l2 : Option mx_V} (z0 : 1 ≤ z ∧ z ≤ 8) (t0 : 0 ≤ t ∧ t + z ≤ 200) (i0 : 0 ≤ i ∧ i ≤ z) :
    mx_ex d 163 30 [some (2, 38), some (1, E), l2, some (0, z), some (0, i)] [] S (mx_u (fo h 42 t (fby E) i) 38 5 (t + i)) n = some (some (0, t + z), S, mx_u (fo h 42 t (fby E) z) 38 5 (t + z), n) := by
  have hM1 := hM.e
  rw [rh_X12_feed_30]
  by_cases q : i < z
  · have ih := fun l2 => c_feM_l hM (E := E) (i := i + 1) (t := t) (l2 := l2) z0 t0 (by omega)
    rw [← fo_s i0.1] at ih
    have sw : mx_u (mx_u (mx_u (fo h 42 t (fby E) i) 38 5 (t + i)) 42 (t + i) (fby E i)) 38 5 (t + i + 1) = mx_u (mx_u (fo h 42 t (fby E) i) 42 (t + i) (fby E i)) 38 5 (t + (i + 1)) := by
      funext b j; unfold mx_u
      by_cases p : b = 38 ∧ j = 5
      · rw [if_pos p, if_pos p]; omega
      · rw [if_neg p, if_neg p]
        by_cases p2 : b = 42 ∧ j = t + i
        · rw [if_pos p2, if_neg p]
        · rw [if_neg p2, if_neg p]
    rw [← sw] at ih
    have fe := fby_e E i0.1 (show i ≤ 7 by omega)
    simp (disch := omega) only [mx_vt_h, mx_vt_m, mx_cmp_0, mx_cmp_1, mx_cmp_2, mx_cmp_3, mx_cmp_4, mx_u_s, mx_u_a, mx_u_k, mx_z_a, mx_z_s, mx_t_a, mx_t_2, mx_t_1, mx_t_0, mx_gd_T, mx_gd_t, mx_br_T, mx_br_F, mx_br_t, mx_br_f, mx_br_n, mx_cl_T, mx_cl_t, mx_re_T, mx_re_t, mx_rt_v, mx_rt_0, mx_cu_t, mx_w_id, mx_l_id, mx_b_0, mx_b_1, mx_b_r, mx_nl_0, mx_nl_1, mx_nl_2, mx_nl_n, mx_nl_l, mx_sw_n, mx_sw_h, mx_sw_m, Int.reduceLE, Int.reduceLT, Int.reduceEq, Int.reduceAdd, Int.reduceSub, Int.reduceMul, Int.reduceNeg, Int.reduceToNat, and_self, true_and, and_true, false_and, and_false, true_or, or_true, false_or, or_false, not_true_eq_false, not_false_eq_true, eq_self, rw_X12_feed, hM1, fe]
    exact ih _
  · have ei : i = z := by omega
    subst ei
    simp (disch := omega) only [mx_vt_h, mx_vt_m, mx_cmp_0, mx_cmp_1, mx_cmp_2, mx_cmp_3, mx_cmp_4, mx_u_s, mx_u_a, mx_u_k, mx_z_a, mx_z_s, mx_t_a, mx_t_2, mx_t_1, mx_t_0, mx_gd_T, mx_gd_t, mx_br_T, mx_br_F, mx_br_t, mx_br_f, mx_br_n, mx_cl_T, mx_cl_t, mx_re_T, mx_re_t, mx_rt_v, mx_rt_0, mx_cu_t, mx_w_id, mx_l_id, mx_b_0, mx_b_1, mx_b_r, mx_nl_0, mx_nl_1, mx_nl_2, mx_nl_n, mx_nl_l, mx_sw_n, mx_sw_h, mx_sw_m, Int.reduceLE, Int.reduceLT, Int.reduceEq, Int.reduceAdd, Int.reduceSub, Int.reduceMul, Int.reduceNeg, Int.reduceToNat, and_self, true_and, and_true, false_and, and_false, true_or, or_true, false_or, or_false, not_true_eq_false, not_false_eq_true, eq_self, rw_X12_feed, hM1]
termination_by (z - i).toNat
decreasing_by omega
theorem a_feed {E z : Int} (hc : c ≤ 599) : ag L x 99 163 [(1, E), (0, z)] 0 c := by
  intro d S h n v
  have hX := v.s.x.e
  have hM := v.s.m
  have tc := v.p.c
  have tr := v.p.r
  by_cases z0 : 1 ≤ z ∧ z ≤ 8
  · by_cases f0 : 200 < h 38 5 + z
    · refine ag_p v hc (y := -2) ?_ ?_
      · simp (disch := omega) only [mx_vt_h, mx_vt_m, mx_cmp_0, mx_cmp_1, mx_cmp_2, mx_cmp_3, mx_cmp_4, mx_u_s, mx_u_a, mx_u_k, mx_z_a, mx_z_s, mx_t_a, mx_t_2, mx_t_1, mx_t_0, mx_gd_T, mx_gd_t, mx_br_T, mx_br_F, mx_br_t, mx_br_f, mx_br_n, mx_cl_T, mx_cl_t, mx_re_T, mx_re_t, mx_rt_v, mx_rt_0, mx_cu_t, mx_w_id, mx_l_id, mx_b_0, mx_b_1, mx_b_r, mx_nl_0, mx_nl_1, mx_nl_2, mx_nl_n, mx_nl_l, mx_sw_n, mx_sw_h, mx_sw_m, Int.reduceLE, Int.reduceLT, Int.reduceEq, Int.reduceAdd, Int.reduceSub, Int.reduceMul, Int.reduceNeg, Int.reduceToNat, and_self, true_and, and_true, false_and, and_false, true_or, or_true, false_or, or_false, not_true_eq_false, not_false_eq_true, eq_self, rw_X11_feed, hX, c_within, mx_b_t z0, tc]
      · simp (disch := omega) only [mx_vt_h, mx_vt_m, mx_cmp_0, mx_cmp_1, mx_cmp_2, mx_cmp_3, mx_cmp_4, mx_u_s, mx_u_a, mx_u_k, mx_z_a, mx_z_s, mx_t_a, mx_t_2, mx_t_1, mx_t_0, mx_gd_T, mx_gd_t, mx_br_T, mx_br_F, mx_br_t, mx_br_f, mx_br_n, mx_cl_T, mx_cl_t, mx_re_T, mx_re_t, mx_rt_v, mx_rt_0, mx_cu_t, mx_w_id, mx_l_id, mx_b_0, mx_b_1, mx_b_r, mx_nl_0, mx_nl_1, mx_nl_2, mx_nl_n, mx_nl_l, mx_sw_n, mx_sw_h, mx_sw_m, Int.reduceLE, Int.reduceLT, Int.reduceEq, Int.reduceAdd, Int.reduceSub, Int.reduceMul, Int.reduceNeg, Int.reduceToNat, and_self, true_and, and_true, false_and, and_false, true_or, or_true, false_or, or_false, not_true_eq_false, not_false_eq_true, eq_self, rw_X12_feed, hM.e, c_in, mx_b_t z0]
    · have ih := fun l2 => c_feed_l (d := d + 12) (n := n) (h := h) (E := E) (z := z) (i := 0) (l2 := l2) v.s z0 (by omega) (by omega)
      rw [fo_0, tc] at ih
      simp (disch := omega) only [mx_vt_h, mx_vt_m, mx_cmp_0, mx_cmp_1, mx_cmp_2, mx_cmp_3, mx_cmp_4, mx_u_s, mx_u_a, mx_u_k, mx_z_a, mx_z_s, mx_t_a, mx_t_2, mx_t_1, mx_t_0, mx_gd_T, mx_gd_t, mx_br_T, mx_br_F, mx_br_t, mx_br_f, mx_br_n, mx_cl_T, mx_cl_t, mx_re_T, mx_re_t, mx_rt_v, mx_rt_0, mx_cu_t, mx_w_id, mx_l_id, mx_b_0, mx_b_1, mx_b_r, mx_nl_0, mx_nl_1, mx_nl_2, mx_nl_n, mx_nl_l, mx_sw_n, mx_sw_h, mx_sw_m, Int.reduceLE, Int.reduceLT, Int.reduceEq, Int.reduceAdd, Int.reduceSub, Int.reduceMul, Int.reduceNeg, Int.reduceToNat, and_self, true_and, and_true, false_and, and_false, true_or, or_true, false_or, or_false, not_true_eq_false, not_false_eq_true, eq_self, rw_X11_feed, hX, c_within, mx_b_t z0, tc, ih]
      refine mx_W_s ?_
      obtain ⟨g1, eg⟩ : ∃ g1, id (mx_u (fo h 1 (h 38 5) (fby E) z) 0 1 (h 38 5 + z) = g1) := ⟨_, rfl⟩
      have eg : mx_u (fo h 1 (h 38 5) (fby E) z) 0 1 (h 38 5 + z) = g1 := eg
      try rw [eg]
      have G1 : ∀ b, ¬ b = 0 → ¬ b = 1 → g1 b = h b := fun b p q => by rw [← eg, mx_u_a p, fo_o q]
      have e38 := G1 38 (by decide) (by decide)
      have ih2 := fun l2 => c_feM_l (d := d + 12) (n := n) (h := g1) (E := E) (z := z) (i := 0) (t := h 38 5) (l2 := l2) hM z0 (by omega) (by omega)
      have same : mx_u (fo g1 42 (h 38 5) (fby E) 0) 38 5 (h 38 5 + 0) = g1 := by
        rw [fo_0]
        funext b j; unfold mx_u
        by_cases p : b = 38 ∧ j = 5
        · rw [if_pos p, p.1, p.2, e38]; omega
        · rw [if_neg p]
      rw [same] at ih2
      have e5 : g1 38 5 = h 38 5 := by rw [e38]
      simp (disch := omega) only [mx_vt_h, mx_vt_m, mx_cmp_0, mx_cmp_1, mx_cmp_2, mx_cmp_3, mx_cmp_4, mx_u_s, mx_u_a, mx_u_k, mx_z_a, mx_z_s, mx_t_a, mx_t_2, mx_t_1, mx_t_0, mx_gd_T, mx_gd_t, mx_br_T, mx_br_F, mx_br_t, mx_br_f, mx_br_n, mx_cl_T, mx_cl_t, mx_re_T, mx_re_t, mx_rt_v, mx_rt_0, mx_cu_t, mx_w_id, mx_l_id, mx_b_0, mx_b_1, mx_b_r, mx_nl_0, mx_nl_1, mx_nl_2, mx_nl_n, mx_nl_l, mx_sw_n, mx_sw_h, mx_sw_m, Int.reduceLE, Int.reduceLT, Int.reduceEq, Int.reduceAdd, Int.reduceSub, Int.reduceMul, Int.reduceNeg, Int.reduceToNat, and_self, true_and, and_true, false_and, and_false, true_or, or_true, false_or, or_false, not_true_eq_false, not_false_eq_true, eq_self, rw_X12_feed, hM.e, c_in, mx_b_t z0, e5, ih2]
      refine mx_W_s ⟨⟨_, rfl, rfl⟩, ?_⟩
      obtain ⟨G, eG⟩ : ∃ G, id (mx_u (fo g1 42 (h 38 5) (fby E) z) 38 5 (h 38 5 + z) = G) := ⟨_, rfl⟩
      have eG : mx_u (fo g1 42 (h 38 5) (fby E) z) 38 5 (h 38 5 + z) = G := eG
      try rw [eG]
      have F : ∀ b, ¬ b = 0 → ¬ b = 1 → ¬ b = 38 → ¬ b = 42 → G b = h b := fun b p q r s => by rw [← eG, mx_u_a r, fo_o s, G1 b p q]
      have F38 : ∀ k, ¬ k = 5 → G 38 k = h 38 k := fun k q => by rw [← eG, mx_u_k q, fo_o (by decide), e38]
      have F0 : ∀ k, ¬ k = 1 → G 0 k = h 0 k := fun k q => by rw [← eG, mx_u_a (by decide), fo_o (by decide), ← eg, mx_u_k q, fo_o (by decide)]
      have c38 : G 38 5 = h 38 5 + z := by rw [← eG, mx_u_s]
      have c0 : G 0 1 = h 38 5 + z := by rw [← eG, mx_u_a (by decide), fo_o (by decide), ← eg, mx_u_s]
      have t1 : ∀ k, 0 ≤ k → k < h 38 5 + z → G 1 k = G 42 k ∧ 0 ≤ G 42 k ∧ G 42 k ≤ 255 := fun k a b => by
        rw [← eG, mx_u_a (by decide), mx_u_a (by decide), fo_o (a := 1) (by decide), ← eg, mx_u_a (by decide)]
        by_cases u : h 38 5 ≤ k
        · rw [fo_i u b, fo_i u b]
          have := fby_r E (k - h 38 5)
          exact ⟨rfl, this⟩
        · rw [fo_e (by omega), fo_e (by omega), eg, G1 42 (by decide) (by decide)]
          exact ⟨v.p.t k a (by omega), v.p.b k a (by omega)⟩
      have tp : tpe G := tpe.mk (by rw [c0, c38]) (by rw [c38]; omega) (fun k a b => (t1 k a (by rw [c38] at b; exact b)).1) (fun k a b => (t1 k a (by rw [c38] at b; exact b)).2)
      have fb : ∀ a, 53 ≤ a → G a = h a := fun a y => F a (by omega) (by omega) (by omega) (by omega)
      refine Inv.w (Inv.mk v.s (fun a z => by rw [F a (by omega) (by omega) (by omega) (by omega)]; exact v.g a z) v.n v.c ?_ ?_ tp ?_ ?_ ?_ ?_ ?_) hc
      · exact v.t.gg (F 39 (by decide) (by decide) (by decide) (by decide)) (F0 6 (by decide)) (by rw [F 3 (by decide) (by decide) (by decide) (by decide)]) (by rw [F 3 (by decide) (by decide) (by decide) (by decide)]) (F 4 (by decide) (by decide) (by decide) (by decide)) (F 5 (by decide) (by decide) (by decide) (by decide)) (F 6 (by decide) (by decide) (by decide) (by decide)) rfl (fun _ _ _ => rfl) (fun a y _ => fb a y) (Int.le_refl _)
      · exact v.k.gg v.t (F 39 (by decide) (by decide) (by decide) (by decide)) (F 40 (by decide) (by decide) (by decide) (by decide)) (F0 5 (by decide)) (F0 7 (by decide)) (F38 3 (by decide)) (by rw [F 17 (by decide) (by decide) (by decide) (by decide)]) (by rw [F 17 (by decide) (by decide) (by decide) (by decide)]) (F 18 (by decide) (by decide) (by decide) (by decide)) (F 19 (by decide) (by decide) (by decide) (by decide)) (F 20 (by decide) (by decide) (by decide) (by decide)) rfl rfl (fun _ _ _ => rfl) (fun a y _ => fb a y) (Int.le_refl _)
      · exact v.r.gg (F0 10 (by decide)) (F38 15 (by decide)) (F 30 (by decide) (by decide) (by decide) (by decide)) (F 46 (by decide) (by decide) (by decide) (by decide))
      · exact v.b.gg (F 47 (by decide) (by decide) (by decide) (by decide)) (F 48 (by decide) (by decide) (by decide) (by decide)) (F 49 (by decide) (by decide) (by decide) (by decide)) rfl (fun _ _ _ => rfl) (fun a y _ _ => fb a y) (Int.le_refl _)
      · exact v.l.gg (F 33 (by decide) (by decide) (by decide) (by decide)) (F 34 (by decide) (by decide) (by decide) (by decide)) (F 50 (by decide) (by decide) (by decide) (by decide)) (F 51 (by decide) (by decide) (by decide) (by decide)) rfl (fun _ _ _ => rfl) (fun a y _ _ => fb a y) (Int.le_refl _)
      · exact v.i.gg (F 36 (by decide) (by decide) (by decide) (by decide)) (F38 22 (by decide)) (F 37 (by decide) (by decide) (by decide) (by decide)) (F 52 (by decide) (by decide) (by decide) (by decide))
      · exact v.f.gg (F 2 (by decide) (by decide) (by decide) (by decide)) (F 15 (by decide) (by decide) (by decide) (by decide)) (F 16 (by decide) (by decide) (by decide) (by decide)) (by rw [F 3 (by decide) (by decide) (by decide) (by decide)]) (F 39 (by decide) (by decide) (by decide) (by decide))
  · refine ag_p v hc (y := -1) ?_ ?_
    · simp (disch := omega) only [mx_vt_h, mx_vt_m, mx_cmp_0, mx_cmp_1, mx_cmp_2, mx_cmp_3, mx_cmp_4, mx_u_s, mx_u_a, mx_u_k, mx_z_a, mx_z_s, mx_t_a, mx_t_2, mx_t_1, mx_t_0, mx_gd_T, mx_gd_t, mx_br_T, mx_br_F, mx_br_t, mx_br_f, mx_br_n, mx_cl_T, mx_cl_t, mx_re_T, mx_re_t, mx_rt_v, mx_rt_0, mx_cu_t, mx_w_id, mx_l_id, mx_b_0, mx_b_1, mx_b_r, mx_nl_0, mx_nl_1, mx_nl_2, mx_nl_n, mx_nl_l, mx_sw_n, mx_sw_h, mx_sw_m, Int.reduceLE, Int.reduceLT, Int.reduceEq, Int.reduceAdd, Int.reduceSub, Int.reduceMul, Int.reduceNeg, Int.reduceToNat, and_self, true_and, and_true, false_and, and_false, true_or, or_true, false_or, or_false, not_true_eq_false, not_false_eq_true, eq_self, rw_X11_feed, c_within, mx_b_f z0]
    · simp (disch := omega) only [mx_vt_h, mx_vt_m, mx_cmp_0, mx_cmp_1, mx_cmp_2, mx_cmp_3, mx_cmp_4, mx_u_s, mx_u_a, mx_u_k, mx_z_a, mx_z_s, mx_t_a, mx_t_2, mx_t_1, mx_t_0, mx_gd_T, mx_gd_t, mx_br_T, mx_br_F, mx_br_t, mx_br_f, mx_br_n, mx_cl_T, mx_cl_t, mx_re_T, mx_re_t, mx_rt_v, mx_rt_0, mx_cu_t, mx_w_id, mx_l_id, mx_b_0, mx_b_1, mx_b_r, mx_nl_0, mx_nl_1, mx_nl_2, mx_nl_n, mx_nl_l, mx_sw_n, mx_sw_h, mx_sw_m, Int.reduceLE, Int.reduceLT, Int.reduceEq, Int.reduceAdd, Int.reduceSub, Int.reduceMul, Int.reduceNeg, Int.reduceToNat, and_self, true_and, and_true, false_and, and_false, true_or, or_true, false_or, or_false, not_true_eq_false, not_false_eq_true, eq_self, rw_X12_feed, c_in, mx_b_f z0]
end
