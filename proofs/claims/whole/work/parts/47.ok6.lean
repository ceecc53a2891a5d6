/-! New cells, copies, what a thing is -/
section
variable {B : Nat} {ga : Int → Nat} {gq : Value} {D : va_G} {K : Nat → ClassId} {gS gh : mx_H} {s : State} {S h S' h' : mx_H} {n a : Int} {H H1 : Heap} {locs locs1 : List Loc}
variable {p : Program} {l : Launch} {e : Env} {R : Room} {m : MethodId} {args : Array Value} {below : List Frame} {meth : Method} {c : Code} {cells slots : Nat} {Q : State → Prop} {g : JFrame}
theorem so_Wz (k : H.size ≤ s.heap.size + cells → W p l e R s m args below meth c H locs cells slots Q g) : W p l e R s m args below meth c H locs cells slots Q g := fun T hT X => k (by rw [← hT]; exact X.same.2.2.1) T hT X
theorem so_wlt (hP : va_P D vwCl (so_ws B ga K S h n) H) (hn : 0 ≤ n) (hB : B ≤ H.size) : B + n.toNat ≤ H.size := by
  rcases Int.lt_or_le 0 n with q | q
  · have := (hP _ _ (so_at (B := B) (ga := ga) (K := K) (S := S) (h := h) (n := n) (a := n - 1) (by omega) (by omega))).lt
    unfold so_ad at this
    rw [if_pos (by omega)] at this
    simp only at this
    omega
  · have : n = 0 := by omega
    subst this; simpa using hB
theorem so_updP (I : so_I B ga D K gS gh s S h n H locs) (h0 : 0 ≤ a) (h1 : a < n) (hz : H1.size = B + n.toNat) (hP1 : va_P D vwCl ((so_ws B ga K S h n).set a.toNat (so_ad B ga a, so_E B ga K S' h' a)) H1) (hS1 : va_S (fun q => B ≤ q) s.heap H1 locs1) (ho : ∀ b, b ≠ a → S' b = S b ∧ h' b = h b) (e2 : S' a (-2) = S a (-2)) (e1 : S' a (-1) = S a (-1)) (c64 : ∀ k, so_c64 (h' a k)) (c32 : S a (-2) ≠ 21 → ∀ k, so_c32 (h' a k)) : so_I B ga D K gS gh s S' h' n H1 locs1 := by
  obtain ⟨hn, hz0, hP, hS, hneg, hc64, hc32, hnew, hlen⟩ := I
  refine ⟨hn, hz, ?_, hS1, fun b hb => ?_, fun b k => ?_, fun b k hb => ?_, fun b hb => ?_, fun b hb => ?_⟩
  · have e := so_set (B := B) (ga := ga) (K := K) (S := S) (h := h) h0 h1 (so_E B ga K S' h' a) rfl (fun b hb => so_Ec (ho b hb).1 (ho b hb).2)
    rw [← e]
    exact hP1
  · have hb2 : b ≠ a := by omega
    rw [(ho b hb2).1, (ho b hb2).2]; exact hneg b hb
  · by_cases q : b = a
    · subst q; exact c64 k
    · rw [(ho b q).2]; exact hc64 b k
  · by_cases q : b = a
    · subst q; exact c32 (by rw [← e2]; exact hb) k
    · rw [(ho b q).2]; exact hc32 b k (by rw [← (ho b q).1]; exact hb)
  · by_cases q : b = a
    · subst q; omega
    · rw [(ho b q).1]; exact hnew b hb
  · by_cases q : b = a
    · subst q; rw [e1]; exact hlen b (by rw [← e2]; exact hb)
    · rw [(ho b q).1]; exact hlen b (by rw [← (ho b q).1]; exact hb)
theorem so_newP (I : so_I B ga D K gS gh s S h n H locs) {q : Nat} {e0 : va_E} (hz : H1.size ≤ B + n.toNat + 1) (hP1 : va_P D vwCl (so_ws B ga K S h n ++ [(q, e0)]) H1) (hD1 : va_D (fun q => B ≤ q) (so_ws B ga K S h n ++ [(q, e0)])) (hS1 : va_S (fun q => B ≤ q) s.heap H1 locs) (he : so_E B ga K S' h' n = e0) (ho : ∀ b, b ≠ n → S' b = S b ∧ h' b = h b) (c64 : ∀ k, so_c64 (h' n k)) (c32 : S' n (-2) ≠ 21 → ∀ k, so_c32 (h' n k)) (hl : 20 ≤ S' n (-2) → 0 ≤ S' n (-1) ∧ S' n (-1) ≤ 3072) : q = so_ad B ga n ∧ so_I B ga D K gS gh s S' h' (n + 1) H1 locs := by
  obtain ⟨hn, hz0, hP, hS, hneg, hc64, hc32, hnew, hlen⟩ := I
  have hat : (so_ws B ga K S h n ++ [(q, e0)])[n.toNat]? = some (q, e0) := by
    rw [List.getElem?_append_right (by rw [so_wl]; exact Nat.le_refl _), so_wl, Nat.sub_self]; rfl
  have hlt := (hP1 _ _ hat).lt
  have hB := hD1.2 _ _ hat
  have hge : B + n.toNat ≤ q := by
    rcases Nat.lt_or_ge q (B + n.toNat) with w | w
    · exfalso
      have hi : q - B < n.toNat := by simp only at hB; omega
      have e1 := so_at (B := B) (ga := ga) (K := K) (S := S) (h := h) (n := n) (a := ((q - B : Nat) : Int)) (by omega) (by omega)
      have e3 : (((q - B : Nat) : Int)).toNat = q - B := by omega
      rw [e3] at e1
      have e2 : (so_ws B ga K S h n ++ [(q, e0)])[q - B]? = some (so_ad B ga ((q - B : Nat) : Int), so_E B ga K S h ((q - B : Nat) : Int)) := by
        rw [List.getElem?_append_left (by rw [so_wl]; exact hi)]; exact e1
      have := hD1.1 _ _ _ _ e2 hat (by
        show so_ad B ga ((q - B : Nat) : Int) = q
        unfold so_ad; rw [if_pos (by omega)]; simp only at hB; omega)
      omega
    · exact w
  simp only at hlt
  have hq : q = B + n.toNat := by omega
  have hqa : q = so_ad B ga n := by unfold so_ad; rw [if_pos hn]; exact hq
  refine ⟨hqa, by omega, by omega, ?_, hS1, fun b hb => ?_, fun b k => ?_, fun b k hb => ?_, fun b hb => ?_, fun b hb => ?_⟩
  · have e := so_app (B := B) (ga := ga) (K := K) (S := S) (h := h) hn e0 he (fun b hb => so_Ec (ho b hb).1 (ho b hb).2)
    rw [← e, ← hq]
    exact hP1
  · have hb2 : b ≠ n := by omega
    rw [(ho b hb2).1, (ho b hb2).2]; exact hneg b hb
  · by_cases q : b = n
    · subst q; exact c64 k
    · rw [(ho b q).2]; exact hc64 b k
  · by_cases q : b = n
    · subst q; exact c32 hb k
    · rw [(ho b q).2]; exact hc32 b k (by rw [← (ho b q).1]; exact hb)
  · rw [(ho b (by omega)).1]; exact hnew b (by omega)
  · by_cases q : b = n
    · subst q; exact hl hb
    · rw [(ho b q).1]; exact hlen b (by rw [← (ho b q).1]; exact hb)
end
theorem so_z0 : so_c32 0 ∧ so_c64 0 := ⟨⟨by decide, by decide⟩, ⟨by decide, by decide⟩⟩
theorem so_zn {h : mx_H} {n b : Int} (q : b ≠ n) : mx_z h n b = h b := by funext j; unfold mx_z; rw [if_neg q]
theorem so_zi {h : mx_H} {n j : Int} : mx_z h n n j = 0 := by unfold mx_z; rw [if_pos rfl]
theorem so_tn {S : mx_H} {n t k b : Int} (q : b ≠ n) : mx_t S n t k b = S b := by funext j; unfold mx_t; rw [if_neg q]
theorem so_t2 {S : mx_H} {n t k : Int} : mx_t S n t k n (-2) = t := by unfold mx_t; rw [if_pos rfl, if_pos rfl]
theorem so_t1 {S : mx_H} {n t k : Int} : mx_t S n t k n (-1) = k := by unfold mx_t; rw [if_pos rfl, if_neg (by decide), if_pos rfl]
theorem so_tj {S : mx_H} {n t k j : Int} (q : 0 ≤ j) : mx_t S n t k n j = -1 := by unfold mx_t; rw [if_pos rfl, if_neg (by omega), if_neg (by omega)]
/-- a class whose objects are made -/
def so_C (t : Int) (C : String) (N : Nat) : Prop := ∃ (T : u_T) (ty : Nat → FieldType), vwCl[so_ci t]? = some (C, T, N) ∧ (∀ w ∈ u_ws C T N, w ∈ tb_g) ∧ (∀ k, k < N → parseFieldDescriptor (T k).2.2.1 = some (ty k)) ∧ (so_fr (so_ci t)).length = N ∧ (∀ k, k < N → defaultValue (ty k) = bif (so_fr (so_ci t)).getD k false then .null else .int 0) ∧ 1 ≤ t ∧ t ≤ 13 ∧ N ≤ 300
section
variable {M pc : Nat}
theorem ok_new {t : Int} {C : String} {N i : Nat} (hC : so_C t C N) (hd : decode (mb_ M) pc = .ok (.new i, 3)) (hw : Cond.classLink (my_ M).cls i C ∈ tb_g) (hi : Cond.instantiable C N ∈ tb_g) (hini : Cond.initialized C ∈ tb_g) : ok_S M pc (sf_new t (pc + 3)) := by
  intro B ga gq D K gS gh p l e R s m args below meth c d X Q n0 L st S h n hn hL
  refine ⟨by omega, rfl, fun r1 r2 kk H ls locs h1 h2 h3 => ?_⟩
  obtain ⟨T, ty, hc, hin, hty, hfl, hdf, b1, b2, hN⟩ := hC
  have hts := X.2.2.2.2.2.1
  have hn0 := h3.1
  obtain ⟨q1, q2, q3⟩ := hn
  have hcell : (n - n0).toNat + 1 = (n + 1 - n0).toNat := by omega
  refine va_new (fs := so_fs B ga (mx_t S n t 0) (mx_z h n) n (so_ci t)) (cl := vwCl) (tys := so_ty K) (A := fun q => B ≤ q) (H0 := s.heap) X.1 X.2.1 hts hin ty hty X.2.2.2.2.1 (hts _ hw) (hts _ hi) (hts _ hini) X.2.2.2.2.2.2.1 h3.2.2.1 so_wd h3.2.2.2.1 (fun q hq => by have := X.2.2.2.2.2.2.2.2.2.2.1; omega) hc (fun j hj => ?_) (by omega) (by omega) hd (fun q H1 hP1 hD1 hS1 => ?_)
  · rw [hdf j hj]
    have hj2 : j < (so_fr (so_ci t)).length := by omega
    have hr : (so_fr (so_ci t))[j]? = some ((so_fr (so_ci t)).getD j false) := by rw [List.getD_eq_getElem?_getD, List.getElem?_eq_getElem hj2]; rfl
    have hv : vp_V (so_fs B ga (mx_t S n t 0) (mx_z h n) n (so_ci t)) j = bif (so_fr (so_ci t)).getD j false then va_rf (so_r B ga (mx_t S n t 0 n j)) else .int (Int32.ofInt (mx_z h n n j)) := by
      show (so_fs B ga (mx_t S n t 0) (mx_z h n) n (so_ci t)).getD j .null = _
      generalize (so_fr (so_ci t)).getD j false = r at hr ⊢
      rw [List.getD_eq_getElem?_getD, so_fk hr]; rfl
    rw [hv, so_tj (by omega), so_zi]
    cases (so_fr (so_ci t)).getD j false <;> rfl
  · refine W.widen (k := (n + 1 - n0).toNat) (n := 300 * (n + 1 - n0).toNat) (by omega) (by omega) (so_Wz fun hsz => ?_)
    obtain ⟨e1, I1⟩ := so_newP h3 (S' := mx_t S n t 0) (h' := mx_z h n) (by omega) hP1 hD1 hS1 (by rw [so_Eo (by rw [so_t2]; exact b1) (by rw [so_t2]; exact b2), so_t2]) (fun b hb => ⟨so_tn hb, so_zn hb⟩) (fun k => by rw [so_zi]; exact so_z0.2) (fun _ k => by rw [so_zi]; exact so_z0.1) (fun w => by rw [so_t2] at w; omega)
    have := kk H1 ls locs h1 (so_Tc so_k2 h2) I1
    rw [e1]
    have e2 : so_v B ga gq (2, n) = .ref (so_ad B ga n) := so_rr (by omega)
    simp only [List.map_cons, e2] at this
    exact this
theorem ok_newa {tag : Int} {ty : FieldType} {at0 : ArrayType} (hty : newarray.typeOf at0 = ty) (ht : (tag = 20 ∧ ty = .int) ∨ (tag = 21 ∧ ty = .long)) (hd : decode (mb_ M) pc = .ok (.newarray at0, 2)) (hw : Cond.arrayClass ty ∈ tb_g) : ok_S M pc (sf_newa tag (pc + 2)) := by
  intro B ga gq D K gS gh p l e R s m args below meth c d X Q n0 L st S h n hn hL
  rcases st with _ | ⟨⟨_ | _, x⟩, st⟩ <;> try exact trivial
  unfold sf_newa
  simp only []
  by_cases q : 0 ≤ x ∧ x ≤ 300
  · rw [if_pos q]
    refine ⟨by omega, rfl, fun r1 r2 kk H ls locs h1 h2 h3 => ?_⟩
    have hts := X.2.2.2.2.2.1
    have hn0 := h3.1
    obtain ⟨q1, q2, q3⟩ := hn
    have hx : (Int32.ofInt x).toNatClampNeg = x.toNat := so_nn q.1 (by omega)
    have hneg : ¬ Int32.ofInt x < 0 := by rw [← so_z32, so_lt32 ⟨by omega, by omega⟩ so_cz]; omega
    show W p l e R s m args below meth c H locs _ _ Q (F0 m pc ls (.int (Int32.ofInt x) :: _))
    refine va_newaK X.1 X.2.1 (atype := at0) (by rw [hty]; exact hts _ hw) rfl hd rfl hneg hx (by rw [hty]; rcases ht with ⟨-, rfl⟩ | ⟨-, rfl⟩ <;> simp [componentBytes] <;> omega) (by omega) (by omega) rfl fun H1 cA w1 w2 w3 w4 w5 => ?_
    refine W.widen (k := (n + 1 - n0).toNat) (n := 300 * (n + 1 - n0).toNat) (by omega) (by omega) ?_
    have eH : H.size = so_ad B ga n := by rw [h3.2.1]; unfold so_ad; rw [if_pos hn0]
    have I1 : so_I B ga D K gS gh s (mx_t S n tag x) (mx_z h n) (n + 1) H1 locs := by
      refine so_new h3 w2 w3 ?_ (fun b hb => ⟨so_tn hb, so_zn hb⟩) (fun k => by rw [so_zi]; exact so_z0.2) (fun _ k => by rw [so_zi]; exact so_z0.1) (fun w => by rw [so_t1]; omega)
      have hK := X.2.2.2.2.2.2.1
      rcases ht with ⟨rfl, rfl⟩ | ⟨rfl, rfl⟩
      · have hcA : cA = K 0 := by
          have := (hK.2 0 _ rfl).2
          rw [hty] at w5
          exact Option.some.inj (w5.symm.trans this)
        rw [so_E20 so_t2, so_t1]
        show H1[B + n.toNat]? = some (vp_cell _ _)
        rw [vp_cell_i, ← h3.2.1, w1, hcA, hty]
        congr 2
        funext j
        rw [so_zi]; rfl
      · have hcA : cA = K 1 := by
          have := (hK.2 1 _ rfl).2
          rw [hty] at w5
          exact Option.some.inj (w5.symm.trans this)
        rw [so_E21 so_t2, so_t1]
        show H1[B + n.toNat]? = some (vp_cell _ _)
        rw [vp_cell_l, ← h3.2.1, w1, hcA, hty]
        congr 2
        funext j
        rw [so_zi]; rfl
    have := kk H1 ls locs h1 (so_Tc so_k2 (so_Tt h2)) I1
    rw [eH]
    have e2 : so_v B ga gq (2, n) = .ref (so_ad B ga n) := so_rr (by omega)
    simp only [List.map_cons, e2] at this
    exact this
  · rw [if_neg q]; exact trivial
theorem ok_newr {tag : Int} {C : String} {i : Nat} (ht : (tag = 22 ∧ C = "RoomNumbers$Note") ∨ (tag = 23 ∧ C = "RoomNumbers$SheetRow")) (hd : decode (mb_ M) pc = .ok (.anewarray i, 3)) (hw : Cond.classLink (my_ M).cls i C ∈ tb_g) : ok_S M pc (sf_newa tag (pc + 3)) := by
  intro B ga gq D K gS gh p l e R s m args below meth c d X Q n0 L st S h n hn hL
  rcases st with _ | ⟨⟨_ | _, x⟩, st⟩ <;> try exact trivial
  unfold sf_newa
  simp only []
  by_cases q : 0 ≤ x ∧ x ≤ 300
  · rw [if_pos q]
    refine ⟨by omega, rfl, fun r1 r2 kk H ls locs h1 h2 h3 => ?_⟩
    have hts := X.2.2.2.2.2.1
    have hK := X.2.2.2.2.2.2.1
    have hG := X.2.2.2.2.2.2.2.2.2.1
    have hn0 := h3.1
    obtain ⟨q1, q2, q3⟩ := hn
    have hx : (Int32.ofInt x).toNatClampNeg = x.toNat := so_nn q.1 (by omega)
    have hneg : ¬ Int32.ofInt x < 0 := by rw [← so_z32, so_lt32 ⟨by omega, by omega⟩ so_cz]; omega
    have hover : va_AO C s := by
      rcases ht with ⟨-, rfl⟩ | ⟨-, rfl⟩
      · exact hG.2.2.2.2.2.2.2.2.2.2.2.1
      · exact hG.2.2.2.2.2.2.2.2.2.2.2.2.1
    show W p l e R s m args below meth c H locs _ _ Q (F0 m pc ls (.int (Int32.ofInt x) :: _))
    refine va_newq (A := fun q => B ≤ q) (H0 := s.heap) X.1 X.2.1 X.2.2.2.2.1 (hts _ hw) hover hK h3.2.2.1 so_wd h3.2.2.2.1 (fun q hq => by have := X.2.2.2.2.2.2.2.2.2.2.1; omega) hneg hx (by omega) (by omega) (by omega) hd fun q H0 H1 hK1 hP1 hD1 hS1 => ?_
    refine W.widen (k := (n + 1 - n0).toNat) (n := 300 * (n + 1 - n0).toNat) (by omega) (by omega) (so_Wz fun hsz => ?_)
    have hra := (hK1.2 4 _ rfl).2
    have he : so_E B ga K (mx_t S n tag x) (mx_z h n) n = .inl (H0, x.toNat, .inr (.inr (.inr (.inr (fun _ => none))))) := by
      obtain ⟨kA, comp, -, -, -, f4⟩ := hra
      rcases ht with ⟨rfl, rfl⟩ | ⟨rfl, rfl⟩
      · obtain ⟨kA', comp', -, -, -, g4⟩ := (hK.2 2 _ rfl).2
        have ek : H0 = K 2 := Option.some.inj (f4.symm.trans g4)
        have ef : (fun j : Nat => so_r B ga (mx_t S n 22 x n (j : Int))) = fun _ => none := by funext j; rw [so_tj (by omega)]; rfl
        rw [so_E22 so_t2, so_t1, ek, ef]
      · obtain ⟨kA', comp', -, -, -, g4⟩ := (hK.2 3 _ rfl).2
        have ek : H0 = K 3 := Option.some.inj (f4.symm.trans g4)
        have ef : (fun j : Nat => so_r B ga (mx_t S n 23 x n (j : Int))) = fun _ => none := by funext j; rw [so_tj (by omega)]; rfl
        rw [so_E23 so_t2, so_t1, ek, ef]
    obtain ⟨e1, I1⟩ := so_newP h3 (S' := mx_t S n tag x) (h' := mx_z h n) (by omega) hP1 hD1 hS1 he (fun b hb => ⟨so_tn hb, so_zn hb⟩) (fun k => by rw [so_zi]; exact so_z0.2) (fun _ k => by rw [so_zi]; exact so_z0.1) (fun w => by rw [so_t1]; omega)
    have := kk H1 ls locs h1 (so_Tc so_k2 (so_Tt h2)) I1
    rw [e1]
    have e2 : so_v B ga gq (2, n) = .ref (so_ad B ga n) := so_rr (by omega)
    simp only [List.map_cons, e2] at this
    exact this
  · rw [if_neg q]; exact trivial
end
