/-! Copies, kinds, longs in locals, texts -/
section
variable {M pc : Nat}
theorem so_st4 {B : Nat} {ga : Int → Nat} {gq : Value} {st : List mx_V} (h : st.length ≤ 4) : ((st.map (so_v B ga gq)).map fun v => v.category).sum ≤ 8 := by
  have key : ∀ l : List Value, (l.map fun v => v.category).sum ≤ 2 * l.length := by
    intro l
    induction l with
    | nil => simp
    | cons v l ih =>
      simp only [List.map_cons, List.sum_cons, List.length_cons]
      rcases lv_cat v with e | e <;> omega
  have := key (st.map (so_v B ga gq))
  simp only [List.length_map] at this
  omega
theorem so_yn {h : mx_H} {a i b j x k : Int} (q : k ≠ b) : mx_y h a i b j x k = h k := by funext z; unfold mx_y; rw [if_neg (fun w => q w.1)]
theorem so_y_in {h : mx_H} {a i b j x z : Int} : mx_y h a i b j x b z = if j ≤ z ∧ z < j + x then h a (i + (z - j)) else h b z := by
  unfold mx_y
  by_cases q : j ≤ z ∧ z < j + x
  · rw [if_pos ⟨rfl, q⟩, if_pos q]
  · rw [if_neg (fun w => q w.2), if_neg q]
theorem ok_copy {i0 : Nat} (hd : decode (mb_ M) pc = .ok (.invokestatic i0, 3)) (hw : Cond.methodLink (my_ M).cls i0 arraycopyName ∈ tb_g) (hnat : Cond.native arraycopyName ∈ tb_g) (hst : Cond.static arraycopyName ∈ tb_g) (hini : Cond.initialized "java/lang/System" ∈ tb_g) : ok_S M pc (sf_copy (pc + 3)) := by
  intro B ga gq D K gS gh p l e R s m args below meth c d X Q n0 L st S h n hn hL
  rcases st with _ | ⟨⟨_ | _, x⟩, _ | ⟨⟨_ | _, j⟩, _ | ⟨⟨_ | _ | _ | _, b⟩, _ | ⟨⟨_ | _, i⟩, _ | ⟨⟨_ | _ | _ | _, a⟩, st⟩⟩⟩⟩⟩ <;> try exact trivial
  unfold sf_copy
  simp only []
  by_cases q : S a (-2) = 20 ∧ S b (-2) = 20 ∧ 0 ≤ x ∧ 0 ≤ i ∧ 0 ≤ j ∧ i + x ≤ S a (-1) ∧ j + x ≤ S b (-1) ∧ st.length ≤ 4
  · rw [if_pos q]
    refine ⟨Int.le_refl _, rfl, fun _ _ kk H ls locs h1 h2 h3 => ?_⟩
    obtain ⟨qa, qb, q0, q1, q2, q3, q4, hst4⟩ := q
    have hts := X.2.2.2.2.2.1
    have hG := X.2.2.2.2.2.2.2.2.2.1
    have hK := X.2.2.2.2.2.2.1
    obtain ⟨la, la2⟩ := h3.2.2.2.2.2.2.2.2 a (by omega)
    obtain ⟨lb, lb2⟩ := h3.2.2.2.2.2.2.2.2 b (by omega)
    obtain ⟨a0, a1⟩ := so_own (a := a) h3 hG (by omega) (by omega)
    obtain ⟨b0, b1⟩ := so_own (a := b) h3 hG (by omega) (by omega)
    have nx : ∀ z : Int, 0 ≤ z → z ≤ 3072 → ¬ Int32.ofInt z < 0 := fun z z0 z1 => by rw [← so_z32, so_lt32 ⟨by omega, by omega⟩ so_cz]; omega
    show W p l e R s m args below meth c H locs _ _ Q (F0 m pc ls (.int (Int32.ofInt x) :: .int (Int32.ofInt j) :: va_rf (so_r B ga b) :: .int (Int32.ofInt i) :: va_rf (so_r B ga a) :: _))
    rw [so_rr (a := a) (by omega), so_rr (a := b) (by omega)]
    have hcat := so_st4 (B := B) (ga := ga) (gq := gq) hst4
    have hlo := X.2.2.2.2.2.2.2.2.2.2.2.2
    have hfr := X.2.2.2.2.2.2.2.2.2.2.2.1
    have ex : (Int32.ofInt x).toNatClampNeg = x.toNat := so_nn q0 (by omega)
    have ei : (Int32.ofInt i).toNatClampNeg = i.toNat := so_nn q1 (by omega)
    have ej : (Int32.ofInt j).toNatClampNeg = j.toNat := so_nn q2 (by omega)
    refine va_copyi (A := fun q => B ≤ q) (H0 := s.heap) X.1 X.2.1 (by rw [h1.1, hL]; exact X.2.2.1) X.2.2.2.2.1 (hts _ hw) (hts _ hnat) (hts _ hst) (hts _ hini) hK h3.2.2.1 so_wd h3.2.2.2.1 a.toNat b.toNat 0 0 (by rw [so_at a0 a1, so_E20 qa]) (by rw [so_at b0 b1, so_E20 qb]) rfl rfl rfl (nx i q1 (by omega)) (nx j q2 (by omega)) (nx x q0 (by omega)) (by omega) (by omega) (fun _ _ => rfl) (by omega) (by
      have : nativeFrameWords "java/lang/System" "arraycopy" 5 + 11 ≤ 50 := by decide
      omega) hd fun H1 locs1 hP1 hD1 hS1 => ?_
    refine so_Wz fun hsz => kk H1 ls locs1 h1 (so_Tt (so_Tt (so_Tt (so_Tt (so_Tt h2))))) ?_
    have hE : so_E B ga K S (mx_y h a i b j x) b = .inl (K 0, (S b (-1)).toNat, .inl (va_cpy (fun j => Int32.ofInt (h a j)) (fun j => Int32.ofInt (h b j)) (Int32.ofInt i).toNatClampNeg (Int32.ofInt j).toNatClampNeg (Int32.ofInt x).toNatClampNeg)) := by
      rw [so_E20 qb, ex, ei, ej]
      congr 3
      apply congrArg Sum.inl
      funext z
      unfold va_cpy
      rw [so_y_in]
      by_cases w : j.toNat ≤ z ∧ z < j.toNat + x.toNat
      · rw [if_pos w, if_pos (by omega)]
        congr 2
        omega
      · rw [if_neg w, if_neg (by omega)]
    rw [← hE] at hP1
    have hz : H1.size = B + n.toNat := by
      have t1 := so_wlt (B := B) (ga := ga) (K := K) (S := S) (h := mx_y h a i b j x) (n := n) (D := D) (H := H1) (by
        have e := so_set (B := B) (ga := ga) (K := K) (S := S) (h := h) (S' := S) (h' := mx_y h a i b j x) b0 b1 _ rfl (fun k hk => so_Ec rfl (so_yn hk))
        rw [← e]; exact hP1) h3.1 (Nat.le_trans X.2.2.2.2.2.2.2.2.2.2.1 hS1.1)
      have := h3.1
      omega
    exact so_updP h3 b0 b1 hz hP1 hS1 (fun k hk => ⟨rfl, so_yn hk⟩) rfl rfl (fun k => by rw [so_y_in]; split <;> exact h3.2.2.2.2.2.1 _ _) (fun z k => by
      rw [so_y_in]; split
      · exact h3.2.2.2.2.2.2.1 _ _ (by omega)
      · exact h3.2.2.2.2.2.2.1 _ _ (by omega))
  · rw [if_neg q]; exact trivial
end
