/-! A clone, kinds, Object's constructor, longs in locals, texts -/
section
variable {M pc : Nat}
theorem ok_clon {i0 : Nat} (hd : decode (mb_ M) pc = .ok (.invokevirtual i0, 3)) (hw : Cond.methodLink (my_ M).cls i0 ⟨"[I", "clone", "()Ljava/lang/Object;"⟩ ∈ tb_g) (hsame : Cond.sameMethod "[I" "java/lang/Object" "clone" "()Ljava/lang/Object;" ∈ tb_g) (hnat : Cond.native ⟨"java/lang/Object", "clone", "()Ljava/lang/Object;"⟩ ∈ tb_g) (hinst : Cond.instanceMethod ⟨"java/lang/Object", "clone", "()Ljava/lang/Object;"⟩ ∈ tb_g) (hsel : Cond.selects "[I" ⟨"[I", "clone", "()Ljava/lang/Object;"⟩ ⟨"java/lang/Object", "clone", "()Ljava/lang/Object;"⟩ ∈ tb_g) (hcl : Cond.castable "[I" "java/lang/Cloneable" ∈ so_nw) : ok_S M pc (sf_clon (pc + 3)) := by
  intro B ga gq D K gS gh p l e R s m args below meth c d X Q n0 L st S h n hn hL
  rcases st with _ | ⟨⟨_ | _ | _ | _, a⟩, st⟩ <;> try exact trivial
  unfold sf_clon
  simp only []
  by_cases q : S a (-2) = 20 ∧ S a (-1) ≤ 300 ∧ st.length ≤ 4
  · rw [if_pos q]
    refine ⟨by omega, rfl, fun r1 r2 kk H ls locs h1 h2 h3 => ?_⟩
    obtain ⟨qa, q0, hst4⟩ := q
    have hts := X.2.2.2.2.2.1
    have hG := X.2.2.2.2.2.2.2.2.2.1
    have hK := X.2.2.2.2.2.2.1
    have hn0 := h3.1
    obtain ⟨z1, z2, z3⟩ := hn
    obtain ⟨la, la2⟩ := h3.2.2.2.2.2.2.2.2 a (by omega)
    obtain ⟨a0, a1⟩ := so_own (a := a) h3 hG (by omega) (by omega)
    have hcat := so_st4 (B := B) (ga := ga) (gq := gq) hst4
    have hlo := X.2.2.2.2.2.2.2.2.2.2.2.2
    have hfr := X.2.2.2.2.2.2.2.2.2.2.2.1
    show W p l e R s m args below meth c H locs _ _ Q (F0 m pc ls (va_rf (so_r B ga a) :: _))
    rw [so_rr (a := a) (by omega)]
    refine va_clone (A := fun q => B ≤ q) (H0 := s.heap) (ty := .int) X.1 X.2.1 (by rw [h1.1, hL]; exact X.2.2.1) X.2.2.2.2.1 (hts _ hw) (hts _ hsame) (hts _ hnat) (hts _ hinst) (hts _ hsel) (hG.2.2.2.2.2.2.2.2.2.1 _ hcl) hK h3.2.2.1 so_wd h3.2.2.2.1 (fun q hq => by have := X.2.2.2.2.2.2.2.2.2.2.1; omega) a.toNat 0 (by rw [so_at a0 a1, so_E20 qa]) rfl (va_nm_int (hK.2 0 _ rfl).2) (fun i v hv => ?_) (by omega) (by omega) (by omega) (by simp only; omega) hd fun q H1 hK1 hP1 hD1 hS1 => ?_
    · rw [vp_cell_i] at hv
      rcases Nat.lt_or_ge i (S a (-1)).toNat with w | w
      · rw [arrV_read _ _ w] at hv; cases hv; rfl
      · rw [Array.getElem?_eq_none (by rw [arrV_size]; exact w)] at hv; cases hv
    · refine W.widen (k := (n + 1 - n0).toNat) (n := 300 * (n + 1 - n0).toNat) (by omega) (by simp only; omega) (so_Wz fun hsz => ?_)
      have hane : a ≠ n := by omega
      have hE : so_E B ga K (mx_t S n 20 (S a (-1))) (mx_y (mx_z h n) a 0 n 0 (S a (-1))) n = .inl (K 0, (S a (-1)).toNat, .inl fun j => Int32.ofInt (mx_y (mx_z h n) a 0 n 0 (S a (-1)) n j)) := by
        rw [so_E20 so_t2, so_t1]
      have hyv : ∀ z : Int, mx_y (mx_z h n) a 0 n 0 (S a (-1)) n z = if 0 ≤ z ∧ z < S a (-1) then h a z else 0 := by
        intro z
        rw [so_y_in]
        by_cases w : 0 ≤ z ∧ z < 0 + S a (-1)
        · rw [if_pos w, if_pos (by omega), so_zn hane]; congr 1; omega
        · rw [if_neg w, if_neg (by omega), so_zi]
      have hat : (so_ws B ga K S h n ++ [(q, .inl (K 0, (S a (-1)).toNat, .inl fun j => Int32.ofInt (h a j)))])[n.toNat]? = some (q, .inl (K 0, (S a (-1)).toNat, .inl fun j => Int32.ofInt (h a j))) := by
        rw [List.getElem?_append_right (by rw [so_wl]; exact Nat.le_refl _), so_wl, Nat.sub_self]; rfl
      have hP2 : va_P D vwCl (so_ws B ga K S h n ++ [(q, .inl (K 0, (S a (-1)).toNat, .inl fun j => Int32.ofInt (mx_y (mx_z h n) a 0 n 0 (S a (-1)) n j)))]) H1 := by
        intro k y hy
        rcases Nat.lt_or_ge k n.toNat with w | w
        · rw [List.getElem?_append_left (by rw [so_wl]; exact w)] at hy
          exact hP1 k y (by rw [List.getElem?_append_left (by rw [so_wl]; exact w)]; exact hy)
        · rw [List.getElem?_append_right (by rw [so_wl]; exact w), so_wl] at hy
          have hk : k - n.toNat < 1 := (List.getElem?_eq_some_iff.mp hy).1
          have hk0 : k - n.toNat = 0 := by omega
          rw [hk0] at hy
          cases hy
          have h5 := hP1 _ _ hat
          have h5 : H1[q]? = some (vp_cell (K 0) ((S a (-1)).toNat, .inl fun j => Int32.ofInt (h a j))) := h5
          show H1[q]? = some (vp_cell _ _)
          rw [h5, vp_cell_i, vp_cell_i]
          congr 1
          unfold arrV
          congr 1
          apply Array.ext
          · simp
          · intro i i1 i2
            simp at i1
            simp only [Array.getElem_ofFn]
            rw [hyv, if_pos (by omega)]
      have hD2 : va_D (fun q => B ≤ q) (so_ws B ga K S h n ++ [(q, .inl (K 0, (S a (-1)).toNat, .inl fun j => Int32.ofInt (mx_y (mx_z h n) a 0 n 0 (S a (-1)) n j)))]) := by
        have := hD1.set (e := .inl (K 0, (S a (-1)).toNat, .inl fun j => Int32.ofInt (mx_y (mx_z h n) a 0 n 0 (S a (-1)) n j))) hat
        rw [List.set_append_right _ _ (by rw [so_wl]; exact Nat.le_refl _), so_wl, Nat.sub_self] at this
        exact this
      obtain ⟨e1, I1⟩ := so_newP h3 (S' := mx_t S n 20 (S a (-1))) (h' := mx_y (mx_z h n) a 0 n 0 (S a (-1))) (by omega) hP2 hD2 hS1 hE (fun b hb => ⟨so_tn hb, by rw [so_yn hb, so_zn hb]⟩) (fun k => by
        rw [hyv]; split
        · exact h3.2.2.2.2.2.1 _ _
        · exact so_z0.2) (fun _ k => by
        rw [hyv]; split
        · exact h3.2.2.2.2.2.2.1 _ _ (by omega)
        · exact so_z0.1) (fun w => by rw [so_t1]; omega)
      have := kk H1 ls locs h1 (so_Tc so_k2 (so_Tt h2)) I1
      rw [e1]
      have e2 : so_v B ga gq (2, n) = .ref (so_ad B ga n) := so_rr (by omega)
      simp only [List.map_cons, e2] at this
      exact this
  · rw [if_neg q]; exact trivial
theorem ok_cast {i0 : Nat} (hd : decode (mb_ M) pc = .ok (.checkcast i0, 3)) (hw : Cond.classLink (my_ M).cls i0 "[I" ∈ tb_g) : ok_S M pc (sf_cast (pc + 3)) := by
  intro B ga gq D K gS gh p l e R s m args below meth c d X Q n0 L st S h n hn hL
  rcases st with _ | ⟨⟨_ | _ | _ | _, a⟩, st⟩ <;> try exact trivial
  unfold sf_cast
  simp only []
  by_cases q : S a (-2) = 20
  · rw [if_pos q]
    refine ⟨Int.le_refl _, rfl, fun r1 r2 kk H ls locs h1 h2 h3 => ?_⟩
    obtain ⟨a0, a1⟩ := so_own (a := a) h3 X.2.2.2.2.2.2.2.2.2.1 (by omega) (by omega)
    have key := kk H ls locs h1 h2 h3
    have e2 : so_v B ga gq (2, a) = .ref (so_ad B ga a) := so_rr (by omega)
    simp only [List.map_cons, e2] at key ⊢
    exact va_castA X.1 X.2.1 X.2.2.2.2.1 (X.2.2.2.2.2.1 _ hw) h3.2.2.1 a.toNat (by rw [so_at a0 a1, so_E20 q]) (va_nm_int (X.2.2.2.2.2.2.1.2 0 _ rfl).2) hd key
  · rw [if_neg q]; exact trivial
/-- which tags are of a class -/
def so_K (lo hi : Int) (C : String) : Prop := ∀ t : Int, 1 ≤ t → t ≤ 6 → ∀ q : vw_C, vwCl[so_ci t]? = some q → (t = lo ∨ t = hi → q.1 = C ∨ Cond.castable q.1 C ∈ so_nw) ∧ (¬ (t = lo ∨ t = hi) → (q.1, C) ∈ so_nc)
theorem ok_inst {lo hi : Int} {C : String} {i0 : Nat} (hk : so_K lo hi C) (hd : decode (mb_ M) pc = .ok (.instanceof i0, 3)) (hw : Cond.classLink (my_ M).cls i0 C ∈ tb_g) : ok_S M pc (sf_inst lo hi (pc + 3)) := by
  intro B ga gq D K gS gh p l e R s m args below meth c d X Q n0 L st S h n hn hL
  rcases st with _ | ⟨⟨_ | _ | _ | _, a⟩, st⟩ <;> try exact trivial
  unfold sf_inst
  simp only []
  by_cases q : 1 ≤ S a (-2) ∧ S a (-2) ≤ 6
  · rw [if_pos q]
    refine ⟨Int.le_refl _, rfl, fun r1 r2 kk H ls locs h1 h2 h3 => ?_⟩
    have hG := X.2.2.2.2.2.2.2.2.2.1
    have hts := X.2.2.2.2.2.1
    obtain ⟨a0, a1⟩ := so_own (a := a) h3 hG (by omega) (by omega)
    obtain ⟨qc, cv, k1, k2, k3, k4, k5⟩ := so_rd h3 a0 a1 (by omega) (by omega) X.2.2.2.2.2.2.1
    obtain ⟨y1, y2⟩ := hk _ q.1 q.2 qc k1
    have e2 : so_v B ga gq (2, a) = .ref (so_ad B ga a) := so_rr (by omega)
    have hr : ∃ cell : Cell, H[so_ad B ga a]? = some cell ∧ cell.vm.isStatics = false ∧ s.vm.findClass qc.1 = some cell.cls := ⟨cv, k2, by rw [k3]; rfl, k4⟩
    by_cases w : S a (-2) = lo ∨ S a (-2) = hi
    · have key := kk H ls locs h1 (so_Tc (so_k0 (by rw [if_pos w]; exact ⟨by decide, by decide⟩)) (so_Tt h2)) h3
      simp only [if_pos w, List.map_cons, e2] at key ⊢
      rcases y1 w with z | z
      · rw [z] at hr k5
        exact va_instS X.1 X.2.1 X.2.2.2.2.1 (hts _ hw) k5 hr hd key
      · exact va_instY X.1 X.2.1 X.2.2.2.2.1 (hts _ hw) (hG.2.2.2.2.2.2.2.2.2.1 _ z) hr hd key
    · have key := kk H ls locs h1 (so_Tc (so_k0 (by rw [if_neg w]; exact so_cz)) (so_Tt h2)) h3
      simp only [if_neg w, List.map_cons, e2] at key ⊢
      exact va_instNo X.1 X.2.1 X.2.2.2.2.1 (hts _ hw) (hG.2.2.2.2.2.2.2.2.2.2.1 _ (y2 w)) hr hd key
  · rw [if_neg q]; exact trivial
theorem ok_oini {i0 : Nat} (hd : decode (mb_ M) pc = .ok (.invokespecial i0, 3)) (hw : Cond.methodLink (my_ M).cls i0 Lib.objectInit ∈ tb_g) (hinst : Cond.instanceMethod Lib.objectInit ∈ tb_g) (hcode : Cond.code Lib.objectInit ⟨#[0xb1]⟩ 1 none ∈ tb_g) : ok_S M pc (sf_oini (pc + 3)) := by
  intro B ga gq D K gS gh p l e R s m args below meth c d X Q n0 L st S h n hn hL
  rcases st with _ | ⟨⟨_ | _ | _ | _, a⟩, st⟩ <;> try exact trivial
  unfold sf_oini
  simp only []
  by_cases q : 0 ≤ a ∧ st.length ≤ 4
  · rw [if_pos q]
    refine ⟨Int.le_refl _, rfl, fun r1 r2 kk H ls locs h1 h2 h3 => ?_⟩
    have key := kk H ls locs h1 (so_Tt h2) h3
    have e2 : so_v B ga gq (2, a) = .ref (so_ad B ga a) := so_rr (by omega)
    have hts := X.2.2.2.2.2.1
    have hcat := so_st4 (B := B) (ga := ga) (gq := gq) q.2
    have hlo := X.2.2.2.2.2.2.2.2.2.2.2.2
    have hfr := X.2.2.2.2.2.2.2.2.2.2.2.1
    simp only [List.map_cons, e2]
    exact W.objInit X.1 X.2.1 X.2.2.2.2.1 (hts _ hw) (hts _ hinst) (hts _ hcode) rfl (by show ls.size = c.maxLocals; rw [h1.1, hL]; exact X.2.2.1.symm) rfl hd (by omega) (by show 2 * 0 + _ + 12 ≤ _; omega) key
  · rw [if_neg q]; exact trivial
theorem ok_sgr {i : Nat} (hd : decode (mb_ M) pc = .ok (.getfield i, 3)) (hw : Cond.fieldLink (my_ M).cls i "java/lang/String" "value" "[B" ∈ tb_g) : ok_S M pc (sf_gr 30 30 0 (pc + 3)) := by
  intro B ga gq D K gS gh p l e R s m args below meth c d X Q n0 L st S h n hn hL
  rcases st with _ | ⟨⟨_ | _ | _ | _, a⟩, st⟩ <;> try exact trivial
  unfold sf_gr
  simp only []
  by_cases q : 30 ≤ S a (-2) ∧ S a (-2) ≤ 30
  · rw [if_pos q]
    refine ⟨Int.le_refl _, rfl, fun _ _ kk H ls locs h1 h2 h3 => ?_⟩
    have hG := X.2.2.2.2.2.2.2.2.2.1
    obtain ⟨z, g1, g2⟩ := so_neg (a := a) h3 hG (by omega)
    have hT := hG.2.2.2.1 a (by rw [← g1]; omega)
    have key := kk H ls locs h1 (so_Tc so_k2 (so_Tt h2)) h3
    have e2 : so_v B ga gq (2, a) = .ref (ga a) := by rw [← so_adn (B := B) (ga := ga) (by omega : a < 0)]; exact so_rr (by omega)
    simp only [List.map_cons, e2] at key ⊢
    rw [g1] at key
    exact vk_getf X.1 X.2.1 hT.2.2 h3.2.2.2.1 X.2.2.2.2.1 (X.2.2.2.2.2.1 _ hw) (fun _ h => h) hd key
  · rw [if_neg q]; exact trivial
theorem ok_sgi {i : Nat} (hd : decode (mb_ M) pc = .ok (.getfield i, 3)) (hw : Cond.fieldLink (my_ M).cls i "java/lang/String" "coder" "B" ∈ tb_g) : ok_S M pc (sf_gi 30 30 1 (pc + 3)) := by
  intro B ga gq D K gS gh p l e R s m args below meth c d X Q n0 L st S h n hn hL
  rcases st with _ | ⟨⟨_ | _ | _ | _, a⟩, st⟩ <;> try exact trivial
  unfold sf_gi
  simp only []
  by_cases q : 30 ≤ S a (-2) ∧ S a (-2) ≤ 30
  · rw [if_pos q]
    refine ⟨Int.le_refl _, rfl, fun _ _ kk H ls locs h1 h2 h3 => ?_⟩
    have hG := X.2.2.2.2.2.2.2.2.2.1
    obtain ⟨z, g1, g2⟩ := so_neg (a := a) h3 hG (by omega)
    have hT := hG.2.2.2.1 a (by rw [← g1]; omega)
    have key := kk H ls locs h1 (so_Tc (so_k0 (h3.2.2.2.2.2.2.1 a 1 (by omega))) (so_Tt h2)) h3
    have e2 : so_v B ga gq (2, a) = .ref (ga a) := by rw [← so_adn (B := B) (ga := ga) (by omega : a < 0)]; exact so_rr (by omega)
    simp only [List.map_cons, e2] at key ⊢
    rw [g2] at key
    exact vk_getf X.1 X.2.1 hT.2.1 h3.2.2.2.1 X.2.2.2.2.1 (X.2.2.2.2.2.1 _ hw) (fun _ h => h) hd key
  · rw [if_neg q]; exact trivial
theorem so_sto2l : ∀ (L : mx_L) (k : Nat) (v : mx_V), k + 1 < L.length → (mx_sto2 L k v).length = L.length
  | [], _, _, h => by simp at h
  | [_], _, _, h => by simp at h
  | _ :: _ :: L, 0, v, _ => rfl
  | l :: l2 :: L, 1, v, h => by
    show (mx_nl l :: mx_sto2 (l2 :: L) 0 v).length = _
    simp only [List.length_cons] at h ⊢
    rw [so_sto2l (l2 :: L) 0 v (by simp only [List.length_cons]; omega)]; rfl
  | l :: l2 :: L, k + 2, v, h => by
    show (l :: mx_sto2 (l2 :: L) (k + 1) v).length = _
    simp only [List.length_cons] at h ⊢
    rw [so_sto2l (l2 :: L) (k + 1) v (by simp only [List.length_cons]; omega)]; rfl
theorem so_sto20 : ∀ (L : mx_L) (v : mx_V) (j : Nat) (u : mx_V), (mx_sto2 L 0 v)[j]? = some (some u) → (j = 0 ∧ u = v) ∨ (j ≠ 0 ∧ j ≠ 1 ∧ L[j]? = some (some u))
  | [], v, j, u, h => by simp [mx_sto2] at h
  | [_], v, j, u, h => by simp [mx_sto2] at h
  | l :: l2 :: L, v, j, u, h => by
    match j, h with
    | 0, h => simp [mx_sto2] at h; exact Or.inl ⟨rfl, h.symm⟩
    | 1, h => simp [mx_sto2] at h
    | j + 2, h => simp [mx_sto2] at h; exact Or.inr ⟨by simp, by simp, by simpa using h⟩
theorem so_sto2j : ∀ (L : mx_L) (k : Nat) (v : mx_V) (j : Nat) (u : mx_V), (mx_sto2 L k v)[j]? = some (some u) → (j = k ∧ u = v) ∨ (j ≠ k ∧ j ≠ k + 1 ∧ L[j]? = some (some u) ∧ ¬ (j + 1 = k ∧ u.1 = 1))
  | [], k, v, j, u, h => by simp [mx_sto2] at h
  | [_], k, v, j, u, h => by simp [mx_sto2] at h
  | l :: l2 :: L, 0, v, j, u, h => by
    rcases so_sto20 (l :: l2 :: L) v j u h with q | q
    · exact Or.inl q
    · exact Or.inr ⟨q.1, q.2.1, q.2.2, by omega⟩
  | l :: l2 :: L, 1, v, j, u, h => by
    cases j with
    | zero =>
      simp [mx_sto2] at h
      obtain ⟨e1, e2⟩ := so_nl h
      exact Or.inr ⟨by simp, by simp, by simp [e1], fun q => e2 q.2⟩
    | succ j =>
      have h : (mx_sto2 (l2 :: L) 0 v)[j]? = some (some u) := by simpa [mx_sto2] using h
      rcases so_sto20 (l2 :: L) v j u h with q | q
      · exact Or.inl ⟨by omega, q.2⟩
      · exact Or.inr ⟨by omega, by omega, by simpa using q.2.2, by omega⟩
  | l :: l2 :: L, k + 2, v, j, u, h => by
    cases j with
    | zero =>
      simp [mx_sto2] at h
      exact Or.inr ⟨by omega, by omega, by simp [h], by omega⟩
    | succ j =>
      have h : (mx_sto2 (l2 :: L) (k + 1) v)[j]? = some (some u) := by simpa [mx_sto2] using h
      rcases so_sto2j (l2 :: L) (k + 1) v j u h with q | q
      · exact Or.inl ⟨by omega, q.2⟩
      · exact Or.inr ⟨by omega, by omega, by simpa using q.2.2.1, fun z => q.2.2.2 ⟨by omega, z.2⟩⟩
theorem ok_st2 {k pc1 : Nat} (hw : ∀ {p : Program} {l : Launch} {e : Env} {R : Room} {s : State} {m : MethodId} {args : Array Value} {below : List Frame} {meth : Method} {c : Code} {Q : State → Prop} {H : Heap} {locs : List Loc} {cells slots : Nat} {ls : Array Slot} {rest : List Value} {x : Int64} {nL : Nat} {lv : List (Nat × Value)}, p.tables.exec = Jvm.exec → c.code = mb_ M → lv_has ls nL lv → k + 1 < nL → (∀ ls' : Array Slot, lv_has ls' nL ((k, .long x) :: lv.filter (fun q => !(q.1 == k) && (!(q.1 == k + 1) && !(q.1 + 1 == k && q.2.category == 2)))) → W p l e R s m args below meth c H locs cells slots Q (F0 m pc1 ls' rest)) → W p l e R s m args below meth c H locs cells slots Q (F0 m pc ls (.long x :: rest))) : ok_S M pc (sf_st2 k pc1) := by
  intro B ga gq D K gS gh p l e R s m args below meth c d X Q n0 L st S h n hn hL
  unfold sf_st2
  cases st with
  | nil => exact trivial
  | cons v st =>
    obtain ⟨t1, x⟩ := v
    by_cases ht : t1 = 1 ∧ k + 1 < L.length
    · simp only [ht, and_self, if_true]
      obtain ⟨rfl, hk⟩ := ht
      refine ⟨Int.le_refl _, so_sto2l _ _ _ hk, fun _ _ kk H ls locs h1 h2 h3 => ?_⟩
      refine hw X.1 X.2.1 (so_lvh h1) hk fun ls' h' => kk H ls' locs ⟨by rw [so_sto2l _ _ _ hk]; exact h'.1, h'.2.1, fun i u hu => ?_⟩ (so_Tt h2) h3
      rcases so_sto2j L k (1, x) i u hu with ⟨e1, e2⟩ | ⟨e1, e1', e2, e3⟩
      · subst e1; subst e2
        exact ⟨h'.2.2 _ List.mem_cons_self, so_Th h2⟩
      · obtain ⟨q1, q2⟩ := h1.2.2 i u e2
        refine ⟨h'.2.2 (i, so_v B ga gq u) (List.mem_cons_of_mem _ (List.mem_filter.mpr ⟨so_lvm.mpr ⟨u, e2, rfl⟩, ?_⟩)), q2⟩
        have e4 := so_cat (B := B) (ga := ga) (so_gc X) q2
        by_cases z : i + 1 = k
        · have : ¬ u.1 = 1 := fun w => e3 ⟨z, w⟩
          have e5 : ((so_v B ga gq u).category == 2) = false := by
            cases w : ((so_v B ga gq u).category == 2) with
            | true => exact absurd (e4.mp w) this
            | false => rfl
          simp [e5, e1, e1']
        · simp [z, e1, e1']
    · simp only [ht, if_false]
theorem ok_lstore_n {k : Fin 4} {i : Nat} (hd : decode (mb_ M) pc = .ok (.lstore_n k, 1)) (hi : (k : Nat) = i) : ok_S M pc (sf_st2 i (pc + 1)) := ok_st2 fun hx hb h hn kk => lv_lstore_n hx hb hd hi h hn rfl kk
theorem ok_lstore {i : Nat} (hd : decode (mb_ M) pc = .ok (.lstore i, 2)) : ok_S M pc (sf_st2 i (pc + 2)) := ok_st2 fun hx hb h hn kk => lv_lstore hx hb hd h hn rfl kk
theorem so_if32 {a b : Int} (ha : so_c32 a) (hb : so_c32 b) : so_c32 (mx_max a b) ∧ so_c32 (mx_min a b) := by
  unfold mx_max mx_min; constructor <;> split <;> assumption
theorem so_if64 {a b : Int} (ha : so_c64 a) (hb : so_c64 b) : so_c64 (ml_max a b) ∧ so_c64 (ml_min a b) := by
  unfold ml_max ml_min; constructor <;> split <;> assumption
theorem so_lt64 {x y : Int} (hx : so_c64 x) (hy : so_c64 y) : Int64.ofInt x < Int64.ofInt y ↔ x < y := by
  rw [Int64.lt_iff_toInt_lt, so_i64 hx, so_i64 hy]
theorem ok_mmax {i0 : Nat} (hd : decode (mb_ M) pc = .ok (.invokestatic i0, 3)) (hw : Cond.methodLink (my_ M).cls i0 Lib.Math.max.name ∈ tb_g) (hst : Cond.static Lib.Math.max.name ∈ tb_g) (hini : Cond.initialized "java/lang/Math" ∈ tb_g) (hcode : Cond.code Lib.Math.max.name Lib.Math.max.code 2 (some .int) ∈ tb_g) : ok_S M pc (sf_m2 mx_max (pc + 3)) := by
  intro B ga gq D K gS gh p l e R s m args below meth c d X Q n0 L st S h n hn hL
  rcases st with _ | ⟨⟨_ | _, b⟩, _ | ⟨⟨_ | _, a⟩, st⟩⟩ <;> try exact trivial
  unfold sf_m2
  simp only []
  by_cases q : st.length ≤ 4
  · rw [if_pos q]
    refine ⟨Int.le_refl _, rfl, fun r1 r2 kk H ls locs h1 h2 h3 => ?_⟩
    have ha := so_0c (so_Th (so_Tt h2))
    have hb := so_0c (so_Th h2)
    have hts := X.2.2.2.2.2.1
    have hcat := so_st4 (B := B) (ga := ga) (gq := gq) q
    have hlo := X.2.2.2.2.2.2.2.2.2.2.2.2
    have hfr := X.2.2.2.2.2.2.2.2.2.2.2.1
    refine va_mmax X.1 X.2.1 (by rw [h1.1, hL]; exact X.2.2.1) X.2.2.2.2.1 (hts _ hw) (hts _ hst) (hts _ hini) (hts _ hcode) (by omega) (by omega) r1 r2 hd ?_
    have key := kk H ls locs h1 (so_Tc (so_k0 (so_if32 ha hb).1) (so_Tt (so_Tt h2))) h3
    have e1 : (if Int32.ofInt a < Int32.ofInt b then Int32.ofInt b else Int32.ofInt a) = Int32.ofInt (mx_max a b) := by
      unfold mx_max
      by_cases w : a < b
      · rw [if_pos w, if_pos ((so_lt32 ha hb).mpr w)]
      · rw [if_neg w, if_neg (fun z => w ((so_lt32 ha hb).mp z))]
    rw [e1]; exact key
  · rw [if_neg q]; exact trivial
theorem ok_mmin {i0 : Nat} (hd : decode (mb_ M) pc = .ok (.invokestatic i0, 3)) (hw : Cond.methodLink (my_ M).cls i0 Lib.Math.min.name ∈ tb_g) (hst : Cond.static Lib.Math.min.name ∈ tb_g) (hini : Cond.initialized "java/lang/Math" ∈ tb_g) (hcode : Cond.code Lib.Math.min.name Lib.Math.min.code 2 (some .int) ∈ tb_g) : ok_S M pc (sf_m2 mx_min (pc + 3)) := by
  intro B ga gq D K gS gh p l e R s m args below meth c d X Q n0 L st S h n hn hL
  rcases st with _ | ⟨⟨_ | _, b⟩, _ | ⟨⟨_ | _, a⟩, st⟩⟩ <;> try exact trivial
  unfold sf_m2
  simp only []
  by_cases q : st.length ≤ 4
  · rw [if_pos q]
    refine ⟨Int.le_refl _, rfl, fun r1 r2 kk H ls locs h1 h2 h3 => ?_⟩
    have ha := so_0c (so_Th (so_Tt h2))
    have hb := so_0c (so_Th h2)
    have hts := X.2.2.2.2.2.1
    have hcat := so_st4 (B := B) (ga := ga) (gq := gq) q
    have hlo := X.2.2.2.2.2.2.2.2.2.2.2.2
    have hfr := X.2.2.2.2.2.2.2.2.2.2.2.1
    refine va_mmin X.1 X.2.1 (by rw [h1.1, hL]; exact X.2.2.1) X.2.2.2.2.1 (hts _ hw) (hts _ hst) (hts _ hini) (hts _ hcode) (by omega) (by omega) r1 r2 hd ?_
    have key := kk H ls locs h1 (so_Tc (so_k0 (so_if32 ha hb).2) (so_Tt (so_Tt h2))) h3
    have e1 : (if Int32.ofInt b < Int32.ofInt a then Int32.ofInt b else Int32.ofInt a) = Int32.ofInt (mx_min a b) := by
      unfold mx_min
      by_cases w : b < a
      · rw [if_pos w, if_pos ((so_lt32 hb ha).mpr w)]
      · rw [if_neg w, if_neg (fun z => w ((so_lt32 hb ha).mp z))]
    rw [e1]; exact key
  · rw [if_neg q]; exact trivial
theorem ok_mmaxl {i0 : Nat} (hd : decode (mb_ M) pc = .ok (.invokestatic i0, 3)) (hw : Cond.methodLink (my_ M).cls i0 Lib.MathLoose.max_long.x ∈ tb_g) (hst : Cond.static Lib.MathLoose.max_long.x ∈ tb_g) (hini : Cond.initialized "java/lang/Math" ∈ tb_g) (hcode : Cond.code Lib.MathLoose.max_long.x Lib.MathLoose.max_long.code 4 (some .long) ∈ tb_g) : ok_S M pc (sf_ml ml_max (pc + 3)) := by
  intro B ga gq D K gS gh p l e R s m args below meth c d X Q n0 L st S h n hn hL
  rcases st with _ | ⟨⟨_ | _ | _, b⟩, _ | ⟨⟨_ | _ | _, a⟩, st⟩⟩ <;> try exact trivial
  unfold sf_ml
  simp only []
  by_cases q : st.length ≤ 4
  · rw [if_pos q]
    refine ⟨Int.le_refl _, rfl, fun r1 r2 kk H ls locs h1 h2 h3 => ?_⟩
    have ha := so_1c (so_Th (so_Tt h2))
    have hb := so_1c (so_Th h2)
    have hts := X.2.2.2.2.2.1
    have hcat := so_st4 (B := B) (ga := ga) (gq := gq) q
    have hlo := X.2.2.2.2.2.2.2.2.2.2.2.2
    have hfr := X.2.2.2.2.2.2.2.2.2.2.2.1
    refine va_mmax_long X.1 X.2.1 (by rw [h1.1, hL]; exact X.2.2.1) X.2.2.2.2.1 (hts _ hw) (hts _ hst) (hts _ hini) (hts _ hcode) (by omega) (by omega) r1 r2 hd ?_
    have key := kk H ls locs h1 (so_Tc (so_k1 (so_if64 ha hb).1) (so_Tt (so_Tt h2))) h3
    have e1 : (if Int64.ofInt b < Int64.ofInt a then Int64.ofInt a else Int64.ofInt b) = Int64.ofInt (ml_max a b) := by
      unfold ml_max
      by_cases w : b < a
      · rw [if_pos w, if_pos ((so_lt64 hb ha).mpr w)]
      · rw [if_neg w, if_neg (fun z => w ((so_lt64 hb ha).mp z))]
    rw [e1]; exact key
  · rw [if_neg q]; exact trivial
theorem ok_mminl {i0 : Nat} (hd : decode (mb_ M) pc = .ok (.invokestatic i0, 3)) (hw : Cond.methodLink (my_ M).cls i0 Lib.MathLoose.min_long.x ∈ tb_g) (hst : Cond.static Lib.MathLoose.min_long.x ∈ tb_g) (hini : Cond.initialized "java/lang/Math" ∈ tb_g) (hcode : Cond.code Lib.MathLoose.min_long.x Lib.MathLoose.min_long.code 4 (some .long) ∈ tb_g) : ok_S M pc (sf_ml ml_min (pc + 3)) := by
  intro B ga gq D K gS gh p l e R s m args below meth c d X Q n0 L st S h n hn hL
  rcases st with _ | ⟨⟨_ | _ | _, b⟩, _ | ⟨⟨_ | _ | _, a⟩, st⟩⟩ <;> try exact trivial
  unfold sf_ml
  simp only []
  by_cases q : st.length ≤ 4
  · rw [if_pos q]
    refine ⟨Int.le_refl _, rfl, fun r1 r2 kk H ls locs h1 h2 h3 => ?_⟩
    have ha := so_1c (so_Th (so_Tt h2))
    have hb := so_1c (so_Th h2)
    have hts := X.2.2.2.2.2.1
    have hcat := so_st4 (B := B) (ga := ga) (gq := gq) q
    have hlo := X.2.2.2.2.2.2.2.2.2.2.2.2
    have hfr := X.2.2.2.2.2.2.2.2.2.2.2.1
    refine va_mmin_long X.1 X.2.1 (by rw [h1.1, hL]; exact X.2.2.1) X.2.2.2.2.1 (hts _ hw) (hts _ hst) (hts _ hini) (hts _ hcode) (by omega) (by omega) r1 r2 hd ?_
    have key := kk H ls locs h1 (so_Tc (so_k1 (so_if64 ha hb).2) (so_Tt (so_Tt h2))) h3
    have e1 : (if Int64.ofInt b < Int64.ofInt a then Int64.ofInt b else Int64.ofInt a) = Int64.ofInt (ml_min a b) := by
      unfold ml_min
      by_cases w : b < a
      · rw [if_pos w, if_pos ((so_lt64 hb ha).mpr w)]
      · rw [if_neg w, if_neg (fun z => w ((so_lt64 hb ha).mp z))]
    rw [e1]; exact key
  · rw [if_neg q]; exact trivial
end
