/-! Rows of references written, copies, kinds, longs in locals, texts -/
theorem so_rd {B : Nat} {ga : Int → Nat} {D : va_G} {K : Nat → ClassId} {gS gh : mx_H} {s : State} {S h : mx_H} {n v : Int} {H : Heap} {locs : List Loc} (I : so_I B ga D K gS gh s S h n H locs) (h0 : 0 ≤ v) (h1 : v < n) (b1 : 1 ≤ S v (-2)) (b2 : S v (-2) ≤ 13) (hK : va_K D vwCl (so_ty K) s) : ∃ (q : vw_C) (cell : Cell), vwCl[so_ci (S v (-2))]? = some q ∧ H[so_ad B ga v]? = some cell ∧ cell.vm = .none ∧ s.vm.findClass q.1 = some cell.cls ∧ ClassAt s q.1 cell.cls := by
  have hat := so_Pa I h0 h1
  rw [so_Eo b1 b2] at hat
  obtain ⟨q, hq, cell, c1, c2, c3, -⟩ := hat
  have := (hK.1 _ _ hq).2
  rw [← c2] at this
  exact ⟨q, cell, hq, c1, c3, this.1, this⟩
section
variable {M pc : Nat}
/-- what may lie in a row of C -/
def so_A (lo hi : Int) (C : String) : Prop := 1 ≤ lo ∧ hi ≤ 13 ∧ ∀ t : Int, lo ≤ t → t ≤ hi → ∀ q : vw_C, vwCl[so_ci t]? = some q → q.1 = C ∨ Cond.castable q.1 C ∈ so_nw
theorem ok_aast {tag lo hi : Int} {C : String} (ht : (tag = 22 ∧ C = "RoomNumbers$Note") ∨ (tag = 23 ∧ C = "RoomNumbers$SheetRow")) (hA : so_A lo hi C) (hd : decode (mb_ M) pc = .ok (.aastore, 1)) : ok_S M pc (sf_aast tag lo hi (pc + 1)) := by
  intro B ga gq D K gS gh p l e R s m args below meth c d X Q n0 L st S h n hn hL
  rcases st with _ | ⟨⟨_ | _ | _ | _, v⟩, _ | ⟨⟨_ | _, i⟩, _ | ⟨⟨_ | _ | _ | _, a⟩, st⟩⟩⟩ <;> try exact trivial
  unfold sf_aast
  simp only []
  by_cases q : S a (-2) = tag ∧ 0 ≤ i ∧ i < S a (-1) ∧ (v = -1 ∨ lo ≤ S v (-2) ∧ S v (-2) ≤ hi)
  · rw [if_pos q]
    refine ⟨Int.le_refl _, rfl, fun _ _ kk H ls locs h1 h2 h3 => ?_⟩
    obtain ⟨q1, q2, q3, q4⟩ := q
    have hG := X.2.2.2.2.2.2.2.2.2.1
    have hK := X.2.2.2.2.2.2.1
    obtain ⟨l1, l2⟩ := h3.2.2.2.2.2.2.2.2 a (by omega)
    have hin := so_in q2 q3 (by omega)
    have ei : (Int32.ofInt i).toNatClampNeg = i.toNat := so_nn q2 (by omega)
    obtain ⟨a0, a1⟩ := so_own (a := a) h3 hG (by omega) (by omega)
    have hlt : (Int32.ofInt i).toNatClampNeg < (S a (-1)).toNat := by omega
    have hneg : ¬ Int32.ofInt i < 0 := fun z => hin (Or.inl z)
    show W p l e R s m args below meth c H locs _ _ Q (F0 m pc ls (va_rf (so_r B ga v) :: .int (Int32.ofInt i) :: va_rf (so_r B ga a) :: _))
    rw [so_rr (a := a) (by omega)]
    obtain ⟨t0, hE, hT⟩ : ∃ t0 : Nat, so_E B ga K S h a = .inl (K t0, (S a (-1)).toNat, .inr (.inr (.inr (.inr fun j => so_r B ga (S a j))))) ∧ (so_ty K)[t0]? = some (K t0, .object C) := by
      rcases ht with ⟨rfl, rfl⟩ | ⟨rfl, rfl⟩
      · exact ⟨2, so_E22 q1, rfl⟩
      · exact ⟨3, so_E23 q1, rfl⟩
    have hE' : so_E B ga K (mx_u S a i v) h a = .inl (K t0, (S a (-1)).toNat, .inr (.inr (.inr (.inr fun j => so_r B ga (mx_u S a i v a j))))) := by
      have e2 : mx_u S a i v a (-2) = S a (-2) := by rw [so_u_in, if_neg (by omega)]
      have e1 : mx_u S a i v a (-1) = S a (-1) := by rw [so_u_in, if_neg (by omega)]
      have hz : t0 = (tag - 20).toNat := by
        rcases ht with ⟨rfl, rfl⟩ | ⟨rfl, rfl⟩
        · rw [so_E22 q1] at hE
          have := (hK.2 2 _ rfl).2
          rcases t0 with _ | _ | _ | _ | t0
          · cases hT
          · cases hT
          · rfl
          · simp at hT
          · simp at hT
        · rw [so_E23 q1] at hE
          rcases t0 with _ | _ | _ | _ | t0
          · cases hT
          · cases hT
          · simp at hT
          · rfl
          · simp at hT
      rcases ht with ⟨rfl, rfl⟩ | ⟨rfl, rfl⟩
      · subst hz; rw [so_E22 (by rw [e2]; exact q1), e1]; rfl
      · subst hz; rw [so_E23 (by rw [e2]; exact q1), e1]; rfl
    have hat := so_Pa h3 a0 a1
    rw [hE] at hat
    have hat : H[so_ad B ga a]? = some (arrV (K t0) (S a (-1)).toNat (fun j => va_rf (so_r B ga (S a j)))) := hat
    have fin : ∀ H1 : Heap, H1[so_ad B ga a]? = some ((arrV (K t0) (S a (-1)).toNat (fun j => va_rf (so_r B ga (S a j)))).setSlot (Int32.ofInt i).toNatClampNeg (va_rf (so_r B ga v))) → H1.size = H.size → (∀ q, q ≠ so_ad B ga a → H1[q]? = H[q]?) → W p l e R s m args below meth c H1 (locs ++ [⟨so_ad B ga a, (Int32.ofInt i).toNatClampNeg⟩]) (n - n0).toNat (300 * (n - n0).toNat) Q (F0 m (pc + 1) ls (st.map (so_v B ga gq))) := by
      intro H1 w1 w2 w3
      refine kk H1 ls _ h1 (so_Tt (so_Tt (so_Tt h2))) (so_upd h3 a0 a1 w2 w3 ?_ (fun b hb => ⟨so_u_ne hb, rfl⟩) (by rw [so_u_in, if_neg (by omega)]) (by rw [so_u_in, if_neg (by omega)]) (h3.2.2.2.2.2.1 a) (fun z j => h3.2.2.2.2.2.2.1 a j z))
      rw [hE']
      show H1[so_ad B ga a]? = some (vp_cell _ _)
      rw [w1, vp_cell_q, arrV_store, ei]
      congr 2
      funext j
      unfold updV
      rw [so_u_in]
      by_cases z : j = i.toNat
      · rw [if_pos z, if_pos (by omega)]
      · rw [if_neg z, if_neg (by omega)]
    rcases q4 with q4 | ⟨q4, q5⟩
    · subst q4
      have e0 : va_rf (so_r B ga (-1)) = .null := rfl
      rw [e0] at fin ⊢
      exact va_WaastN (C := C) X.1 X.2.1 hat ((hK.2 t0 _ hT).1 _ _) (fun q => by cases q) (by rw [arrV_size]; exact hin) rfl rfl hd fin
    · obtain ⟨A1, A2, A3⟩ := hA
      obtain ⟨v0, v1⟩ := so_own (a := v) h3 hG (by omega) (by omega)
      rw [so_rr (a := v) (by omega)] at fin ⊢
      obtain ⟨qc, cv, k1, k2, k3, k4, k5⟩ := so_rd h3 v0 v1 (by omega) (by omega) hK
      obtain ⟨kA, comp, r1, r2, r3, -⟩ := (hK.2 t0 _ hT).2
      obtain ⟨-, kv, hkv, hko⟩ := k5
      have hasg : s.vm.assignable cv.cls comp = true := by
        rcases A3 _ q4 q5 qc k1 with w | w
        · rw [w] at k4
          cases r3.symm.trans k4
          exact va_assign (C := C) (by rw [← w]; exact ⟨by rw [w]; exact k4, kv, hkv, hko⟩)
        · obtain ⟨c0, t1, f1, f2, f3⟩ := Cond.castable_spec (va_Nw.use (A := args) rfl (hG.2.2.2.2.2.2.2.2.2.1 _ w))
          cases k4.symm.trans f1
          cases r3.symm.trans f2
          exact f3
      obtain ⟨kc, hkc⟩ : ∃ kc, s.vm.classes[comp]? = some kc := by
        obtain ⟨ks, hks, -⟩ := Vm.findClass_spec r3
        exact ⟨ks, hks⟩
      exact W.aast X.1 X.2.1 hat (fun q h => by cases h) (fun h => by cases h) r1 r2 rfl hkc ⟨hneg, by rw [arrV_size]; exact hlt⟩ k2 (fun q h => by rw [k3] at h; cases h) hkv hasg rfl rfl hd fin
  · rw [if_neg q]; exact trivial
end
