/-! PRINTED in part (gen_law.py): the law out of the machine's run -/
theorem st_K {args : Array Value} {s : State} (hts : ∀ w ∈ tb_g, w.before args s = true) (hn : va_AO "RoomNumbers$Note" s) (hr : va_AO "RoomNumbers$SheetRow" s) : ∃ (D : va_G) (K : Nat → ClassId), va_K D vwCl (so_ty K) s := by
  obtain ⟨c0, i0, k0⟩ := u_known hts in_X0 (hts _ tw_440)
  obtain ⟨c1, i1, k1⟩ := u_known hts in_X1 (hts _ tw_473)
  obtain ⟨c2, i2, k2⟩ := u_known hts in_X2 (hts _ tw_31)
  obtain ⟨c3, i3, k3⟩ := u_known hts in_X3 (hts _ tw_451)
  obtain ⟨c4, i4, k4⟩ := u_known hts in_X4 (hts _ tw_483)
  obtain ⟨c5, i5, k5⟩ := u_known hts in_X5 (hts _ tw_938)
  obtain ⟨c6, i6, k6⟩ := u_known hts in_X6 (hts _ tw_389)
  obtain ⟨c7, i7, k7⟩ := u_known hts in_X7 (hts _ tw_139)
  obtain ⟨c8, i8, k8⟩ := u_known hts in_X8 (hts _ tw_176)
  obtain ⟨c9, i9, k9⟩ := u_known hts in_X9 (hts _ tw_462)
  obtain ⟨c10, i10, k10⟩ := u_known hts in_X10 (hts _ tw_37)
  obtain ⟨c11, i11, k11⟩ := u_known hts in_X11 (hts _ tw_23)
  obtain ⟨c12, i12, k12⟩ := u_known hts in_X12 (hts _ tw_1117)
  obtain ⟨a0, ka0, m0, f0, g0, h0⟩ := Cond.arrayClass_spec (hts _ tw_81)
  obtain ⟨a1, ka1, m1, f1, g1, h1⟩ := Cond.arrayClass_spec (hts _ tw_204)
  obtain ⟨m2, a2, ka2, e2, -, g2, h2, f2⟩ := Cond.arrayOver_spec hn
  obtain ⟨m3, a3, ka3, e3, -, g3, h3, f3⟩ := Cond.arrayOver_spec hr
  refine ⟨(fun k => match k with | 0 => c0 | 1 => c1 | 2 => c2 | 3 => c3 | 4 => c4 | 5 => c5 | 6 => c6 | 7 => c7 | 8 => c8 | 9 => c9 | 10 => c10 | 11 => c11 | _ => c12, fun k => match k with | 0 => i0 | 1 => i1 | 2 => i2 | 3 => i3 | 4 => i4 | 5 => i5 | 6 => i6 | 7 => i7 | 8 => i8 | 9 => i9 | 10 => i10 | 11 => i11 | _ => i12), fun k => match k with | 0 => a0 | 1 => a1 | 2 => a2 | _ => a3, ?_, ?_⟩
  · intro c q hq
    match c, hq with
    | 0, hq => cases hq; exact k0
    | 1, hq => cases hq; exact k1
    | 2, hq => cases hq; exact k2
    | 3, hq => cases hq; exact k3
    | 4, hq => cases hq; exact k4
    | 5, hq => cases hq; exact k5
    | 6, hq => cases hq; exact k6
    | 7, hq => cases hq; exact k7
    | 8, hq => cases hq; exact k8
    | 9, hq => cases hq; exact k9
    | 10, hq => cases hq; exact k10
    | 11, hq => cases hq; exact k11
    | 12, hq => cases hq; exact k12
    | c + 13, hq => exact absurd hq (by simp)
  · intro k q hq
    match k, hq with
    | 0, hq => cases hq; exact ⟨fun n z => ⟨fun k h => (by cases h), ka0, g0, m0, h0⟩, f0⟩
    | 1, hq => cases hq; exact ⟨fun n z => ⟨fun k h => (by cases h), ka1, g1, m1, h1⟩, f1⟩
    | 2, hq => cases hq; exact ⟨fun n z => ⟨fun k h => (by cases h), ka2, g2, m2, h2⟩, ⟨ka2, m2, g2, h2, e2, f2⟩⟩
    | 3, hq => cases hq; exact ⟨fun n z => ⟨fun k h => (by cases h), ka3, g3, m3, h3⟩, ⟨ka3, m3, g3, h3, e3, f3⟩⟩
    | k + 4, hq => exact absurd hq (by simp)
theorem st_bt : ∀ k, k < 24 → ∀ b ∈ (st_en k).2.2, b < 128 := by decide +kernel
theorem st_ln : ∀ k, k < 24 → (st_en k).2.2.length ≤ 8 := by decide +kernel
theorem st_c1 : ∀ v ∈ st_1, -1 ≤ v ∧ v ≤ 2 := by decide
theorem st_c2 : ∀ v ∈ st_2, -1 ≤ v ∧ v ≤ 2 := by decide
theorem st_gd {l : List Int} (h : ∀ v ∈ l, -1 ≤ v ∧ v ≤ 2) (j : Nat) : -1 ≤ l.getD j 0 ∧ l.getD j 0 ≤ 2 := by
  rw [List.getD_eq_getElem?_getD]
  cases q : l[j]? with
  | none => exact ⟨by decide, by decide⟩
  | some v => exact h v (List.mem_of_getElem? q)
theorem st_32 (xs : Nat → Int32) (a j : Int) : so_c32 (st_gh xs a j) := by
  unfold st_gh
  split
  · exact so_t32 _
  · split
    · have := st_gd st_c1 j.toNat; exact ⟨by omega, by omega⟩
    · split
      · have := st_gd st_c2 j.toNat; exact ⟨by omega, by omega⟩
      · split
        · rename_i h
          have hb : ((st_en (-40 - a).toNat).2.2.getD j.toNat 0) < 128 := by
            rw [List.getD_eq_getElem?_getD]
            cases q : (st_en (-40 - a).toNat).2.2[j.toNat]? with
            | none => decide
            | some v => exact st_bt _ (by omega) v (List.mem_of_getElem? q)
          exact ⟨by omega, by omega⟩
        · exact ⟨by decide, by decide⟩
theorem st_tag (L : Nat) (a : Int) : (st_gS L a (-2) = 24 ∧ (a = -2 ∨ a = -3 ∨ a = -4)) ∨ (st_gS L a (-2) = 30 ∧ -33 ≤ a ∧ a ≤ -10) ∨ (st_gS L a (-2) = 25 ∧ -63 ≤ a ∧ a ≤ -40) ∨ (st_gS L a (-2) = 0 ∧ (a = -1 ∨ ¬ a = -2)) := by
  unfold st_gS
  by_cases h1 : a = -2
  · subst h1; exact Or.inl ⟨rfl, Or.inl rfl⟩
  · rw [if_neg h1]
    by_cases h2 : a = -3 ∨ a = -4
    · rw [if_pos h2]; exact Or.inl ⟨rfl, by omega⟩
    · rw [if_neg h2]
      by_cases h3 : -33 ≤ a ∧ a ≤ -10
      · rw [if_pos h3]; exact Or.inr (Or.inl ⟨rfl, h3⟩)
      · rw [if_neg h3]
        by_cases h4 : -63 ≤ a ∧ a ≤ -40
        · rw [if_pos h4]; exact Or.inr (Or.inr (Or.inl ⟨rfl, h4⟩))
        · rw [if_neg h4]; exact Or.inr (Or.inr (Or.inr ⟨rfl, by omega⟩))
theorem st_len (L : Nat) (hL : L ≤ 3072) (a : Int) (h : 20 ≤ st_gS L a (-2)) : 0 ≤ st_gS L a (-1) ∧ st_gS L a (-1) ≤ 3072 := by
  unfold st_gS at h ⊢
  by_cases h1 : a = -2
  · rw [if_pos h1]; show 0 ≤ (L : Int) ∧ (L : Int) ≤ 3072; omega
  · rw [if_neg h1] at h ⊢
    by_cases h2 : a = -3 ∨ a = -4
    · rw [if_pos h2]; decide
    · rw [if_neg h2] at h ⊢
      by_cases h3 : -33 ≤ a ∧ a ≤ -10
      · rw [if_pos h3]; show (0 : Int) ≤ 0 ∧ (0 : Int) ≤ 3072; decide
      · rw [if_neg h3] at h ⊢
        by_cases h4 : -63 ≤ a ∧ a ≤ -40
        · rw [if_pos h4]
          have := st_ln (-40 - a).toNat (by omega)
          show 0 ≤ (((st_en (-40 - a).toNat).2.2.length : Nat) : Int) ∧ (((st_en (-40 - a).toNat).2.2.length : Nat) : Int) ≤ 3072
          omega
        · rw [if_neg h4] at h; exact absurd h (by decide)
set_option maxHeartbeats 1000000 in
/-- at the law's entry -/
theorem st_ctx {p : Program} {s : State} {m : MethodId} {meth : Method} {c : Code} {b L : Nat} {xs : Nat → Int32} (C0 : lw_At p s m meth c b L xs) : ∃ (ga : Int → Nat) (gq : Value) (D : va_G) (K : Nat → ClassId), ga (-2) = b ∧ so_X s.heap.size ga gq D K (st_gS L) (st_gh xs) p room_1 s m #[.ref b] meth c 257 100 := by
  obtain ⟨hx, hb, hr, hml, hown, ht, hX, hbl, hlk, hgv⟩ := C0
  have hs : ∀ c ∈ st_fl, c.before #[Value.ref b] s = true := flat_of_before _ hgv
  have hA : ∀ a : Nat, a < s.heap.size → ¬ (fun q => s.heap.size ≤ q) a := fun a h => Nat.not_le.mpr h
  have hts : ∀ w ∈ tb_g, w.before #[Value.ref b] s = true := fun w h => ht w (List.mem_filter.mp h).1
  have hn : va_AO "RoomNumbers$Note" s := va_AO.of (ht _ tw_43)
  have hsr : va_AO "RoomNumbers$SheetRow" s := va_AO.of (ht _ tw_174)
  obtain ⟨D, K, hK⟩ := st_K hts hn hsr
  obtain ⟨f, hf⟩ := st_all hA hs
  obtain ⟨t1, z1, T1⟩ := st_r1 hA ht hs
  obtain ⟨t2, z2, T2⟩ := st_r2 hA ht hs
  obtain ⟨gq, hq1, hq2⟩ : ∃ gq : Value, va_Z "jdk/internal/util/Preconditions" "SIOOBE_FORMATTER" "Ljava/util/function/BiFunction;" gq (fun q => s.heap.size ≤ q) s s.heap ∧ gq.category = 1 := by
    rcases st_si hA ht hs with h | ⟨t, h⟩
    · exact ⟨_, h, rfl⟩
    · exact ⟨_, h, rfl⟩
  obtain ⟨ga, hga⟩ : ∃ ga : Int → Nat, ga = fun a => if a = -2 then b else if a = -3 then t1 else if a = -4 then t2 else if -33 ≤ a ∧ a ≤ -10 then (f (-10 - a).toNat).1 else (f (-40 - a).toNat).2 := ⟨_, rfl⟩
  have g2 : ga (-2) = b := by rw [hga]; rfl
  have g3 : ga (-3) = t1 := by rw [hga]; rfl
  have g4 : ga (-4) = t2 := by rw [hga]; rfl
  have gk : ∀ a : Int, -33 ≤ a → a ≤ -10 → ga a = (f (-10 - a).toNat).1 := by
    intro a q1 q2
    rw [hga]
    show (if a = -2 then b else if a = -3 then t1 else if a = -4 then t2 else if -33 ≤ a ∧ a ≤ -10 then (f (-10 - a).toNat).1 else (f (-40 - a).toNat).2) = _
    rw [if_neg (by omega), if_neg (by omega), if_neg (by omega), if_pos ⟨q1, q2⟩]
  have gv : ∀ a : Int, -63 ≤ a → a ≤ -40 → ga a = (f (-40 - a).toNat).2 := by
    intro a q1 q2
    rw [hga]
    show (if a = -2 then b else if a = -3 then t1 else if a = -4 then t2 else if -33 ≤ a ∧ a ≤ -10 then (f (-10 - a).toNat).1 else (f (-40 - a).toNat).2) = _
    rw [if_neg (by omega), if_neg (by omega), if_neg (by omega), if_neg (by omega)]
  refine ⟨ga, gq, D, K, g2, hx, hb, hml, hr, hown, hts, hK, hlk, fun z => absurd z (by decide), ?_, Nat.le_refl _, by decide, by decide⟩
  refine ⟨fun a ha => ?_, fun a ha => ?_, fun a ha => ?_, fun a ha => ?_, ?_, ?_, st_cs hA ht hs, hq1, ?_, st_nw ht, st_nc hs, hn, hsr, hq2⟩
  · rcases st_tag L a with ⟨h, h2⟩ | ⟨h, h2, h3⟩ | ⟨h, h2, h3⟩ | ⟨h, h2⟩ <;> rw [h] <;> refine ⟨by omega, fun z => by omega⟩
  · rcases st_tag L a with ⟨h, h2⟩ | ⟨h, h2, h3⟩ | ⟨h, h2, h3⟩ | ⟨h, h2⟩
    · rcases h2 with rfl | rfl | rfl
      · rw [g2]
        obtain ⟨scr, w1, w2, w3, w4, w5⟩ := hX
        have e1 : (st_gS L (-2) (-1)).toNat = L := rfl
        rw [e1]
        refine ⟨scr, w1, w2, w3, by omega, by rw [w4], fun j hj => ?_, hA b hbl⟩
        rw [w5 j hj]
        show some (Value.int (xs j)) = some (Value.int (Int32.ofInt (xs ((j : Int)).toNat).toInt))
        rw [Int32.ofInt_toInt]; rfl
      · rw [g3]; exact T1
      · rw [g4]; exact T2
    · omega
    · omega
    · omega
  · rcases st_tag L a with ⟨h, h2⟩ | ⟨h, h2, h3⟩ | ⟨h, h2, h3⟩ | ⟨h, h2⟩
    · omega
    · omega
    · have hk := hf (-40 - a).toNat (by omega)
      rw [gv a h2 h3]
      have e1 : st_gS L a (-1) = ((st_en (-40 - a).toNat).2.2.length : Int) := by
        unfold st_gS; rw [if_neg (by omega), if_neg (by omega), if_neg (by omega), if_pos ⟨h2, h3⟩]; rfl
      have e2 : (fun j : Nat => Value.int (Int32.ofInt (st_gh xs a (j : Int)))) = fun j => Value.int (Int32.ofInt ((st_en (-40 - a).toNat).2.2.getD j 0 : Nat)) := by
        funext j
        unfold st_gh
        rw [if_neg (by omega), if_neg (by omega), if_neg (by omega), if_pos ⟨h2, h3⟩]; rfl
      rw [e1, e2]
      exact hk.2.2.2.2
    · omega
  · rcases st_tag L a with ⟨h, h2⟩ | ⟨h, h2, h3⟩ | ⟨h, h2, h3⟩ | ⟨h, h2⟩
    · omega
    · have hk := hf (-10 - a).toNat (by omega)
      rw [gk a h2 h3]
      have e1 : st_gS L a 0 = a - 30 := by
        unfold st_gS; rw [if_neg (by omega), if_neg (by omega), if_pos ⟨h2, h3⟩]; rfl
      have e2 : st_gh xs a 1 = 0 := by
        unfold st_gh; rw [if_neg (by omega), if_neg (by omega), if_neg (by omega), if_neg (by omega)]
      have e3 : va_rf (so_r s.heap.size ga (a - 30)) = .ref (f (-10 - a).toNat).2 := by
        rw [so_rr (by omega), so_adn (by omega), gv (a - 30) (by omega) (by omega)]
        congr 3; omega
      rw [e1, e2, e3]
      exact ⟨hk.2.1, hk.2.2.1, hk.2.2.2.1⟩
    · omega
    · omega
  · rw [so_rr (by decide), so_adn (by decide), g3]; exact z1
  · rw [so_rr (by decide), so_adn (by decide), g4]; exact z2
  · refine st_sr ht (fun k hk => ?_)
    have h5 := (hf k hk).1
    rw [so_adn (by omega), gk _ (by omega) (by omega)]
    have e5 : (-10 - (-10 - (k : Int))).toNat = k := by omega
    rw [e5]
    exact h5
