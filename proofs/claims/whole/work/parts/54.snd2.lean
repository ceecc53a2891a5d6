/-! The induction -/
theorem so_lycat {B : Nat} {ga : Int → Nat} {gq : Value} (hq : gq.category = 1) {u : mx_V} (hk : so_k u) : (so_v B ga gq u).category = 2 ↔ u.1 = 1 := by
  rw [← so_cat (B := B) (ga := ga) hq hk, beq_iff_eq]
theorem so_lyw {B : Nat} {ga : Int → Nat} {gq : Value} (hq : gq.category = 1) : ∀ as : List mx_V, so_T as → (lg_sl (as.map (so_v B ga gq))).length = mx_wd (as.map Prod.fst)
  | [], _ => rfl
  | v :: as, h => by
    have ih := so_lyw (B := B) (ga := ga) hq as (so_Tt h)
    have hc := so_lycat (B := B) (ga := ga) hq (so_Th h)
    obtain ⟨t, x⟩ := v
    unfold lg_sl at ih ⊢
    rw [List.map_cons, List.flatMap_cons, List.length_append, ih, List.map_cons]
    match t, hc with
    | 0, hc => rw [if_neg (by rw [hc]; simp)]; rfl
    | 1, hc => rw [if_pos (by rw [hc])]; rfl
    | t + 2, hc => rw [if_neg (by rw [hc]; simp)]; rfl
theorem so_lyl : ∀ (as : List mx_V) (n : Nat), mx_wd (as.map Prod.fst) ≤ n → (mx_lay as n).length = n
  | [], n, _ => by simp [mx_lay]
  | (0, x) :: as, n, h => by
    have h : 1 + mx_wd (as.map Prod.fst) ≤ n := h
    show (some (0, x) :: mx_lay as (n - 1)).length = n
    rw [List.length_cons, so_lyl as (n - 1) (by omega)]; omega
  | (1, x) :: as, n, h => by
    have h : 2 + mx_wd (as.map Prod.fst) ≤ n := h
    show (some (1, x) :: none :: mx_lay as (n - 2)).length = n
    rw [List.length_cons, List.length_cons, so_lyl as (n - 2) (by omega)]; omega
  | (t + 2, x) :: as, n, h => by
    have h : 1 + mx_wd (as.map Prod.fst) ≤ n := h
    show (some (t + 2, x) :: mx_lay as (n - 1)).length = n
    rw [List.length_cons, so_lyl as (n - 1) (by omega)]; omega
theorem so_lyi {B : Nat} {ga : Int → Nat} {gq : Value} (hq : gq.category = 1) : ∀ (as : List mx_V) (n k i : Nat) (v : mx_V), so_T as → (mx_lay as n)[i]? = some (some v) → (k + i, so_v B ga gq v) ∈ lv_args k (as.map (so_v B ga gq)) ∧ so_k v
  | [], n, k, i, v, _, h => by
    exfalso
    have := List.eq_of_mem_replicate (List.mem_of_getElem? (show (List.replicate n (none : Option mx_V))[i]? = some (some v) from h))
    cases this
  | (t, x) :: as, n, k, i, v, hT, h => by
    have hc := so_lycat (B := B) (ga := ga) hq (so_Th hT)
    have one : t ≠ 1 → mx_lay ((t, x) :: as) n = some (t, x) :: mx_lay as (n - 1) := by
      intro ht
      match t, ht with
      | 0, _ => rfl
      | t + 2, _ => rfl
    by_cases ht : t = 1
    · subst ht
      have h : (some (1, x) :: none :: mx_lay as (n - 2))[i]? = some (some v) := h
      have e : (so_v B ga gq (1, x)).category = 2 := rfl
      rw [List.map_cons, lv_args, if_pos e]
      match i, h with
      | 0, h =>
        simp at h
        subst h
        exact ⟨List.mem_cons_self, so_Th hT⟩
      | 1, h => simp at h
      | i + 2, h =>
        simp at h
        obtain ⟨a, b⟩ := so_lyi hq as (n - 2) (k + 2) i v (so_Tt hT) h
        rw [show k + (i + 2) = k + 2 + i by omega]
        exact ⟨List.mem_cons_of_mem _ a, b⟩
    · rw [one ht] at h
      have e : ¬ (so_v B ga gq (t, x)).category = 2 := fun z => ht (hc.mp z)
      rw [List.map_cons, lv_args, if_neg e]
      cases i with
      | zero =>
        simp at h
        subst h
        exact ⟨List.mem_cons_self, so_Th hT⟩
      | succ i =>
        simp at h
        obtain ⟨a, b⟩ := so_lyi hq as (n - 1) (k + 1) i v (so_Tt hT) h
        rw [show k + (i + 1) = k + 1 + i by omega]
        exact ⟨List.mem_cons_of_mem _ a, b⟩
/-- the frame of a call -/
theorem so_lay {B : Nat} {ga : Int → Nat} {gq : Value} {as : List mx_V} {n : Nat} (hq : gq.category = 1) (hT : so_T as) (hw : mx_wd (as.map Prod.fst) ≤ n) : so_L B ga gq (mx_lay as n) ((lg_sl (as.map (so_v B ga gq)) ++ List.replicate (n - (lg_sl (as.map (so_v B ga gq))).length) Slot.unset).toArray) := by
  have hl := lv_entry (as.map (so_v B ga gq)) (n := n) (by rw [so_lyw hq as hT]; exact hw)
  refine ⟨by rw [so_lyl as n hw]; exact hl.1, hl.2.1, fun i v h => ?_⟩
  obtain ⟨a, b⟩ := so_lyi (B := B) (ga := ga) hq as n 0 i v hT h
  rw [Nat.zero_add] at a
  exact ⟨hl.2.2 _ a, b⟩
/-- what was so of the heap is so behind a call -/
theorem so_Icall {B : Nat} {ga : Int → Nat} {D : va_G} {K : Nat → ClassId} {gS gh : mx_H} {s st0 t : State} {S h S2 h2 : mx_H} {n n2 : Int} {H : Heap} {locs L : List Loc} (I : so_I B ga D K gS gh s S h n H locs) (h0 : st0.heap = H) (I2 : so_I B ga D K gS gh st0 S2 h2 n2 t.heap []) (hL : ∀ q ∈ L, B ≤ q.base) : so_I B ga D K gS gh s S2 h2 n2 t.heap (locs ++ L) := by
  obtain ⟨a1, a2, a3, a4, a5, a6, a7, a8, a9⟩ := I2
  have hS := I.2.2.2.1
  rw [h0] at a4
  refine ⟨a1, a2, a3, ⟨Nat.le_trans hS.1 a4.1, fun q q1 q2 => (a4.2.1 q (Nat.lt_of_lt_of_le q1 hS.1) q2).trans (hS.2.1 q q1 q2), fun q hq => ?_⟩, a5, a6, a7, a8, a9⟩
  rcases List.mem_append.mp hq with w | w
  · exact hS.2.2 q w
  · exact hL q w
theorem so_Istart {B : Nat} {ga : Int → Nat} {D : va_G} {K : Nat → ClassId} {gS gh : mx_H} {s U : State} {S h : mx_H} {n : Int} {H : Heap} {locs : List Loc} (I : so_I B ga D K gS gh s S h n H locs) (hU : U.heap = H) : so_I B ga D K gS gh U S h n U.heap [] := by
  obtain ⟨a1, a2, a3, a4, a5, a6, a7, a8, a9⟩ := I
  subst hU
  exact ⟨a1, a2, a3, ⟨Nat.le_refl _, fun _ _ _ => rfl, fun _ h => by cases h⟩, a5, a6, a7, a8, a9⟩
set_option maxHeartbeats 2000000 in
theorem so_snd (hok : ∀ M pc, ok_S M pc (mx_cd M pc)) (hmo : ∀ M pc, mo_S (mx_cd M pc)) : ∀ (f d M pc : Nat) (L : mx_L) (st : List mx_V) (S h : mx_H) (n : Int) (v : Option mx_V) (S1 h1 : mx_H) (n1 : Int), mx_rn mx_cd mx_ml f d M pc L st S h n = some (v, S1, h1, n1) →
    ∀ {B : Nat} {ga : Int → Nat} {gq : Value} {D : va_G} {K : Nat → ClassId} {gS gh : mx_H} {p : Program} {l : Launch} {e : Env} {R : Room} {s : State} {m : MethodId} {args : Array Value} {below : List Frame} {meth : Method} {c : Code}, so_X B ga gq D K gS gh p R s m args meth c M d → ∀ (n0 : Int), (n0 ≤ n ∧ 0 ≤ n0 ∧ s.heap.size = B + n0.toNat) → L.length = mx_ml M → (n1 - n0).toNat ≤ R.cells → 300 * (n1 - n0).toNat ≤ R.slots → ∀ (Q : State → Prop),
    (∀ (pcr : Nat) (Lr : mx_L) (str : List mx_V), mx_cd M pcr Lr str S1 h1 n1 = some (.inr (.inr v)) → Lr.length = mx_ml M → ∀ (H : Heap) (ls : Array Slot) (locs : List Loc), so_L B ga gq Lr ls → so_T str → so_I B ga D K gS gh s S1 h1 n1 H locs → W p l e R s m args below meth c H locs (n1 - n0).toNat (300 * (n1 - n0).toNat) Q (F0 m pcr ls (str.map (so_v B ga gq)))) →
    so_N B ga gq D K gS gh p l e R s m args below meth c Q n0 pc L st S h n := by
  intro f
  induction f with
  | zero => intro d M pc L st S h n v S1 h1 n1 hr; simp [mx_rn] at hr
  | succ f ih =>
    intro d M pc L st S h n v S1 h1 n1 hr B ga gq D K gS gh p l e R s m args below meth c X n0 hn hL r1 r2 Q hfin
    rw [mx_rn] at hr
    have hs := hok M pc B ga gq D K gS gh p l e R s m args below meth c d X Q n0 L st S h n hn hL
    cases ho : mx_cd M pc L st S h n with
    | none => rw [ho] at hr; cases hr
    | some o =>
      rw [ho] at hr hs
      cases o with
      | inl q =>
        obtain ⟨pc1, L1, st1, S2, h2, n2⟩ := q
        obtain ⟨a1, a2, a3⟩ := hs
        have hm := mo_rn hmo _ _ _ _ _ _ _ _ _ _ _ _ _ hr
        exact a3 (by omega) (by omega) (ih _ _ _ _ _ _ _ _ _ _ _ _ hr X n0 ⟨by omega, hn.2.1, hn.2.2⟩ (a2.trans hL) r1 r2 Q hfin)
      | inr o =>
        cases o with
        | inl q =>
          obtain ⟨y, as, pc1, L1, st1⟩ := q
          obtain ⟨a1, a2, a3, a4, a5, a6⟩ := hs
          subst a1; subst a2
          cases d with
          | zero => cases hr
          | succ d =>
            simp only at hr
            cases hc : mx_rn mx_cd mx_ml f d y 0 (mx_lay as (mx_ml y)) [] S h n with
            | none => rw [hc] at hr; cases hr
            | some q =>
              obtain ⟨v2, S2, h2, n2⟩ := q
              rw [hc] at hr
              have hm1 := mo_rn hmo _ _ _ _ _ _ _ _ _ _ _ _ _ hc
              have hm2 := mo_rn hmo _ _ _ _ _ _ _ _ _ _ _ _ _ hr
              intro H ls locs b1 b2 b3
              obtain ⟨t1, t2⟩ := a3 b2
              have hgc := so_gc X
              have hB := X.2.2.2.2.2.2.2.2.2.2.1
              have hn0 := b3.1
              have hcont := ih _ _ _ _ _ _ _ _ _ _ _ _ hr X n0 ⟨by omega, hn.2.1, hn.2.2⟩ hL r1 r2 Q hfin
              have hM : Met l (my_ y) (Cond.code (my_ y) (mb_ y) (mx_ml y) (mr_ y) :: tb_g) { frames := d + 1, cells := (n2 - n).toNat, slots := 300 * (n2 - n).toNat, locals := 60 * (d + 2) } (fun a U => a = (as.map (so_v B ga gq)).toArray ∧ so_I B ga D K gS gh U S h n U.heap [] ∧ va_K D vwCl (so_ty K) U ∧ so_G B ga gq gS gh U ∧ B ≤ U.heap.size) (fun _ st o t => o = .returned (v2.map (so_v B ga gq)) ∧ (∀ u, v2 = some u → so_k u) ∧ so_I B ga D K gS gh st S2 h2 n2 t.heap []) (n2 - n).toNat (300 * (n2 - n).toNat) (fun q => B ≤ q) := by
                refine Met.ofW (cc := mb_ y) (maxL := mx_ml y) (ret := mr_ y) a4.1 rfl ?_
                intro p' e' s' m' args' below' meth' c' s₁ B0 hml hv
                obtain ⟨rfl, hI, hK, hG, hBU⟩ := hv
                have hts0 := atoms_spec (ws := Cond.code (my_ y) (mb_ y) (mx_ml y) (mr_ y) :: tb_g) B0.pre
                have X2 : so_X B ga gq D K gS gh p' (headSpec (Cond.code (my_ y) (mb_ y) (mx_ml y) (mr_ y) :: tb_g) { frames := d + 1, cells := (n2 - n).toNat, slots := 300 * (n2 - n).toNat, locals := 60 * (d + 2) }).room s' m' (as.map (so_v B ga gq)).toArray meth' c' y d := ⟨B0.exec, B0.bytes, hml, B0.returns, findClass_of_methodNamed B0.named, fun w hw => hts0 w (List.mem_cons_of_mem _ hw), hK, B0.notSynchronized, fun hz => (name_of_methodNamed B0.named B0.method).1.trans hz, hG, hBU, Nat.le_refl _, Nat.le_refl _⟩
                have hmain := ih _ _ _ _ _ _ _ _ _ _ _ _ hc (l := l) (e := e') (below := below') X2 n ⟨Int.le_refl _, hn0, hI.2.1⟩ (so_lyl as _ a5) (Nat.le_refl _) (Nat.le_refl _) (MQ below' (fun _ st o t => o = .returned (v2.map (so_v B ga gq)) ∧ (∀ u, v2 = some u → so_k u) ∧ so_I B ga D K gS gh st S2 h2 n2 t.heap []) (as.map (so_v B ga gq)).toArray s' (n2 - n).toNat (300 * (n2 - n).toNat) (fun q => B ≤ q)) (by
                  intro pcr Lr str hcr hLr H' ls' locs' c1 c2 c3
                  have hs2 := hok y pcr B ga gq D K gS gh p' l e' _ s' m' _ below' meth' c' d X2 (fun _ => True) n Lr str S2 h2 n2 ⟨hm1, hn0, hI.2.1⟩ hLr
                  rw [hcr] at hs2
                  obtain ⟨d1, d2, d3⟩ := hs2
                  refine d3 H' ls' locs' _ _ _ _ c2 (fun t ht hW => ⟨rfl, d1 c2, ?_⟩) (fun q hq => c3.2.2.2.1.2.2 q hq)
                  obtain ⟨e1, e2, e3, e4, e5, e6, e7, e8, e9⟩ := c3
                  rw [ht]
                  exact ⟨e1, e2, e3, ⟨e4.1, e4.2.1, fun _ h => by cases h⟩, e5, e6, e7, e8, e9⟩)
                have := hmain s'.heap _ [] (so_lay hgc t1 a5) (fun _ h => by cases h) hI
                rw [Int.sub_self] at this
                rw [lg_entry_eq]
                exact this
              have hrun := a6 H ls locs (n - n0).toNat (300 * (n - n0).toNat) b1 b2 b3 _ _ _ _ _ _ hM rfl rfl (Nat.le_refl _) (Nat.le_refl _) (by
                  intro a U g mk q
                  obtain ⟨z1, z2, z3, z4, z5⟩ := q
                  refine ⟨z1, so_Istart z2 rfl, va_K.moved (u := U) (U := U.calling g mk a) (Vm.Alike.refl U.vm) z3, so_G_moved (locs := []) z4 ⟨Nat.le_refl _, fun _ _ _ => rfl, fun _ h => by cases h⟩ rfl ?_, z5⟩
                  exact State.WarmedH.refl U) (fun U hU hW => ⟨rfl, so_Istart b3 hU, va_K.moved hW.alike X.2.2.2.2.2.2.1, so_G_moved X.2.2.2.2.2.2.2.2.2.1 b3.2.2.2.1 hU hW, by rw [hU, b3.2.1]; exact Nat.le_add_right _ _⟩) (by omega) (by omega)
              intro T hT X0
              obtain ⟨v', st₀, t, T', L', e0, X', hL', e1, e2, ⟨hq1, hq2, hq3⟩, hgo⟩ := hrun T hT X0
              cases hq1
              have I2 := so_Icall b3 e0 hq3 hL'
              have k1 := hcont t.heap ls (locs ++ L') b1 (by
                intro u hu
                rcases List.mem_append.mp hu with w | w
                · cases v2 with
                  | none => cases w
                  | some u2 =>
                    have : u = u2 := by simpa using w
                    rw [this]; exact hq2 u2 rfl
                · exact t2 u w) I2
              have ec : (n - n0).toNat + (n2 - n).toNat = (n2 - n0).toNat := by omega
              have es : 300 * (n - n0).toNat + 300 * (n2 - n).toNat = 300 * (n2 - n0).toNat := by omega
              rw [ec, es] at X'
              obtain ⟨t3, y1, y2⟩ := k1 T' e1 X'
              refine ⟨t3, hgo t3 ?_, y2⟩
              have est : (v2.map (so_v B ga gq)).toList ++ st1.map (so_v B ga gq) = (v2.toList ++ st1).map (so_v B ga gq) := by cases v2 <;> simp
              rw [est]
              exact y1
        | inr u =>
          cases hr
          intro H ls locs b1 b2 b3
          exact hfin pc L st ho hL H ls locs b1 b2 b3
