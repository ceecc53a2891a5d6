/-! Steps that touch no cell -/
section
variable {M pc : Nat}
theorem so_Tc {v : mx_V} {st : List mx_V} (hv : so_k v) (h : so_T st) : so_T (v :: st) := fun u hu => (List.mem_cons.mp hu).elim (fun e => e ▸ hv) (h u)
theorem so_Tt {v : mx_V} {st : List mx_V} (h : so_T (v :: st)) : so_T st := fun u hu => h u (List.mem_cons_of_mem _ hu)
theorem so_Th {v : mx_V} {st : List mx_V} (h : so_T (v :: st)) : so_k v := h v List.mem_cons_self
theorem so_k0 {x : Int} (h : so_c32 x) : so_k (0, x) := ⟨fun _ => h, fun q => by simp at q, by simp⟩
theorem so_k1 {x : Int} (h : so_c64 x) : so_k (1, x) := ⟨fun q => by simp at q, fun _ => h, by simp⟩
theorem so_k2 {x : Int} : so_k (2, x) := ⟨fun q => by simp at q, fun q => by simp at q, by simp⟩
theorem so_k3 {x : Int} : so_k (3, x) := ⟨fun q => by simp at q, fun q => by simp at q, by simp⟩
theorem so_0c {x : Int} (h : so_k (0, x)) : so_c32 x := h.1 rfl
theorem so_1c {x : Int} (h : so_k (1, x)) : so_c64 x := h.2.1 rfl
theorem ok_push {u : mx_V} {pc1 : Nat} (hu : so_k u) (hw : ∀ {B : Nat} {ga : Int → Nat} {gq : Value} {D : va_G} {K : Nat → ClassId} {gS gh : mx_H} {p : Program} {l : Launch} {e : Env} {R : Room} {s : State} {m : MethodId} {args : Array Value} {below : List Frame} {meth : Method} {c : Code} {d : Nat} {Q : State → Prop} {H : Heap} {locs : List Loc} {cells slots : Nat} {ls : Array Slot} {rest : List Value}, so_X B ga gq D K gS gh p R s m args meth c M d → va_S (fun q => B ≤ q) s.heap H locs → W p l e R s m args below meth c H locs cells slots Q (F0 m pc1 ls (so_v B ga gq u :: rest)) → W p l e R s m args below meth c H locs cells slots Q (F0 m pc ls rest)) : ok_S M pc (sf_push u pc1) := by
  intro B ga gq D K gS gh p l e R s m args below meth c d X Q n0 L st S h n hn hL
  exact ⟨Int.le_refl _, rfl, fun _ _ k H ls locs h1 h2 h3 => hw X h3.2.2.2.1 (k H ls locs h1 (so_Tc hu h2) h3)⟩
theorem ok_iconst {n : Int} (hd : decode (mb_ M) pc = .ok (.iconst n, 1)) (h : so_c32 n) : ok_S M pc (sf_push (0, n) (pc + 1)) := ok_push (so_k0 h) fun X _ k => lv_iconst X.1 X.2.1 hd rfl k
theorem ok_bipush {n : Int} (hd : decode (mb_ M) pc = .ok (.bipush n, 2)) (h : so_c32 n) (hv : (Int8.ofInt n).toInt32 = Int32.ofInt n) : ok_S M pc (sf_push (0, n) (pc + 2)) := ok_push (so_k0 h) fun X _ k => lv_bipush X.1 X.2.1 hd hv k
theorem ok_sipush {n : Int} (hd : decode (mb_ M) pc = .ok (.sipush n, 3)) (h : so_c32 n) (hv : (Int16.ofInt n).toInt32 = Int32.ofInt n) : ok_S M pc (sf_push (0, n) (pc + 3)) := ok_push (so_k0 h) fun X _ k => lv_sipush X.1 X.2.1 hd hv k
theorem ok_lconst {n : Fin 2} {v : Int} (hd : decode (mb_ M) pc = .ok (.lconst n, 1)) (h : so_c64 v) (hv : Int64.ofNat (n : Nat) = Int64.ofInt v) : ok_S M pc (sf_push (1, v) (pc + 1)) := ok_push (so_k1 h) fun X _ k => lv_lconst X.1 X.2.1 hd hv k
theorem ok_ldc {i : Nat} {v : Int} (hd : decode (mb_ M) pc = .ok (.ldc i, 2)) (h : so_c32 v) (hw : Cond.constant (my_ M).cls i (Int32.ofInt v) ∈ tb_g) : ok_S M pc (sf_push (0, v) (pc + 2)) := ok_push (so_k0 h) fun X _ k => lv_ldc X.1 X.2.1 X.2.2.2.2.1 (X.2.2.2.2.2.1 _ hw) hd k
theorem ok_ldcw {i : Nat} {v : Int} (hd : decode (mb_ M) pc = .ok (.ldc_w i, 3)) (h : so_c32 v) (hw : Cond.constant (my_ M).cls i (Int32.ofInt v) ∈ tb_g) : ok_S M pc (sf_push (0, v) (pc + 3)) := ok_push (so_k0 h) fun X _ k => lv_ldcw X.1 X.2.1 X.2.2.2.2.1 (X.2.2.2.2.2.1 _ hw) hd k
theorem ok_ldc2 {i : Nat} {v : Int} (hd : decode (mb_ M) pc = .ok (.ldc2_w i, 3)) (h : so_c64 v) (hw : Cond.constantLong (my_ M).cls i (Int64.ofInt v) ∈ tb_g) : ok_S M pc (sf_push (1, v) (pc + 3)) := ok_push (so_k1 h) fun X _ k => lv_ldc2 X.1 X.2.1 X.2.2.2.2.1 (X.2.2.2.2.2.1 _ hw) hd k
theorem ok_ldcs {i : Nat} {tx : String} {a : Int} (hd : decode (mb_ M) pc = .ok (.ldc i, 2)) (ha : a ≤ -2) (hw : ((my_ M).cls, i, tx, a) ∈ so_sr) : ok_S M pc (sf_push (2, a) (pc + 2)) := ok_push so_k2 fun {B ga gq D K gS gh p l e R s m args below meth c d Q H locs cells slots ls rest} X _ k => by
  have h1 := X.2.2.2.2.2.2.2.2.2.1.2.2.2.2.2.2.2.2.1 _ hw
  refine va_ldcS X.1 X.2.1 X.2.2.2.2.1 h1 hd ?_
  have e1 : so_v B ga gq (2, a) = .ref (so_ad B ga a) := by
    show va_rf (so_r B ga a) = _
    unfold so_r; rw [if_neg (by omega)]; rfl
  rw [e1] at k
  exact k
theorem ok_null (hd : decode (mb_ M) pc = .ok (.aconst_null, 1)) : ok_S M pc (sf_push (2, -1) (pc + 1)) := ok_push so_k2 fun {B ga gq D K gS gh p l e R s m args below meth c d Q H locs cells slots ls rest} X _ k => by
  intro T hT X1
  obtain ⟨t, a, b⟩ := k T hT X1
  refine ⟨t, ?_, b⟩
  have hx := X.1
  have hb := X.2.1
  jvm_step X1.here [X1.here.top, hx, hb, hd]
  exact a
theorem ok_gst {i : Nat} {C nm ds : String} {u : mx_V} (hd : decode (mb_ M) pc = .ok (.getstatic i, 3)) (hu : so_k u) (hw : Cond.fieldLink (my_ M).cls i C nm ds ∈ tb_g) (hz : ∀ {B : Nat} {ga : Int → Nat} {gq : Value} {gS gh : mx_H} {s : State}, so_G B ga gq gS gh s → va_Z C nm ds (so_v B ga gq u) (fun q => B ≤ q) s s.heap) : ok_S M pc (sf_push u (pc + 3)) := ok_push hu fun X hS k => va_gets X.1 X.2.1 (hz X.2.2.2.2.2.2.2.2.2.1) hS X.2.2.2.2.1 (X.2.2.2.2.2.1 _ hw) (fun _ h => h) hd k
theorem ok_first {i : Nat} (hd : decode (mb_ M) pc = .ok (.getstatic i, 3)) (hw : Cond.fieldLink (my_ M).cls i "RoomNumbers$Finder" "FIRST" "[I" ∈ tb_g) : ok_S M pc (sf_push (2, -3) (pc + 3)) := ok_gst hd so_k2 hw fun G => G.2.2.2.2.1
theorem ok_second {i : Nat} (hd : decode (mb_ M) pc = .ok (.getstatic i, 3)) (hw : Cond.fieldLink (my_ M).cls i "RoomNumbers$Finder" "SECOND" "[I" ∈ tb_g) : ok_S M pc (sf_push (2, -4) (pc + 3)) := ok_gst hd so_k2 hw fun G => G.2.2.2.2.2.1
theorem ok_compact {i : Nat} (hd : decode (mb_ M) pc = .ok (.getstatic i, 3)) (hw : Cond.fieldLink (my_ M).cls i "java/lang/String" "COMPACT_STRINGS" "Z" ∈ tb_g) : ok_S M pc (sf_push (0, 1) (pc + 3)) := ok_gst hd (so_k0 ⟨by decide, by decide⟩) hw fun G => G.2.2.2.2.2.2.1
theorem ok_sioobe {i : Nat} (hd : decode (mb_ M) pc = .ok (.getstatic i, 3)) (hw : Cond.fieldLink (my_ M).cls i "jdk/internal/util/Preconditions" "SIOOBE_FORMATTER" "Ljava/util/function/BiFunction;" ∈ tb_g) : ok_S M pc (sf_push (3, 0) (pc + 3)) := ok_gst hd so_k3 hw fun G => G.2.2.2.2.2.2.2.1
theorem ok_ld {t k pc1 : Nat} (hw : ∀ {B : Nat} {ga : Int → Nat} {gq : Value} {p : Program} {l : Launch} {e : Env} {R : Room} {s : State} {m : MethodId} {args : Array Value} {below : List Frame} {meth : Method} {c : Code} {Q : State → Prop} {H : Heap} {locs : List Loc} {cells slots : Nat} {ls : Array Slot} {rest : List Value} {x : Int}, p.tables.exec = Jvm.exec → c.code = mb_ M → ls[k]? = some (.val (so_v B ga gq (t, x))) → W p l e R s m args below meth c H locs cells slots Q (F0 m pc1 ls (so_v B ga gq (t, x) :: rest)) → W p l e R s m args below meth c H locs cells slots Q (F0 m pc ls rest)) : ok_S M pc (sf_ld t k pc1) := by
  intro B ga gq D K gS gh p l e R s m args below meth c d X Q n0 L st S h n hn hL
  unfold sf_ld
  cases q : L[k]? with
  | none => exact trivial
  | some o =>
    cases o with
    | none => exact trivial
    | some v =>
      by_cases ht : v.1 = t
      · simp only [ht, if_true]
        obtain ⟨t1, x⟩ := v
        simp only at ht
        subst ht
        refine ⟨Int.le_refl _, rfl, fun _ _ kk H ls locs h1 h2 h3 => ?_⟩
        obtain ⟨e1, e2⟩ := h1.2.2 k _ q
        exact hw X.1 X.2.1 e1 (kk H ls locs h1 (so_Tc e2 h2) h3)
      · simp only [ht, if_false]
theorem ok_iload_n {k : Fin 4} {i : Nat} (hd : decode (mb_ M) pc = .ok (.iload_n k, 1)) (hi : (k : Nat) = i) : ok_S M pc (sf_ld 0 i (pc + 1)) := ok_ld fun hx hb hl k => lv_iload_n hx hb hd hi hl k
theorem ok_iload {i : Nat} (hd : decode (mb_ M) pc = .ok (.iload i, 2)) : ok_S M pc (sf_ld 0 i (pc + 2)) := ok_ld fun hx hb hl k => lv_iload hx hb hd hl k
theorem ok_lload_n {k : Fin 4} {i : Nat} (hd : decode (mb_ M) pc = .ok (.lload_n k, 1)) (hi : (k : Nat) = i) : ok_S M pc (sf_ld 1 i (pc + 1)) := ok_ld fun hx hb hl k => lv_lload_n hx hb hd hi hl k
theorem ok_lload {i : Nat} (hd : decode (mb_ M) pc = .ok (.lload i, 2)) : ok_S M pc (sf_ld 1 i (pc + 2)) := ok_ld fun hx hb hl k => lv_lload hx hb hd hl k
theorem ok_aload_n {k : Fin 4} {i : Nat} (hd : decode (mb_ M) pc = .ok (.aload_n k, 1)) (hi : (k : Nat) = i) : ok_S M pc (sf_ld 2 i (pc + 1)) := ok_ld fun {B ga gq p l e R s m args below meth c Q H locs cells slots ls rest x} hx hb hl k => by
  have hl : ls[i]? = some (.val (va_rf (so_r B ga x))) := hl
  have k : W p l e R s m args below meth c H locs cells slots Q (F0 m (pc + 1) ls (va_rf (so_r B ga x) :: rest)) := k
  cases q : so_r B ga x with
  | none => rw [q] at hl k; exact lv_aload_nN hx hb hd hi hl k
  | some a => rw [q] at hl k; exact lv_aload_n hx hb hd hi hl k
theorem ok_aload {i : Nat} (hd : decode (mb_ M) pc = .ok (.aload i, 2)) : ok_S M pc (sf_ld 2 i (pc + 2)) := ok_ld fun {B ga gq p l e R s m args below meth c Q H locs cells slots ls rest x} hx hb hl k => by
  have hl : ls[i]? = some (.val (va_rf (so_r B ga x))) := hl
  have k : W p l e R s m args below meth c H locs cells slots Q (F0 m (pc + 2) ls (va_rf (so_r B ga x) :: rest)) := k
  cases q : so_r B ga x with
  | none => rw [q] at hl k; exact lv_aloadN hx hb hd hl k
  | some a => rw [q] at hl k; exact lv_aload hx hb hd hl k
/-- the locals' list -/
def so_lv (B : Nat) (ga : Int → Nat) (gq : Value) (L : mx_L) : List (Nat × Value) := (List.range L.length).filterMap fun j => (L[j]?.join).map fun u => (j, so_v B ga gq u)
theorem so_lvm {B : Nat} {ga : Int → Nat} {gq : Value} {L : mx_L} {j : Nat} {x : Value} : (j, x) ∈ so_lv B ga gq L ↔ ∃ u, L[j]? = some (some u) ∧ x = so_v B ga gq u := by
  unfold so_lv
  rw [List.mem_filterMap]
  constructor
  · rintro ⟨i, -, hi⟩
    cases q : L[i]? with
    | none => rw [q] at hi; simp at hi
    | some o =>
      cases o with
      | none => rw [q] at hi; simp at hi
      | some u =>
        rw [q] at hi
        simp at hi
        obtain ⟨e1, e2⟩ := hi
        subst e1
        exact ⟨u, q, e2.symm⟩
  · rintro ⟨u, q, rfl⟩
    refine ⟨j, List.mem_range.mpr (List.getElem?_eq_some_iff.mp q).1, ?_⟩
    rw [q]; rfl
theorem so_lvh {B : Nat} {ga : Int → Nat} {gq : Value} {L : mx_L} {ls : Array Slot} (h : so_L B ga gq L ls) : lv_has ls L.length (so_lv B ga gq L) := by
  refine ⟨h.1, h.2.1, fun q hq => ?_⟩
  obtain ⟨j, x⟩ := q
  obtain ⟨u, hu, rfl⟩ := so_lvm.mp hq
  exact (h.2.2 j u hu).1
theorem so_stol : ∀ (L : mx_L) (k : Nat) (v : mx_V), (mx_sto L k v).length = L.length
  | [], _, _ => rfl
  | _ :: L, 0, v => rfl
  | l :: L, 1, v => by
    show (mx_nl l :: mx_sto L 0 v).length = _
    simp [so_stol L 0 v]
  | l :: L, k + 2, v => by
    show (l :: mx_sto L (k + 1) v).length = _
    simp [so_stol L (k + 1) v]
theorem so_nl {l : Option mx_V} {u : mx_V} (h : mx_nl l = some u) : l = some u ∧ u.1 ≠ 1 := by
  cases l with
  | none => cases h
  | some w =>
    obtain ⟨t, x⟩ := w
    match t, h with
    | 0, h => cases h; exact ⟨rfl, by simp⟩
    | t + 2, h => cases h; exact ⟨rfl, by simp⟩
theorem so_sto0 : ∀ (L : mx_L) (v : mx_V) (j : Nat) (u : mx_V), (mx_sto L 0 v)[j]? = some (some u) → (j = 0 ∧ u = v) ∨ (j ≠ 0 ∧ L[j]? = some (some u))
  | [], v, j, u, h => by simp [mx_sto] at h
  | l :: L, v, j, u, h => by
    cases j with
    | zero => simp [mx_sto] at h; exact Or.inl ⟨rfl, h.symm⟩
    | succ j => simp [mx_sto] at h; exact Or.inr ⟨by simp, by simpa using h⟩
theorem so_stoj : ∀ (L : mx_L) (k : Nat) (v : mx_V) (j : Nat) (u : mx_V), (mx_sto L k v)[j]? = some (some u) → (j = k ∧ u = v) ∨ (j ≠ k ∧ L[j]? = some (some u) ∧ ¬ (j + 1 = k ∧ u.1 = 1))
  | [], k, v, j, u, h => by simp [mx_sto] at h
  | l :: L, 0, v, j, u, h => by
    rcases so_sto0 (l :: L) v j u h with q | q
    · exact Or.inl q
    · exact Or.inr ⟨q.1, q.2, by omega⟩
  | l :: L, 1, v, j, u, h => by
    cases j with
    | zero =>
      simp [mx_sto] at h
      obtain ⟨e1, e2⟩ := so_nl h
      exact Or.inr ⟨by simp, by simp [e1], fun q => e2 q.2⟩
    | succ j =>
      have h : (mx_sto L 0 v)[j]? = some (some u) := by simpa [mx_sto] using h
      rcases so_sto0 L v j u h with q | q
      · exact Or.inl ⟨by omega, q.2⟩
      · exact Or.inr ⟨by omega, by simpa using q.2, by omega⟩
  | l :: L, k + 2, v, j, u, h => by
    cases j with
    | zero =>
      simp [mx_sto] at h
      exact Or.inr ⟨by omega, by simp [h], by omega⟩
    | succ j =>
      have h : (mx_sto L (k + 1) v)[j]? = some (some u) := by simpa [mx_sto] using h
      rcases so_stoj L (k + 1) v j u h with q | q
      · exact Or.inl ⟨by omega, q.2⟩
      · exact Or.inr ⟨by omega, by simpa using q.2.1, fun z => q.2.2 ⟨by omega, z.2⟩⟩
theorem so_cat {B : Nat} {ga : Int → Nat} {gq : Value} (hq : gq.category = 1) {u : mx_V} (hk : so_k u) : ((so_v B ga gq u).category == 2) = true ↔ u.1 = 1 := by
  obtain ⟨t, x⟩ := u
  match t with
  | 0 => simp [so_v, Value.category]
  | 1 => simp [so_v, Value.category]
  | 2 =>
    show ((va_rf (so_r B ga x)).category == 2) = true ↔ _
    rcases va_rf_or (so_r B ga x) with e | ⟨a, e⟩ <;> rw [e] <;> simp [Value.category]
  | t + 3 =>
    show (gq.category == 2) = true ↔ _
    rw [hq]; simp
/-- the locals behind a store -/
theorem so_Lst {B : Nat} {ga : Int → Nat} {gq : Value} {L : mx_L} {ls ls' : Array Slot} {k : Nat} {v : mx_V} (hq : gq.category = 1) (h : so_L B ga gq L ls) (hv : so_k v) (h' : lv_has ls' L.length ((k, so_v B ga gq v) :: (so_lv B ga gq L).filter (fun q => !(q.1 == k) && !(q.1 + 1 == k && q.2.category == 2)))) : so_L B ga gq (mx_sto L k v) ls' := by
  refine ⟨by rw [so_stol]; exact h'.1, h'.2.1, fun i u hu => ?_⟩
  rcases so_stoj L k v i u hu with ⟨e1, e2⟩ | ⟨e1, e2, e3⟩
  · subst e1; subst e2
    exact ⟨h'.2.2 _ List.mem_cons_self, hv⟩
  · obtain ⟨q1, q2⟩ := h.2.2 i u e2
    refine ⟨h'.2.2 (i, so_v B ga gq u) (List.mem_cons_of_mem _ (List.mem_filter.mpr ⟨so_lvm.mpr ⟨u, e2, rfl⟩, ?_⟩)), q2⟩
    have e4 := so_cat (B := B) (ga := ga) hq q2
    by_cases z : i + 1 = k
    · have : ¬ u.1 = 1 := fun w => e3 ⟨z, w⟩
      have e5 : ((so_v B ga gq u).category == 2) = false := by
        cases w : ((so_v B ga gq u).category == 2) with
        | true => exact absurd (e4.mp w) this
        | false => rfl
      simp [e5, e1]
    · simp [z, e1]
theorem ok_st {t k pc1 : Nat} (hw : ∀ {B : Nat} {ga : Int → Nat} {gq : Value} {p : Program} {l : Launch} {e : Env} {R : Room} {s : State} {m : MethodId} {args : Array Value} {below : List Frame} {meth : Method} {c : Code} {Q : State → Prop} {H : Heap} {locs : List Loc} {cells slots : Nat} {ls : Array Slot} {rest : List Value} {x : Int} {nL : Nat} {lv : List (Nat × Value)}, p.tables.exec = Jvm.exec → c.code = mb_ M → lv_has ls nL lv → k < nL → (∀ ls' : Array Slot, lv_has ls' nL ((k, so_v B ga gq (t, x)) :: lv.filter (fun q => !(q.1 == k) && !(q.1 + 1 == k && q.2.category == 2))) → W p l e R s m args below meth c H locs cells slots Q (F0 m pc1 ls' rest)) → W p l e R s m args below meth c H locs cells slots Q (F0 m pc ls (so_v B ga gq (t, x) :: rest))) : ok_S M pc (sf_st t k pc1) := by
  intro B ga gq D K gS gh p l e R s m args below meth c d X Q n0 L st S h n hn hL
  unfold sf_st
  cases st with
  | nil => exact trivial
  | cons v st =>
    obtain ⟨t1, x⟩ := v
    by_cases ht : t1 = t ∧ t ≠ 1 ∧ k < L.length
    · simp only [ht, ne_eq, not_false_iff, and_self, if_true]
      obtain ⟨rfl, ht1, hk⟩ := ht
      refine ⟨Int.le_refl _, so_stol _ _ _, fun _ _ kk H ls locs h1 h2 h3 => ?_⟩
      exact hw X.1 X.2.1 (so_lvh h1) hk fun ls' h' => kk H ls' locs (so_Lst X.2.2.2.2.2.2.2.2.2.1.2.2.2.2.2.2.2.2.2.2.2.2.2 h1 (so_Th h2) h') (so_Tt h2) h3
    · simp only [ht, if_false]
theorem ok_istore_n {k : Fin 4} {i : Nat} (hd : decode (mb_ M) pc = .ok (.istore_n k, 1)) (hi : (k : Nat) = i) : ok_S M pc (sf_st 0 i (pc + 1)) := ok_st fun hx hb h hn kk => lv_istore_n hx hb hd hi h hn rfl kk
theorem ok_istore {i : Nat} (hd : decode (mb_ M) pc = .ok (.istore i, 2)) : ok_S M pc (sf_st 0 i (pc + 2)) := ok_st fun hx hb h hn kk => lv_istore hx hb hd h hn rfl kk
theorem ok_astore_n {k : Fin 4} {i : Nat} (hd : decode (mb_ M) pc = .ok (.astore_n k, 1)) (hi : (k : Nat) = i) : ok_S M pc (sf_st 2 i (pc + 1)) := ok_st fun {B ga gq p l e R s m args below meth c Q H locs cells slots ls rest x nL lv} hx hb h hn kk => by
  have e1 : so_v B ga gq (2, x) = va_rf (so_r B ga x) := rfl
  rw [e1] at kk ⊢
  cases q : so_r B ga x with
  | none => rw [q] at kk; exact lv_astore_nN hx hb hd hi h hn rfl kk
  | some a => rw [q] at kk; exact lv_astore_n hx hb hd hi h hn rfl kk
theorem ok_astore {i : Nat} (hd : decode (mb_ M) pc = .ok (.astore i, 2)) : ok_S M pc (sf_st 2 i (pc + 2)) := ok_st fun {B ga gq p l e R s m args below meth c Q H locs cells slots ls rest x nL lv} hx hb h hn kk => by
  have e1 : so_v B ga gq (2, x) = va_rf (so_r B ga x) := rfl
  rw [e1] at kk ⊢
  cases q : so_r B ga x with
  | none => rw [q] at kk; exact lv_astoreN hx hb hd h hn rfl kk
  | some a => rw [q] at kk; exact lv_astore hx hb hd h hn rfl kk
theorem ok_iinc {i : Nat} {y : Int} (hd : decode (mb_ M) pc = .ok (.iinc i y, 3)) : ok_S M pc (sf_inc i y (pc + 3)) := by
  intro B ga gq D K gS gh p l e R s m args below meth c d X Q n0 L st S h n hn hL
  unfold sf_inc
  cases q : L[i]? with
  | none => exact trivial
  | some o =>
    cases o with
    | none => exact trivial
    | some v =>
      obtain ⟨t, x⟩ := v
      by_cases ht : t = 0
      · subst ht
        refine ⟨Int.le_refl _, so_stol _ _ _, fun _ _ kk H ls locs h1 h2 h3 => ?_⟩
        obtain ⟨j, hj⟩ := List.getElem?_of_mem (so_lvm.mpr ⟨_, q, rfl⟩ : (i, so_v B ga gq (0, x)) ∈ so_lv B ga gq L)
        refine lv_iinc (v := Int32.ofInt (mx_w (x + y))) X.1 X.2.1 hd (so_lvh h1) hj ?_ (List.getElem?_eq_some_iff.mp q).1 rfl fun ls' h' => ?_
        · rw [so_ow, Int32.ofInt_add]
        · exact kk H ls' locs (so_Lst (v := (0, mx_w (x + y))) X.2.2.2.2.2.2.2.2.2.1.2.2.2.2.2.2.2.2.2.2.2.2.2 h1 (so_k0 (so_w32 _)) h') h2 h3
      · have : ¬ (t, x).1 = 0 := ht
        simp only [this, if_false]
end
