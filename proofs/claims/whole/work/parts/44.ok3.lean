/-! The operand stack, branches, switches, returns, longs in locals -/
section
variable {M pc : Nat}
theorem so_c1 {B : Nat} {ga : Int → Nat} {gq : Value} (hq : gq.category = 1) {u : mx_V} (hk : so_k u) (h : u.1 ≠ 1) : (so_v B ga gq u).category = 1 := by
  rcases lv_cat (so_v B ga gq u) with e | e
  · exact e
  · exact absurd ((so_cat (B := B) (ga := ga) hq hk).mp (by rw [e]; rfl)) h
theorem so_gc {B : Nat} {ga : Int → Nat} {gq : Value} {D : va_G} {K : Nat → ClassId} {gS gh : mx_H} {p : Program} {R : Room} {s : State} {m : MethodId} {args : Array Value} {meth : Method} {c : Code} {d : Nat} (X : so_X B ga gq D K gS gh p R s m args meth c M d) : gq.category = 1 := X.2.2.2.2.2.2.2.2.2.1.2.2.2.2.2.2.2.2.2.2.2.2.2
theorem ok_dup (hd : decode (mb_ M) pc = .ok (.dup, 1)) : ok_S M pc (sf_dup (pc + 1)) := by
  intro B ga gq D K gS gh p l e R s m args below meth c d X Q n0 L st S h n hn hL
  rcases st with _ | ⟨v, st⟩ <;> try exact trivial
  unfold sf_dup
  simp only []
  by_cases hz : v.1 = 1
  · rw [if_neg (fun q => q hz)]; exact trivial
  · rw [if_pos hz]
    exact ⟨Int.le_refl _, rfl, fun _ _ kk H ls locs h1 h2 h3 => lv_dup X.1 X.2.1 hd (so_c1 (so_gc X) (so_Th h2) hz) (kk H ls locs h1 (so_Tc (so_Th h2) h2) h3)⟩
theorem ok_pop (hd : decode (mb_ M) pc = .ok (.pop, 1)) : ok_S M pc (sf_pop (pc + 1)) := by
  intro B ga gq D K gS gh p l e R s m args below meth c d X Q n0 L st S h n hn hL
  rcases st with _ | ⟨v, st⟩ <;> try exact trivial
  unfold sf_pop
  simp only []
  by_cases hz : v.1 = 1
  · rw [if_neg (fun q => q hz)]; exact trivial
  · rw [if_pos hz]
    exact ⟨Int.le_refl _, rfl, fun _ _ kk H ls locs h1 h2 h3 => lv_pop X.1 X.2.1 hd (so_c1 (so_gc X) (so_Th h2) hz) (kk H ls locs h1 (so_Tt h2) h3)⟩
theorem ok_dx1 (hd : decode (mb_ M) pc = .ok (.dup_x1, 1)) : ok_S M pc (sf_dx1 (pc + 1)) := by
  intro B ga gq D K gS gh p l e R s m args below meth c d X Q n0 L st S h n hn hL
  rcases st with _ | ⟨v, _ | ⟨u, st⟩⟩ <;> try exact trivial
  unfold sf_dx1
  simp only []
  by_cases hz : v.1 ≠ 1 ∧ u.1 ≠ 1
  · rw [if_pos hz]
    exact ⟨Int.le_refl _, rfl, fun _ _ kk H ls locs h1 h2 h3 => lv_dup_x1 X.1 X.2.1 hd (so_c1 (so_gc X) (so_Th h2) hz.1) (so_c1 (so_gc X) (so_Th (so_Tt h2)) hz.2) (kk H ls locs h1 (so_Tc (so_Th h2) (so_Tc (so_Th (so_Tt h2)) (so_Tc (so_Th h2) (so_Tt (so_Tt h2))))) h3)⟩
  · rw [if_neg hz]; exact trivial
theorem ok_dup2 (hd : decode (mb_ M) pc = .ok (.dup2, 1)) : ok_S M pc (sf_dup2 (pc + 1)) := by
  intro B ga gq D K gS gh p l e R s m args below meth c d X Q n0 L st S h n hn hL
  rcases st with _ | ⟨v, _ | ⟨u, st⟩⟩ <;> try exact trivial
  unfold sf_dup2
  simp only []
  by_cases hz : v.1 ≠ 1 ∧ u.1 ≠ 1
  · rw [if_pos hz]
    exact ⟨Int.le_refl _, rfl, fun _ _ kk H ls locs h1 h2 h3 => lv_dup2_11 X.1 X.2.1 hd (so_c1 (so_gc X) (so_Th h2) hz.1) (so_c1 (so_gc X) (so_Th (so_Tt h2)) hz.2) (kk H ls locs h1 (so_Tc (so_Th h2) (so_Tc (so_Th (so_Tt h2)) h2)) h3)⟩
  · rw [if_neg hz]; exact trivial
theorem ok_lcmp (hd : decode (mb_ M) pc = .ok (.lcmp, 1)) : ok_S M pc (sf_lcmp (pc + 1)) := by
  intro B ga gq D K gS gh p l e R s m args below meth c d X Q n0 L st S h n hn hL
  rcases st with _ | ⟨⟨_ | _ | _, b⟩, _ | ⟨⟨_ | _ | _, a⟩, st⟩⟩ <;> try exact trivial
  refine ⟨Int.le_refl _, rfl, fun _ _ kk H ls locs h1 h2 h3 => ?_⟩
  have ha := so_1c (so_Th (so_Tt h2))
  have hb := so_1c (so_Th h2)
  have hr : so_c32 (mx_cmp a b) := by
    unfold mx_cmp
    split
    · exact ⟨by decide, by decide⟩
    · split
      · exact ⟨by decide, by decide⟩
      · exact ⟨by decide, by decide⟩
  have e1 : Int32.ofInt (mx_cmp a b) = lg_cmp (Int64.ofInt a) (Int64.ofInt b) := by
    have l1 : Int64.ofInt b < Int64.ofInt a ↔ b < a := by rw [Int64.lt_iff_toInt_lt, so_i64 ha, so_i64 hb]
    have l2 : Int64.ofInt a = Int64.ofInt b ↔ a = b := ⟨fun e => by have := congrArg Int64.toInt e; rwa [so_i64 ha, so_i64 hb] at this, fun e => by rw [e]⟩
    unfold mx_cmp lg_cmp
    by_cases q1 : b < a
    · rw [if_neg (by omega), if_neg (by omega)]; simp [l1, q1]
    · by_cases q2 : a = b
      · rw [if_neg (by omega), if_pos q2]; simp [l1, l2, q1, q2]
      · rw [if_pos (by omega)]; simp [l1, l2, q1, q2]
  refine W.lcmp X.1 X.2.1 hd ?_
  have := kk H ls locs h1 (so_Tc (so_k0 hr) (so_Tt (so_Tt h2))) h3
  rw [← e1]
  exact this
theorem ok_ifG {o t f : Nat} (P : Int32 → Prop) (hP : ∀ a, so_c32 a → (P (Int32.ofInt a) ↔ mx_cc o a 0 = true)) (hw : ∀ {p : Program} {l : Launch} {e : Env} {R : Room} {s : State} {m : MethodId} {args : Array Value} {below : List Frame} {meth : Method} {c : Code} {Q : State → Prop} {H : Heap} {locs : List Loc} {cells slots : Nat} {ls : Array Slot} {rest : List Value} {x : Int32}, p.tables.exec = Jvm.exec → c.code = mb_ M → (P x → W p l e R s m args below meth c H locs cells slots Q (F0 m t ls rest)) → (¬ P x → W p l e R s m args below meth c H locs cells slots Q (F0 m f ls rest)) → W p l e R s m args below meth c H locs cells slots Q (F0 m pc ls (.int x :: rest))) : ok_S M pc (sf_if o t f) := by
  intro B ga gq D K gS gh p l e R s m args below meth c d X Q n0 L st S h n hn hL
  rcases st with _ | ⟨⟨_ | _, a⟩, st⟩ <;> try exact trivial
  refine ⟨Int.le_refl _, rfl, fun _ _ kk H ls locs h1 h2 h3 => ?_⟩
  have := kk H ls locs h1 (so_Tt h2) h3
  have hp := hP a (so_0c (so_Th h2))
  refine hw X.1 X.2.1 (fun q => ?_) (fun q => ?_)
  · rw [hp.mp q] at this; exact this
  · have e1 : mx_cc o a 0 = false := by cases w : mx_cc o a 0 with
      | true => exact absurd (hp.mpr w) q
      | false => rfl
    rw [e1] at this; exact this
theorem so_cz : so_c32 0 := ⟨by decide, by decide⟩
theorem ok_if0 {off : Int} {t : Nat} (hd : decode (mb_ M) pc = .ok (.ifCond .eq off, 3)) (ht : (pc : Int) + off = (t : Int)) : ok_S M pc (sf_if 0 t (pc + 3)) := ok_ifG (fun x => x = 0) (fun a ha => by rw [← so_z32, so_eq32 ha so_cz]; simp [mx_cc]) fun hx hb k1 k2 => lv_if_eq hx hb hd ht k1 k2
theorem ok_if1 {off : Int} {t : Nat} (hd : decode (mb_ M) pc = .ok (.ifCond .ne off, 3)) (ht : (pc : Int) + off = (t : Int)) : ok_S M pc (sf_if 1 t (pc + 3)) := ok_ifG (fun x => ¬ x = 0) (fun a ha => by rw [← so_z32, so_eq32 ha so_cz]; simp [mx_cc]) fun hx hb k1 k2 => lv_if_ne hx hb hd ht k1 (fun q => k2 (fun z => z q))
theorem ok_if2 {off : Int} {t : Nat} (hd : decode (mb_ M) pc = .ok (.ifCond .lt off, 3)) (ht : (pc : Int) + off = (t : Int)) : ok_S M pc (sf_if 2 t (pc + 3)) := ok_ifG (fun x => x < 0) (fun a ha => by rw [← so_z32, so_lt32 ha so_cz]; simp [mx_cc]) fun hx hb k1 k2 => lv_if_lt hx hb hd ht k1 k2
theorem ok_if3 {off : Int} {t : Nat} (hd : decode (mb_ M) pc = .ok (.ifCond .ge off, 3)) (ht : (pc : Int) + off = (t : Int)) : ok_S M pc (sf_if 3 t (pc + 3)) := ok_ifG (fun x => 0 ≤ x) (fun a ha => by rw [← so_z32, so_le32 so_cz ha]; simp [mx_cc]) fun hx hb k1 k2 => lv_if_ge hx hb hd ht k1 k2
theorem ok_if4 {off : Int} {t : Nat} (hd : decode (mb_ M) pc = .ok (.ifCond .gt off, 3)) (ht : (pc : Int) + off = (t : Int)) : ok_S M pc (sf_if 4 t (pc + 3)) := ok_ifG (fun x => 0 < x) (fun a ha => by rw [← so_z32, so_lt32 so_cz ha]; simp [mx_cc]) fun hx hb k1 k2 => lv_if_gt hx hb hd ht k1 k2
theorem ok_if5 {off : Int} {t : Nat} (hd : decode (mb_ M) pc = .ok (.ifCond .le off, 3)) (ht : (pc : Int) + off = (t : Int)) : ok_S M pc (sf_if 5 t (pc + 3)) := ok_ifG (fun x => x ≤ 0) (fun a ha => by rw [← so_z32, so_le32 ha so_cz]; simp [mx_cc]) fun hx hb k1 k2 => lv_if_le hx hb hd ht k1 k2
theorem ok_icG {o t f : Nat} (P : Int32 → Int32 → Prop) (hP : ∀ a b, so_c32 a → so_c32 b → (P (Int32.ofInt a) (Int32.ofInt b) ↔ mx_cc o a b = true)) (hw : ∀ {p : Program} {l : Launch} {e : Env} {R : Room} {s : State} {m : MethodId} {args : Array Value} {below : List Frame} {meth : Method} {c : Code} {Q : State → Prop} {H : Heap} {locs : List Loc} {cells slots : Nat} {ls : Array Slot} {rest : List Value} {x y : Int32}, p.tables.exec = Jvm.exec → c.code = mb_ M → (P x y → W p l e R s m args below meth c H locs cells slots Q (F0 m t ls rest)) → (¬ P x y → W p l e R s m args below meth c H locs cells slots Q (F0 m f ls rest)) → W p l e R s m args below meth c H locs cells slots Q (F0 m pc ls (.int y :: .int x :: rest))) : ok_S M pc (sf_ic o t f) := by
  intro B ga gq D K gS gh p l e R s m args below meth c d X Q n0 L st S h n hn hL
  rcases st with _ | ⟨⟨_ | _, b⟩, _ | ⟨⟨_ | _, a⟩, st⟩⟩ <;> try exact trivial
  refine ⟨Int.le_refl _, rfl, fun _ _ kk H ls locs h1 h2 h3 => ?_⟩
  have := kk H ls locs h1 (so_Tt (so_Tt h2)) h3
  have hp := hP a b (so_0c (so_Th (so_Tt h2))) (so_0c (so_Th h2))
  refine hw X.1 X.2.1 (fun q => ?_) (fun q => ?_)
  · rw [hp.mp q] at this; exact this
  · have e1 : mx_cc o a b = false := by cases w : mx_cc o a b with
      | true => exact absurd (hp.mpr w) q
      | false => rfl
    rw [e1] at this; exact this
theorem ok_ic0 {off : Int} {t : Nat} (hd : decode (mb_ M) pc = .ok (.if_icmp .eq off, 3)) (ht : (pc : Int) + off = (t : Int)) : ok_S M pc (sf_ic 0 t (pc + 3)) := ok_icG (fun x y => x = y) (fun a b ha hb => by rw [so_eq32 ha hb]; simp [mx_cc]) fun hx hb k1 k2 => lv_icmp_eq hx hb hd ht k1 k2
theorem ok_ic1 {off : Int} {t : Nat} (hd : decode (mb_ M) pc = .ok (.if_icmp .ne off, 3)) (ht : (pc : Int) + off = (t : Int)) : ok_S M pc (sf_ic 1 t (pc + 3)) := ok_icG (fun x y => ¬ x = y) (fun a b ha hb => by rw [so_eq32 ha hb]; simp [mx_cc]) fun hx hb k1 k2 => lv_icmp_ne hx hb hd ht k1 (fun q => k2 (fun z => z q))
theorem ok_ic2 {off : Int} {t : Nat} (hd : decode (mb_ M) pc = .ok (.if_icmp .lt off, 3)) (ht : (pc : Int) + off = (t : Int)) : ok_S M pc (sf_ic 2 t (pc + 3)) := ok_icG (fun x y => x < y) (fun a b ha hb => by rw [so_lt32 ha hb]; simp [mx_cc]) fun hx hb k1 k2 => lv_icmp_lt hx hb hd ht k1 k2
theorem ok_ic3 {off : Int} {t : Nat} (hd : decode (mb_ M) pc = .ok (.if_icmp .ge off, 3)) (ht : (pc : Int) + off = (t : Int)) : ok_S M pc (sf_ic 3 t (pc + 3)) := ok_icG (fun x y => y ≤ x) (fun a b ha hb => by rw [so_le32 hb ha]; simp [mx_cc]) fun hx hb k1 k2 => lv_icmp_ge hx hb hd ht k1 k2
theorem ok_ic4 {off : Int} {t : Nat} (hd : decode (mb_ M) pc = .ok (.if_icmp .gt off, 3)) (ht : (pc : Int) + off = (t : Int)) : ok_S M pc (sf_ic 4 t (pc + 3)) := ok_icG (fun x y => y < x) (fun a b ha hb => by rw [so_lt32 hb ha]; simp [mx_cc]) fun hx hb k1 k2 => lv_icmp_gt hx hb hd ht k1 k2
theorem ok_ic5 {off : Int} {t : Nat} (hd : decode (mb_ M) pc = .ok (.if_icmp .le off, 3)) (ht : (pc : Int) + off = (t : Int)) : ok_S M pc (sf_ic 5 t (pc + 3)) := ok_icG (fun x y => x ≤ y) (fun a b ha hb => by rw [so_le32 ha hb]; simp [mx_cc]) fun hx hb k1 k2 => lv_icmp_le hx hb hd ht k1 k2
theorem ok_nul {off : Int} {t : Nat} (hd : decode (mb_ M) pc = .ok (.ifnull off, 3)) (ht : (pc : Int) + off = (t : Int)) : ok_S M pc (sf_nul t (pc + 3)) := by
  intro B ga gq D K gS gh p l e R s m args below meth c d X Q n0 L st S h n hn hL
  rcases st with _ | ⟨⟨_ | _ | _ | _, a⟩, st⟩ <;> try exact trivial
  refine ⟨Int.le_refl _, rfl, fun _ _ kk H ls locs h1 h2 h3 => ?_⟩
  have := kk H ls locs h1 (so_Tt h2) h3
  show W p l e R s m args below meth c H locs _ _ Q (F0 m pc ls (va_rf (so_r B ga a) :: _))
  unfold so_r
  by_cases q : a = -1
  · rw [if_pos q] at this ⊢; exact lv_ifnullN X.1 X.2.1 hd ht this
  · rw [if_neg q] at this ⊢; exact lv_ifnull X.1 X.2.1 hd this
theorem ok_nnul {off : Int} {t : Nat} (hd : decode (mb_ M) pc = .ok (.ifnonnull off, 3)) (ht : (pc : Int) + off = (t : Int)) : ok_S M pc (sf_nul (pc + 3) t) := by
  intro B ga gq D K gS gh p l e R s m args below meth c d X Q n0 L st S h n hn hL
  rcases st with _ | ⟨⟨_ | _ | _ | _, a⟩, st⟩ <;> try exact trivial
  refine ⟨Int.le_refl _, rfl, fun _ _ kk H ls locs h1 h2 h3 => ?_⟩
  have := kk H ls locs h1 (so_Tt h2) h3
  show W p l e R s m args below meth c H locs _ _ Q (F0 m pc ls (va_rf (so_r B ga a) :: _))
  unfold so_r
  by_cases q : a = -1
  · rw [if_pos q] at this ⊢; exact lv_ifnonnullN X.1 X.2.1 hd this
  · rw [if_neg q] at this ⊢; exact lv_ifnonnull X.1 X.2.1 hd ht this
def mx_ts (pc : Nat) : Int → List Int → List (Int × Nat)
  | _, [] => []
  | lo, o :: os => (lo, ((pc : Int) + o).toNat) :: mx_ts pc (lo + 1) os
theorem so_tsi (pc dt : Nat) : ∀ (os : List Int) (lo x : Int), lo ≤ x → x < lo + os.length → ∃ off, os[(x - lo).toNat]? = some off ∧ mx_pick x (mx_ts pc lo os) dt = ((pc : Int) + off).toNat := by
  intro os
  induction os with
  | nil => intro lo x h1 h2; simp at h2; omega
  | cons o os ih =>
    intro lo x h1 h2
    by_cases q : x = lo
    · subst q
      exact ⟨o, by simp, by rw [mx_ts, mx_pick, if_pos rfl]⟩
    · simp only [List.length_cons] at h2
      obtain ⟨off, e1, e2⟩ := ih (lo + 1) x (by omega) (by omega)
      refine ⟨off, ?_, ?_⟩
      · have : (x - lo).toNat = (x - (lo + 1)).toNat + 1 := by omega
        rw [this]; simpa using e1
      · rw [mx_ts, mx_pick, if_neg q]; exact e2
theorem so_tso (pc dt : Nat) : ∀ (os : List Int) (lo x : Int), (x < lo ∨ lo + os.length ≤ x) → mx_pick x (mx_ts pc lo os) dt = dt := by
  intro os
  induction os with
  | nil => intro lo x _; rfl
  | cons o os ih =>
    intro lo x h
    simp only [List.length_cons] at h
    rw [mx_ts, mx_pick, if_neg (by omega)]
    exact ih (lo + 1) x (by omega)
theorem ok_tsw {dflt lo hi : Int} {offs : Array Int} {len dt : Nat} {ks : List (Int × Nat)} (hd : decode (mb_ M) pc = .ok (.tableswitch dflt lo hi offs, len)) (hk : ks = mx_ts pc lo offs.toList) (hh : hi = lo + offs.toList.length - 1) (hp : ∀ o ∈ offs.toList, 0 ≤ (pc : Int) + o) (ht : (pc : Int) + dflt = (dt : Int)) : ok_S M pc (sf_sw ks dt) := by
  intro B ga gq D K gS gh p l e R s m args below meth c d X Q n0 L st S h n hn hL
  rcases st with _ | ⟨⟨_ | _, a⟩, st⟩ <;> try exact trivial
  refine ⟨Int.le_refl _, rfl, fun _ _ kk H ls locs h1 h2 h3 => ?_⟩
  have := kk H ls locs h1 (so_Tt h2) h3
  have ha := so_i32 (so_0c (so_Th h2))
  subst hk
  by_cases q : lo ≤ a ∧ a ≤ hi
  · obtain ⟨off, e1, e2⟩ := so_tsi pc dt offs.toList lo a q.1 (by omega)
    rw [e2] at this
    have h0 := hp off (List.mem_of_getElem? e1)
    exact lv_tableIn (tgt := ((pc : Int) + off).toNat) X.1 X.2.1 hd (by rw [ha]; omega) (by rw [ha]; omega) (off := off) (by rw [ha]; rw [← Array.getElem?_toList]; exact e1) (by omega) this
  · rw [so_tso pc dt offs.toList lo a (by omega)] at this
    exact lv_tableOut X.1 X.2.1 hd (by rw [ha]; omega) ht this
def mx_lw (pc : Nat) (ps : List (Int × Int)) : List (Int × Nat) := ps.map fun q => (q.1, ((pc : Int) + q.2).toNat)
theorem so_lw (pc : Nat) (d : Int) (dt : Nat) (hd : (pc : Int) + d = dt) (x : Int) : ∀ ps : List (Int × Int), (∀ q ∈ ps, 0 ≤ (pc : Int) + q.2) → (pc : Int) + Op.lookupswitch.offset ps d x = (mx_pick x (mx_lw pc ps) dt : Int) := by
  intro ps
  induction ps with
  | nil => intro _; rw [Op.lookupswitch.offset_nil]; exact hd
  | cons q ps ih =>
    intro h
    obtain ⟨a, o⟩ := q
    rw [Op.lookupswitch.offset_cons]
    have h0 := h (a, o) List.mem_cons_self
    show (pc : Int) + _ = (mx_pick x ((a, ((pc : Int) + o).toNat) :: mx_lw pc ps) dt : Int)
    rw [mx_pick]
    by_cases z : x = a
    · rw [if_pos z, if_pos z.symm]; omega
    · rw [if_neg z, if_neg (fun w => z w.symm)]; exact ih fun q hq => h q (List.mem_cons_of_mem _ hq)
theorem ok_lsw {dflt : Int} {ps : Array (Int × Int)} {len dt : Nat} {ks : List (Int × Nat)} (hd : decode (mb_ M) pc = .ok (.lookupswitch dflt ps, len)) (hk : ks = mx_lw pc ps.toList) (ho : (ps.toList.zip (ps.toList.drop 1)).all (fun (a, next) => a.1 < next.1) = true) (hp : ∀ q ∈ ps.toList, 0 ≤ (pc : Int) + q.2) (ht : (pc : Int) + dflt = (dt : Int)) : ok_S M pc (sf_sw ks dt) := by
  intro B ga gq D K gS gh p l e R s m args below meth c d X Q n0 L st S h n hn hL
  rcases st with _ | ⟨⟨_ | _, a⟩, st⟩ <;> try exact trivial
  refine ⟨Int.le_refl _, rfl, fun _ _ kk H ls locs h1 h2 h3 => ?_⟩
  have := kk H ls locs h1 (so_Tt h2) h3
  subst hk
  exact lv_lookup X.1 X.2.1 hd ho rfl (by rw [so_i32 (so_0c (so_Th h2))]; exact so_lw pc dflt dt ht a _ hp) this
theorem ok_ret0 (hd : decode (mb_ M) pc = .ok (.ireturn, 1)) (hr : mr_ M = some .int) : ok_S M pc (sf_ret 0) := by
  intro B ga gq D K gS gh p l e R s m args below meth c d X Q n0 L st S h n hn hL
  rcases st with _ | ⟨⟨t, a⟩, _ | ⟨u, st⟩⟩ <;> try exact trivial
  unfold sf_ret
  simp only []
  by_cases q : t = 0
  · subst q
    rw [if_pos rfl]
    refine ⟨fun h2 u hu => by cases hu; exact so_Th h2, fun x hx => by cases hx; exact ⟨hd, rfl⟩, fun H ls locs cells slots Qc free h2 hq hf => ?_⟩
    exact W.iret X.1 X.2.1 (X.2.2.2.1.trans hr) hq hf hd (hlocks := X.2.2.2.2.2.2.2.1)
  · rw [if_neg q]; exact trivial
theorem ok_ret1 (hd : decode (mb_ M) pc = .ok (.lreturn, 1)) (hr : mr_ M = some .long) : ok_S M pc (sf_ret 1) := by
  intro B ga gq D K gS gh p l e R s m args below meth c d X Q n0 L st S h n hn hL
  rcases st with _ | ⟨⟨t, a⟩, _ | ⟨u, st⟩⟩ <;> try exact trivial
  unfold sf_ret
  simp only []
  by_cases q : t = 1
  · subst q
    rw [if_pos rfl]
    refine ⟨fun h2 u hu => by cases hu; exact so_Th h2, fun x hx => by simp at hx, fun H ls locs cells slots Qc free h2 hq hf => ?_⟩
    exact W.lret X.1 X.2.1 (X.2.2.2.1.trans hr) hq hf hd (hlocks := X.2.2.2.2.2.2.2.1)
  · rw [if_neg q]; exact trivial
theorem ok_ret2 {nm : String} (hd : decode (mb_ M) pc = .ok (.areturn, 1)) (hr : mr_ M = some (.object nm)) : ok_S M pc (sf_ret 2) := by
  intro B ga gq D K gS gh p l e R s m args below meth c d X Q n0 L st S h n hn hL
  rcases st with _ | ⟨⟨t, a⟩, _ | ⟨u, st⟩⟩ <;> try exact trivial
  unfold sf_ret
  simp only []
  by_cases q : t = 2
  · subst q
    rw [if_pos rfl]
    refine ⟨fun h2 u hu => by cases hu; exact so_Th h2, fun x hx => by simp at hx, fun H ls locs cells slots Qc free h2 hq hf => ?_⟩
    exact W.aret X.1 X.2.1 (X.2.2.2.1.trans hr) (Or.inl ⟨_, rfl⟩) (va_rf_or _) hq hf hd (hlocks := X.2.2.2.2.2.2.2.1)
  · rw [if_neg q]; exact trivial
theorem ok_rr {lo hi : Int} {ty : FieldType} (hd : decode (mb_ M) pc = .ok (.ireturn, 1)) (hr : mr_ M = some ty) (hn : ∀ v, lo ≤ v → v ≤ hi → narrow ty (.int (Int32.ofInt v)) = .int (Int32.ofInt v)) : ok_S M pc (sf_rr lo hi) := by
  intro B ga gq D K gS gh p l e R s m args below meth c d X Q n0 L st S h n hn0 hL
  rcases st with _ | ⟨⟨_ | _, a⟩, _ | ⟨u, st⟩⟩ <;> try exact trivial
  unfold sf_rr
  simp only []
  by_cases q : lo ≤ a ∧ a ≤ hi
  · rw [if_pos q]
    refine ⟨fun h2 u hu => by cases hu; exact so_Th h2, fun x hx => by cases hx; exact ⟨hd, rfl⟩, fun H ls locs cells slots Qc free h2 hq hf => ?_⟩
    exact W.zret X.1 X.2.1 (X.2.2.2.1.trans hr) (hn a q.1 q.2) hq hf hd (hlocks := X.2.2.2.2.2.2.2.1)
  · rw [if_neg q]; exact trivial
theorem so_nz (ty : FieldType) (h0 : narrow ty (.int 0) = .int 0) (h1 : narrow ty (.int 1) = .int 1) : ∀ v : Int, 0 ≤ v → v ≤ 1 → narrow ty (.int (Int32.ofInt v)) = .int (Int32.ofInt v) := by
  intro v a b
  rcases (by omega : v = 0 ∨ v = 1) with rfl | rfl
  · exact h0
  · exact h1
theorem so_nch : ∀ v : Int, 0 ≤ v → v ≤ 127 → narrow .char (.int (Int32.ofInt v)) = .int (Int32.ofInt v) := by
  have key : ∀ k : Fin 128, narrow .char (.int (Int32.ofInt (k.val : Int))) = .int (Int32.ofInt (k.val : Int)) := by decide +kernel
  intro v a b
  have := key ⟨v.toNat, by omega⟩
  have e : ((v.toNat : Nat) : Int) = v := by omega
  simpa [e] using this
theorem ok_retv (hd : decode (mb_ M) pc = .ok (.return_, 1)) (hr : mr_ M = none) : ok_S M pc sf_retv := by
  intro B ga gq D K gS gh p l e R s m args below meth c d X Q n0 L st S h n hn hL
  rcases st with _ | ⟨u, st⟩ <;> try exact trivial
  refine ⟨fun h2 u hu => (by cases hu), fun x hx => (by cases hx), fun H ls locs cells slots Qc free h2 hq hf => ?_⟩
  exact W.vret X.1 X.2.1 (X.2.2.2.1.trans hr) hq hf hd (hlocks := X.2.2.2.2.2.2.2.1)
end
