/-! Numbers, the operand stack, branches -/
section
variable {M pc : Nat}
theorem ok_i2 {o : Int → Int → Int} {o1 : Int32 → Int32 → Int32} {pc1 : Nat} (ho : ∀ a b : Int, so_c32 a → so_c32 b → Int32.ofInt (o a b) = o1 (Int32.ofInt a) (Int32.ofInt b) ∧ so_c32 (o a b)) (hw : ∀ {p : Program} {l : Launch} {e : Env} {R : Room} {s : State} {m : MethodId} {args : Array Value} {below : List Frame} {meth : Method} {c : Code} {Q : State → Prop} {H : Heap} {locs : List Loc} {cells slots : Nat} {ls : Array Slot} {rest : List Value} {x y : Int32}, p.tables.exec = Jvm.exec → c.code = mb_ M → W p l e R s m args below meth c H locs cells slots Q (F0 m pc1 ls (.int (o1 x y) :: rest)) → W p l e R s m args below meth c H locs cells slots Q (F0 m pc ls (.int y :: .int x :: rest))) : ok_S M pc (sf_i2 o pc1) := by
  intro B ga gq D K gS gh p l e R s m args below meth c d X Q n0 L st S h n hn hL
  rcases st with _ | ⟨⟨_ | _, b⟩, _ | ⟨⟨_ | _, a⟩, st⟩⟩ <;> try exact trivial
  refine ⟨Int.le_refl _, rfl, fun _ _ kk H ls locs h1 h2 h3 => ?_⟩
  obtain ⟨e1, e2⟩ := ho a b (so_0c (so_Th (so_Tt h2))) (so_0c (so_Th h2))
  refine hw X.1 X.2.1 ?_
  have := kk H ls locs h1 (so_Tc (so_k0 e2) (so_Tt (so_Tt h2))) h3
  rw [← e1]
  exact this
theorem so_a1 (a b : Int) : Int32.ofInt (mx_add a b) = Int32.ofInt a + Int32.ofInt b ∧ so_c32 (mx_add a b) := ⟨by unfold mx_add; rw [so_ow, Int32.ofInt_add], so_w32 _⟩
theorem so_a2 (a b : Int) : Int32.ofInt (mx_sub a b) = Int32.ofInt a - Int32.ofInt b ∧ so_c32 (mx_sub a b) := ⟨by unfold mx_sub; rw [so_ow, Int32.ofInt_sub], so_w32 _⟩
theorem so_a3 (a b : Int) : Int32.ofInt (mx_mul a b) = Int32.ofInt a * Int32.ofInt b ∧ so_c32 (mx_mul a b) := ⟨by unfold mx_mul; rw [so_ow, Int32.ofInt_mul], so_w32 _⟩
theorem ok_iadd (hd : decode (mb_ M) pc = .ok (.iadd, 1)) : ok_S M pc (sf_i2 mx_add (pc + 1)) := ok_i2 (o1 := fun x y => x + y) (fun a b _ _ => so_a1 a b) fun hx hb k => lv_iadd hx hb hd k
theorem ok_isub (hd : decode (mb_ M) pc = .ok (.isub, 1)) : ok_S M pc (sf_i2 mx_sub (pc + 1)) := ok_i2 (o1 := fun x y => x - y) (fun a b _ _ => so_a2 a b) fun hx hb k => lv_isub hx hb hd k
theorem ok_imul (hd : decode (mb_ M) pc = .ok (.imul, 1)) : ok_S M pc (sf_i2 mx_mul (pc + 1)) := ok_i2 (o1 := fun x y => x * y) (fun a b _ _ => so_a3 a b) fun hx hb k => lv_imul hx hb hd k
theorem ok_iand (hd : decode (mb_ M) pc = .ok (.iand, 1)) : ok_S M pc (sf_i2 mx_and (pc + 1)) := ok_i2 (o1 := fun x y => x &&& y) (fun a b _ _ => ⟨Int32.ofInt_toInt _, so_t32 _⟩) fun hx hb k => lv_iand hx hb hd k
theorem ok_ior (hd : decode (mb_ M) pc = .ok (.ior, 1)) : ok_S M pc (sf_i2 mx_or (pc + 1)) := ok_i2 (o1 := fun x y => x ||| y) (fun a b _ _ => ⟨Int32.ofInt_toInt _, so_t32 _⟩) fun hx hb k => lv_ior hx hb hd k
theorem ok_ixor (hd : decode (mb_ M) pc = .ok (.ixor, 1)) : ok_S M pc (sf_i2 mx_xor (pc + 1)) := ok_i2 (o1 := fun x y => x ^^^ y) (fun a b _ _ => ⟨Int32.ofInt_toInt _, so_t32 _⟩) fun hx hb k => lv_ixor hx hb hd k
theorem ok_ishl (hd : decode (mb_ M) pc = .ok (.ishl, 1)) : ok_S M pc (sf_i2 mx_shl (pc + 1)) := ok_i2 (o1 := fun x y => x <<< (y &&& 31)) (fun a b _ _ => ⟨Int32.ofInt_toInt _, so_t32 _⟩) fun hx hb k => lv_ishl hx hb hd k
theorem ok_ishr (hd : decode (mb_ M) pc = .ok (.ishr, 1)) : ok_S M pc (sf_i2 mx_shr (pc + 1)) := ok_i2 (o1 := fun x y => x >>> (y &&& 31)) (fun a b _ _ => ⟨Int32.ofInt_toInt _, so_t32 _⟩) fun hx hb k => lv_ishr hx hb hd k
theorem ok_iushr (hd : decode (mb_ M) pc = .ok (.iushr, 1)) : ok_S M pc (sf_i2 mx_ush (pc + 1)) := ok_i2 (o1 := fun x y => (x.toUInt32 >>> (y.toUInt32 &&& Int32.toUInt32 31)).toInt32) (fun a b _ _ => ⟨Int32.ofInt_toInt _, so_t32 _⟩) fun hx hb k => lv_iushr hx hb hd rfl k
theorem ok_i2d {o : Int → Int → Int} {o1 : Int32 → Int32 → Int32} {pc1 : Nat} (ho : ∀ a b : Int, so_c32 a → so_c32 b → Int32.ofInt (o a b) = o1 (Int32.ofInt a) (Int32.ofInt b) ∧ so_c32 (o a b)) (hw : ∀ {p : Program} {l : Launch} {e : Env} {R : Room} {s : State} {m : MethodId} {args : Array Value} {below : List Frame} {meth : Method} {c : Code} {Q : State → Prop} {H : Heap} {locs : List Loc} {cells slots : Nat} {ls : Array Slot} {rest : List Value} {x y : Int32}, p.tables.exec = Jvm.exec → c.code = mb_ M → ¬ y = 0 → W p l e R s m args below meth c H locs cells slots Q (F0 m pc1 ls (.int (o1 x y) :: rest)) → W p l e R s m args below meth c H locs cells slots Q (F0 m pc ls (.int y :: .int x :: rest))) : ok_S M pc (sf_i2d o pc1) := by
  intro B ga gq D K gS gh p l e R s m args below meth c d X Q n0 L st S h n hn hL
  rcases st with _ | ⟨⟨_ | _, b⟩, _ | ⟨⟨_ | _, a⟩, st⟩⟩ <;> try exact trivial
  unfold sf_i2d
  simp only []
  by_cases hz : b = 0
  · rw [if_neg (fun q => q hz)]; exact trivial
  · rw [if_pos hz]
    refine ⟨Int.le_refl _, rfl, fun _ _ kk H ls locs h1 h2 h3 => ?_⟩
    obtain ⟨e1, e2⟩ := ho a b (so_0c (so_Th (so_Tt h2))) (so_0c (so_Th h2))
    refine hw X.1 X.2.1 (fun q => hz ((so_eq32 (so_0c (so_Th h2)) ⟨by decide, by decide⟩).mp q)) ?_
    have := kk H ls locs h1 (so_Tc (so_k0 e2) (so_Tt (so_Tt h2))) h3
    rw [← e1]
    exact this
theorem ok_idiv (hd : decode (mb_ M) pc = .ok (.idiv, 1)) : ok_S M pc (sf_i2d mx_div (pc + 1)) := ok_i2d (o1 := fun x y => x / y) (fun a b ha hb => ⟨by
    unfold mx_div; rw [so_ow]
    apply Int32.toInt.inj
    rw [Int32.toInt_div, so_i32 ha, so_i32 hb, Int32.toInt_ofInt], so_w32 _⟩) fun hx hb hz k => lv_idiv hx hb hd hz k
theorem so_rem {a b : Int} (ha : so_c32 a) (hb : so_c32 b) : so_c32 (Int.tmod a b) := by
  have := so_t32 (Int32.ofInt a - Int32.ofInt a / Int32.ofInt b * Int32.ofInt b)
  rw [rem_toInt, so_i32 ha, so_i32 hb] at this
  exact this
theorem ok_irem (hd : decode (mb_ M) pc = .ok (.irem, 1)) : ok_S M pc (sf_i2d mx_rem (pc + 1)) := ok_i2d (o1 := fun x y => x - x / y * y) (fun a b ha hb => ⟨by
    apply Int32.toInt.inj
    rw [rem_toInt, so_i32 ha, so_i32 hb]; exact so_i32 (so_rem ha hb), so_rem ha hb⟩) fun hx hb hz k => lv_irem hx hb hd hz k
theorem ok_i1 {o : Int → Int} {o1 : Int32 → Int32} {pc1 : Nat} (ho : ∀ a : Int, so_c32 a → Int32.ofInt (o a) = o1 (Int32.ofInt a) ∧ so_c32 (o a)) (hw : ∀ {p : Program} {l : Launch} {e : Env} {R : Room} {s : State} {m : MethodId} {args : Array Value} {below : List Frame} {meth : Method} {c : Code} {Q : State → Prop} {H : Heap} {locs : List Loc} {cells slots : Nat} {ls : Array Slot} {rest : List Value} {x : Int32}, p.tables.exec = Jvm.exec → c.code = mb_ M → W p l e R s m args below meth c H locs cells slots Q (F0 m pc1 ls (.int (o1 x) :: rest)) → W p l e R s m args below meth c H locs cells slots Q (F0 m pc ls (.int x :: rest))) : ok_S M pc (sf_i1 o pc1) := by
  intro B ga gq D K gS gh p l e R s m args below meth c d X Q n0 L st S h n hn hL
  rcases st with _ | ⟨⟨_ | _, a⟩, st⟩ <;> try exact trivial
  refine ⟨Int.le_refl _, rfl, fun _ _ kk H ls locs h1 h2 h3 => ?_⟩
  obtain ⟨e1, e2⟩ := ho a (so_0c (so_Th h2))
  refine hw X.1 X.2.1 ?_
  have := kk H ls locs h1 (so_Tc (so_k0 e2) (so_Tt h2)) h3
  rw [← e1]
  exact this
theorem ok_ineg (hd : decode (mb_ M) pc = .ok (.ineg, 1)) : ok_S M pc (sf_i1 mx_neg (pc + 1)) := ok_i1 (o1 := fun x => -x) (fun a _ => ⟨by unfold mx_neg; rw [so_ow, Int32.ofInt_neg], so_w32 _⟩) fun hx hb k => lv_ineg hx hb hd k
theorem ok_i2b (hd : decode (mb_ M) pc = .ok (.i2b, 1)) : ok_S M pc (sf_i1 mx_i2b (pc + 1)) := ok_i1 (o1 := fun x => x.toInt8.toInt32) (fun a _ => ⟨Int32.ofInt_toInt _, so_t32 _⟩) fun hx hb k => lv_i2b hx hb hd rfl k
theorem ok_i2s (hd : decode (mb_ M) pc = .ok (.i2s, 1)) : ok_S M pc (sf_i1 mx_i2s (pc + 1)) := ok_i1 (o1 := fun x => x.toInt16.toInt32) (fun a _ => ⟨Int32.ofInt_toInt _, so_t32 _⟩) fun hx hb k => lv_i2s hx hb hd rfl k
theorem ok_i2c (hd : decode (mb_ M) pc = .ok (.i2c, 1)) : ok_S M pc (sf_i1 mx_i2c (pc + 1)) := ok_i1 (o1 := fun x => (x.toUInt32 % 65536).toInt32) (fun a _ => ⟨Int32.ofInt_toInt _, so_t32 _⟩) fun hx hb k => lv_i2c hx hb hd rfl k
theorem ok_l2 {o : Int → Int → Int} {o1 : Int64 → Int64 → Int64} {pc1 : Nat} (ho : ∀ a b : Int, so_c64 a → so_c64 b → Int64.ofInt (o a b) = o1 (Int64.ofInt a) (Int64.ofInt b) ∧ so_c64 (o a b)) (hw : ∀ {p : Program} {l : Launch} {e : Env} {R : Room} {s : State} {m : MethodId} {args : Array Value} {below : List Frame} {meth : Method} {c : Code} {Q : State → Prop} {H : Heap} {locs : List Loc} {cells slots : Nat} {ls : Array Slot} {rest : List Value} {x y : Int64}, p.tables.exec = Jvm.exec → c.code = mb_ M → W p l e R s m args below meth c H locs cells slots Q (F0 m pc1 ls (.long (o1 x y) :: rest)) → W p l e R s m args below meth c H locs cells slots Q (F0 m pc ls (.long y :: .long x :: rest))) : ok_S M pc (sf_l2 o pc1) := by
  intro B ga gq D K gS gh p l e R s m args below meth c d X Q n0 L st S h n hn hL
  rcases st with _ | ⟨⟨_ | _ | _, b⟩, _ | ⟨⟨_ | _ | _, a⟩, st⟩⟩ <;> try exact trivial
  refine ⟨Int.le_refl _, rfl, fun _ _ kk H ls locs h1 h2 h3 => ?_⟩
  obtain ⟨e1, e2⟩ := ho a b (so_1c (so_Th (so_Tt h2))) (so_1c (so_Th h2))
  refine hw X.1 X.2.1 ?_
  have := kk H ls locs h1 (so_Tc (so_k1 e2) (so_Tt (so_Tt h2))) h3
  rw [← e1]
  exact this
theorem ok_ladd (hd : decode (mb_ M) pc = .ok (.ladd, 1)) : ok_S M pc (sf_l2 ml_add (pc + 1)) := ok_l2 (o1 := fun x y => x + y) (fun a b _ _ => ⟨by unfold ml_add; rw [so_ol, Int64.ofInt_add], so_w64 _⟩) fun hx hb k => lv_ladd hx hb hd k
theorem ok_lsub (hd : decode (mb_ M) pc = .ok (.lsub, 1)) : ok_S M pc (sf_l2 ml_sub (pc + 1)) := ok_l2 (o1 := fun x y => x - y) (fun a b _ _ => ⟨by unfold ml_sub; rw [so_ol, Int64.ofInt_sub], so_w64 _⟩) fun hx hb k => lv_lsub hx hb hd k
theorem ok_lmul (hd : decode (mb_ M) pc = .ok (.lmul, 1)) : ok_S M pc (sf_l2 ml_mul (pc + 1)) := ok_l2 (o1 := fun x y => x * y) (fun a b _ _ => ⟨by unfold ml_mul; rw [so_ol, Int64.ofInt_mul], so_w64 _⟩) fun hx hb k => lv_lmul hx hb hd k
theorem ok_land (hd : decode (mb_ M) pc = .ok (.land, 1)) : ok_S M pc (sf_l2 ml_and (pc + 1)) := ok_l2 (o1 := fun x y => x &&& y) (fun a b _ _ => ⟨Int64.ofInt_toInt _, so_t64 _⟩) fun hx hb k => lv_land hx hb hd k
theorem ok_lor (hd : decode (mb_ M) pc = .ok (.lor, 1)) : ok_S M pc (sf_l2 ml_or (pc + 1)) := ok_l2 (o1 := fun x y => x ||| y) (fun a b _ _ => ⟨Int64.ofInt_toInt _, so_t64 _⟩) fun hx hb k => lv_lor hx hb hd k
theorem so_rml (x y : Int64) : (x - (x / y) * y).toInt = x.toInt.tmod y.toInt := by
  have e : x - (x / y) * y = x % y := by
    apply Int64.toInt_inj.mp
    have h1 := Int64.le_toInt (x % y)
    have h2 := Int64.toInt_lt (x % y)
    rw [Int64.toInt_sub, Int64.toInt_mul, Int64.toInt_div, Int.bmod_mul_bmod, Int.sub_bmod_bmod, Int.mul_comm (x.toInt.tdiv y.toInt), ← Int.tmod_def, ← Int64.toInt_mod]
    exact Int.bmod_eq_of_le_mul_two (by omega) (by omega)
  rw [e]; exact Int64.toInt_mod x y
theorem so_reml {a b : Int} (ha : so_c64 a) (hb : so_c64 b) : so_c64 (Int.tmod a b) := by
  have := so_t64 (Int64.ofInt a - Int64.ofInt a / Int64.ofInt b * Int64.ofInt b)
  rw [so_rml, so_i64 ha, so_i64 hb] at this
  exact this
theorem ok_lrem (hd : decode (mb_ M) pc = .ok (.lrem, 1)) : ok_S M pc (sf_l2d ml_rem (pc + 1)) := by
  intro B ga gq D K gS gh p l e R s m args below meth c d X Q n0 L st S h n hn hL
  rcases st with _ | ⟨⟨_ | _ | _, b⟩, _ | ⟨⟨_ | _ | _, a⟩, st⟩⟩ <;> try exact trivial
  unfold sf_l2d
  simp only []
  by_cases hz : b = 0
  · rw [if_neg (fun q => q hz)]; exact trivial
  · rw [if_pos hz]
    refine ⟨Int.le_refl _, rfl, fun _ _ kk H ls locs h1 h2 h3 => ?_⟩
    have ha := so_1c (so_Th (so_Tt h2))
    have hb := so_1c (so_Th h2)
    refine lv_lrem X.1 X.2.1 hd (fun q => hz ?_) ?_
    · have := congrArg Int64.toInt q
      rw [so_i64 hb] at this
      exact this
    · have := kk H ls locs h1 (so_Tc (so_k1 (so_reml ha hb)) (so_Tt (so_Tt h2))) h3
      have e1 : Int64.ofInt (Int.tmod a b) = Int64.ofInt a - Int64.ofInt a / Int64.ofInt b * Int64.ofInt b := by
        apply Int64.toInt.inj
        rw [so_rml, so_i64 ha, so_i64 hb]; exact so_i64 (so_reml ha hb)
      rw [← e1]
      exact this
theorem ok_ls {o : Int → Int → Int} {o1 : Int64 → Int32 → Int64} {pc1 : Nat} (ho : ∀ a b : Int, Int64.ofInt (o a b) = o1 (Int64.ofInt a) (Int32.ofInt b) ∧ so_c64 (o a b)) (hw : ∀ {p : Program} {l : Launch} {e : Env} {R : Room} {s : State} {m : MethodId} {args : Array Value} {below : List Frame} {meth : Method} {c : Code} {Q : State → Prop} {H : Heap} {locs : List Loc} {cells slots : Nat} {ls : Array Slot} {rest : List Value} {x : Int64} {y : Int32}, p.tables.exec = Jvm.exec → c.code = mb_ M → W p l e R s m args below meth c H locs cells slots Q (F0 m pc1 ls (.long (o1 x y) :: rest)) → W p l e R s m args below meth c H locs cells slots Q (F0 m pc ls (.int y :: .long x :: rest))) : ok_S M pc (sf_ls o pc1) := by
  intro B ga gq D K gS gh p l e R s m args below meth c d X Q n0 L st S h n hn hL
  rcases st with _ | ⟨⟨_ | _, b⟩, _ | ⟨⟨_ | _ | _, a⟩, st⟩⟩ <;> try exact trivial
  refine ⟨Int.le_refl _, rfl, fun _ _ kk H ls locs h1 h2 h3 => ?_⟩
  obtain ⟨e1, e2⟩ := ho a b
  refine hw X.1 X.2.1 ?_
  have := kk H ls locs h1 (so_Tc (so_k1 e2) (so_Tt (so_Tt h2))) h3
  rw [← e1]
  exact this
theorem ok_lshl (hd : decode (mb_ M) pc = .ok (.lshl, 1)) : ok_S M pc (sf_ls ml_shl (pc + 1)) := ok_ls (o1 := fun x y => x <<< (y.toInt64 &&& 63)) (fun a b => ⟨Int64.ofInt_toInt _, so_t64 _⟩) fun hx hb k => lv_lshl hx hb hd rfl k
theorem ok_lshr (hd : decode (mb_ M) pc = .ok (.lshr, 1)) : ok_S M pc (sf_ls ml_shr (pc + 1)) := ok_ls (o1 := fun x y => x >>> (y.toInt64 &&& 63)) (fun a b => ⟨Int64.ofInt_toInt _, so_t64 _⟩) fun hx hb k => lv_lshr hx hb hd rfl k
theorem ok_lushr (hd : decode (mb_ M) pc = .ok (.lushr, 1)) : ok_S M pc (sf_ls ml_ush (pc + 1)) := ok_ls (o1 := fun x y => (x.toUInt64 >>> (y.toInt64.toUInt64 &&& Int64.toUInt64 63)).toInt64) (fun a b => ⟨Int64.ofInt_toInt _, so_t64 _⟩) fun hx hb k => lv_lushr hx hb hd rfl k
theorem ok_i2l (hd : decode (mb_ M) pc = .ok (.i2l, 1)) : ok_S M pc (sf_i2l (pc + 1)) := by
  intro B ga gq D K gS gh p l e R s m args below meth c d X Q n0 L st S h n hn hL
  rcases st with _ | ⟨⟨_ | _, a⟩, st⟩ <;> try exact trivial
  refine ⟨Int.le_refl _, rfl, fun _ _ kk H ls locs h1 h2 h3 => ?_⟩
  have ha := so_0c (so_Th h2)
  refine lv_i2l (v := Int64.ofInt a) X.1 X.2.1 hd ?_ (kk H ls locs h1 (so_Tc (so_k1 (so_c6432 ha)) (so_Tt h2)) h3)
  apply Int64.toInt.inj
  rw [Int32.toInt_toInt64, so_i32 ha, so_i64 (so_c6432 ha)]
theorem ok_l2i (hd : decode (mb_ M) pc = .ok (.l2i, 1)) : ok_S M pc (sf_l2i (pc + 1)) := by
  intro B ga gq D K gS gh p l e R s m args below meth c d X Q n0 L st S h n hn hL
  rcases st with _ | ⟨⟨_ | _ | _, a⟩, st⟩ <;> try exact trivial
  refine ⟨Int.le_refl _, rfl, fun _ _ kk H ls locs h1 h2 h3 => ?_⟩
  have ha := so_1c (so_Th h2)
  refine lv_l2i (v := Int32.ofInt (mx_w a)) X.1 X.2.1 hd ?_ (kk H ls locs h1 (so_Tc (so_k0 (so_w32 a)) (so_Tt h2)) h3)
  apply Int32.toInt.inj
  rw [Int64.toInt_toInt32, so_i64 ha, so_i32 (so_w32 a)]; rfl
theorem ok_goto {off : Int} {t : Nat} (hd : decode (mb_ M) pc = .ok (.goto off, 3)) (ht : (pc : Int) + off = (t : Int)) : ok_S M pc (sf_go t) := by
  intro B ga gq D K gS gh p l e R s m args below meth c d X Q n0 L st S h n hn hL
  exact ⟨Int.le_refl _, rfl, fun _ _ kk H ls locs h1 h2 h3 => lv_goto X.1 X.2.1 hd ht (kk H ls locs h1 h2 h3)⟩
end
