/-! Calls of what kinds have of their own, and of the class above -/
theorem so_vtm {t : Int} {y : Nat} : ∀ {vt : List (Int × Nat)}, mx_vt t vt = some y → (t, y) ∈ vt
  | [], h => by cases h
  | (k, z) :: vt, h => by
    rw [mx_vt] at h
    by_cases q : t = k
    · rw [if_pos q] at h; cases h; subst q; exact List.mem_cons_self
    · rw [if_neg q] at h; exact List.mem_cons_of_mem _ (so_vtm h)
/-- a receiver of tag t runs y where x is named -/
def so_V (x : MethodName) (ts : List Nat) (t : Int) (y : Nat) : Prop := ∃ C : String, so_cl t C ∧ so_m y ∧ Cond.selects C x (my_ y) ∈ tb_g ∧ Cond.instanceMethod (my_ y) ∈ tb_g ∧ Cond.initialized (my_ y).cls ∈ tb_g ∧ mx_wd ts ≤ mx_ml y ∧ mx_ml y ≤ 40
/-- the words of the call itself -/
def so_Vx (M i k : Nat) (x : MethodName) (ow : String) : Prop := Cond.methodLink (my_ M).cls i x ∈ tb_g ∧ Cond.sameMethod x.cls ow x.name x.desc ∈ tb_g ∧ Cond.instanceMethod ⟨ow, x.name, x.desc⟩ ∈ tb_g ∧ (∃ b0 m0 r0, Cond.code ⟨ow, x.name, x.desc⟩ b0 m0 r0 ∈ tb_g) ∧ so_mh ow ∧ (parseMethodDescriptor x.desc).map (fun d => d.parameters.length) = some k
section
variable {M pc : Nat}
theorem so_cuR {B : Nat} {ga : Int → Nat} {gq : Value} {D : va_G} {K : Nat → ClassId} {gS gh : mx_H} {p : Program} {l : Launch} {e : Env} {R : Room} {s : State} {m : MethodId} {args : Array Value} {below : List Frame} {meth : Method} {c : Code} {d : Nat} {S h : mx_H} {n a : Int} {L : mx_L} {st as : List mx_V} {ts : List Nat} {y i k : Nat} {x : MethodName} {ow : String} (X : so_X B ga gq D K gS gh p R s m args meth c M d) (hL : L.length = mx_ml M) (hx : so_Vx M i k x ow) (hv : so_V x ts (S a (-2)) y) (hd : decode (mb_ M) pc = .ok (.invokevirtual i, 3)) (hk : ts.length = k + 1) (qa : (st.take ts.length).reverse = (2, a) :: as) (q1 : ts.length ≤ st.length) (q3 : (st.drop ts.length).length ≤ 4) {H : Heap} {ls : Array Slot} {locs : List Loc} {cells slots : Nat} (h1 : so_L B ga gq L ls) (h3 : so_I B ga D K gS gh s S h n H locs) {rm : Room} {Pc : Array Value → State → Prop} {Qc : Array Value → State → Outcome → State → Prop} {mc ms : Nat} {free : Addr → Prop} (hM : Met l (my_ y) (Cond.code (my_ y) (mb_ y) (mx_ml y) (mr_ y) :: tb_g) rm Pc Qc mc ms free) (hrc : rm.cells = mc) (hrs : rm.slots = ms) (hrf : rm.frames + 1 ≤ d + 1) (hrl : rm.locals ≤ 60 * (d + 1)) (hbl : FrameBlind Pc) (hPc : ∀ U : State, U.heap = H → s.WarmedH U.vm → Pc (((2, a) :: as).map (so_v B ga gq)).toArray U) (hc : cells + mc ≤ R.cells) (hs : slots + ms ≤ R.slots) : va_Run p l e R s m args below meth c H locs cells slots mc ms (F0 m pc ls (st.map (so_v B ga gq))) ((st.drop ts.length).map (so_v B ga gq)) (Qc (((2, a) :: as).map (so_v B ga gq)).toArray) free := by
  have hts := X.2.2.2.2.2.1
  have hcat := so_st4 (B := B) (ga := ga) (gq := gq) q3
  have hlo := X.2.2.2.2.2.2.2.2.2.2.2.2
  have hfr := X.2.2.2.2.2.2.2.2.2.2.2.1
  obtain ⟨C, hcl, hy, hsel, hiny, hini, hwd, hml⟩ := hv
  obtain ⟨x1, x2, x3, ⟨b0, m0, r0, x4⟩, hmh, hp⟩ := hx
  obtain ⟨a0, hrc2, -⟩ := so_pv (a := a) h3 X.2.2.2.2.2.2.2.2.2.1 X.2.2.2.2.2.2.1 hcl
  have hl := so_stl qa q1
  simp only [List.length_cons] at hl
  rw [so_avs (by omega)] at hPc ⊢
  refine va_runU (cc := mb_ M) (nL := mx_ml M) (C := C) (As := as.map (so_v B ga gq)) ⟨X.1, X.2.1, X.2.2.1, X.2.2.2.2.1, hts⟩ hM (va_cwO k hts (so_gl ?_) rfl hrc hrs x4 ⟨hmh.1, hmh.2, hp⟩ ⟨by omega, by omega⟩) ⟨hbl, hrc2, hPc⟩ rfl (by rw [List.length_map]; omega) (h1.1.trans hL) (so_stk2 (by omega) qa) (by show 2 * 0 + _ ≤ 8; omega) hd ⟨hc, hs⟩
  intro w hv
  unfold va_wsO at hv
  rcases List.mem_append.mp hv with hv | hv
  · simp only [List.mem_cons, List.not_mem_nil, or_false] at hv
    rcases hv with rfl | rfl | rfl | rfl | rfl | rfl
    · exact x1
    · exact x2
    · exact x3
    · exact hsel
    · exact hiny
    · exact hini
  · exact so_cg hy.2 w hv
theorem ok_cu {vt : List (Int × Nat)} {ts : List Nat} {i k : Nat} {x : MethodName} {ow : String} (hx : so_Vx M i k x ow) (hv : ∀ q ∈ vt, so_V x ts q.1 q.2) (hd : decode (mb_ M) pc = .ok (.invokevirtual i, 3)) (hk : ts.length = k + 1) : ok_S M pc (sf_cu vt ts (pc + 3)) := by
  intro B ga gq D K gS gh p l e R s m args below meth c d X Q n0 L st S h n hn hL
  unfold sf_cu
  rcases qa : (st.take ts.length).reverse with _ | ⟨⟨_ | _ | _ | _, a⟩, as⟩ <;> try exact trivial
  simp only []
  cases qy : mx_vt (S a (-2)) vt with
  | none => exact trivial
  | some y =>
    simp only []
    by_cases q : ts.length ≤ st.length ∧ ((2, a) :: as).map Prod.fst = ts ∧ (st.drop ts.length).length ≤ 4
    · rw [if_pos q]
      obtain ⟨q1, q2, q3⟩ := q
      have hvy := hv _ (so_vtm qy)
      refine ⟨rfl, rfl, fun h2 => by have := so_Ttk (k := ts.length) h2; rw [qa] at this; exact this, hvy.choose_spec.2.1, by rw [q2]; exact hvy.choose_spec.2.2.2.2.2.1, fun H ls locs cells slots h1 h2 h3 rm Pc Qc mc ms free hM hrc hrs hrf hrl hbl hPc hc hs => ?_⟩
      exact so_cuR X hL hx hvy hd hk qa q1 q3 h1 h3 hM hrc hrs hrf hrl hbl hPc hc hs
    · rw [if_neg q]; exact trivial
theorem ok_cu1 {lo hi : Int} {ts : List Nat} {y i k : Nat} {x : MethodName} {ow : String} (hx : so_Vx M i k x ow) (hv : ∀ t : Int, lo ≤ t → t ≤ hi → so_V x ts t y) (hy : so_m y) (hwd : mx_wd ts ≤ mx_ml y) (hd : decode (mb_ M) pc = .ok (.invokevirtual i, 3)) (hk : ts.length = k + 1) : ok_S M pc (sf_ci lo hi ts y (pc + 3)) := by
  intro B ga gq D K gS gh p l e R s m args below meth c d X Q n0 L st S h n hn hL
  unfold sf_ci
  rcases qa : (st.take ts.length).reverse with _ | ⟨⟨_ | _ | _ | _, a⟩, as⟩ <;> try exact trivial
  simp only []
  by_cases q : (lo ≤ S a (-2) ∧ S a (-2) ≤ hi) ∧ ts.length ≤ st.length ∧ ((2, a) :: as).map Prod.fst = ts ∧ (st.drop ts.length).length ≤ 4
  · rw [if_pos q]
    obtain ⟨q0, q1, q2, q3⟩ := q
    refine ⟨rfl, rfl, fun h2 => by have := so_Ttk (k := ts.length) h2; rw [qa] at this; exact this, hy, by rw [q2]; exact hwd, fun H ls locs cells slots h1 h2 h3 rm Pc Qc mc ms free hM hrc hrs hrf hrl hbl hPc hc hs => ?_⟩
    exact so_cuR X hL hx (hv _ q0.1 q0.2) hd hk qa q1 q3 h1 h3 hM hrc hrs hrf hrl hbl hPc hc hs
  · rw [if_neg q]; exact trivial
/-- a method of the class above, its own or one that it has from above -/
theorem so_csu {p : Program} {l : Launch} {e : Env} {R : Room} {s : State} {m : MethodId} {args : Array Value} {below : List Frame} {meth : Method} {c : Code} {T : State} {locs : List Loc} {cells slots : Nat} (X : Stand p l e R s m args below meth c T locs cells slots) (hexec : p.tables.exec = Jvm.exec) {own ow : String} {index : Nat} {x : MethodName} {bytes : ByteArray} {maxL : Nat} {ret : Option FieldType}
    (hown : s.vm.findClass own = some m.cls) (hlink : (Cond.methodLink own index x).before args s = true) (hsame : (Cond.sameMethod x.cls ow x.name x.desc).before args s = true) (hsup : (Cond.superclass own x.cls).before args s = true) (hup : ow = x.cls ∨ (Cond.superclass x.cls ow).before args s = true)
    (hinst : (Cond.instanceMethod ⟨ow, x.name, x.desc⟩).before args s = true) (hcode : (Cond.code ⟨ow, x.name, x.desc⟩ bytes maxL ret).before args s = true) (hno : x.name ≠ "<init>")
    {W : Nat} {Pre : Pt → Array Value → Prop} {Post : Pt → Array Value → Option Value → Pt → Prop} (hK : Back l R p e below s args ⟨ow, x.name, x.desc⟩ 3 W Pre Post)
    {b : Addr} {cellB : Cell} {kB : Class} (hcell : T.heap[b]? = some cellB) (hobj : cellB.vm.isStatics = false) (hkB : s.vm.classes[cellB.cls]? = some kB)
    {g : JFrame} (hg : g.method = m) (hsize : g.locals.size = c.maxLocals) {argsL rest : List Value} (hlen : ∀ sig, parseMethodDescriptor x.desc = some sig → argsL.length = sig.parameters.length)
    (hstack : g.stack = argsL.reverse ++ .ref b :: rest) (hW : 2 * g.monitorRoom + (rest.map fun v => v.category).sum ≤ W) (hdg : decode c.code g.pc = .ok (.invokespecial index, 3))
    (hpre : ∀ vm₁, s.WarmedH vm₁ → Pre ⟨T.setVm vm₁, locs, cells, slots⟩ (Value.ref b :: argsL).toArray) :
    ∃ (v : Option Value) (vm₁ : Vm) (B : Pt), s.WarmedH vm₁ ∧ Stand p l e R s m args below meth c B.U B.locs B.cells B.slots ∧ Post ⟨T.setVm vm₁, locs, cells, slots⟩ (Value.ref b :: argsL).toArray v B ∧
      ∀ target, Steps p.tables e below (B.U.setTop { g with pc := g.pc + 3, stack := v.toList ++ rest }) target → Steps p.tables e below (T.setTop g) target := by
  obtain ⟨mk, methM, hnamed, hmethM, hstM, habM⟩ := Cond.instanceMethod_spec hinst
  obtain ⟨methM', cM, hmethM', -, -, -, -, -, -, hsigM⟩ := Cond.code_spec hnamed hcode
  cases hmethM.symm.trans hmethM'
  obtain ⟨ps, dk, kp, hps, hdk, hkp, hsuper, -, -, hnid⟩ := Cond.superclass_spec hown hsup
  have hfo : s.vm.findClass ow = some mk.cls := findClass_of_methodNamed hnamed
  have hsub : s.vm.isSubclass ps mk.cls = true := by
    rcases hup with e1 | e1
    · rw [e1] at hfo
      have hpm : ps = mk.cls := Option.some.inj (hps.symm.trans hfo)
      rw [hpm]; simp [Vm.isSubclass, Vm.isSubclassAux]
    · obtain ⟨p2, k2, kp2, w1, w2, w3, w4, -⟩ := Cond.superclass_spec hps e1
      have hpm : p2 = mk.cls := Option.some.inj (w1.symm.trans hfo)
      subst hpm
      have hsz : 0 < s.vm.classes.size := Nat.lt_of_le_of_lt (Nat.zero_le _) (Array.getElem?_eq_some_iff.mp w2).1
      obtain ⟨z, hz⟩ : ∃ z, s.vm.classes.size = z + 1 := ⟨s.vm.classes.size - 1, by omega⟩
      unfold Vm.isSubclass
      rw [hz]
      unfold Vm.isSubclassAux
      rw [w2]
      simp only [w4]
      unfold Vm.isSubclassAux
      simp
  obtain ⟨vm₁, X₁, hstep₁⟩ := X.invokespecialUp hexec hown hlink hsame hnamed hmethM hstM habM hno hdk hnid hps hsuper hsub (a := b) (cell := cellB) hcell
    (fun z h => by rw [h] at hobj; cases hobj) hkB (g := g) hg (argsL := argsL) (rest := rest) (hlen _ hsigM) hstack hdg
  obtain ⟨v, B, X', hpost, hsteps⟩ := hK m meth c ⟨T.setVm vm₁, locs, cells, slots⟩ { g with stack := rest } (.invokespecial index) mk (Value.ref b :: argsL).toArray X₁ hg hsize hdg hW (X₁.named hnamed) (hpre vm₁ X₁.warmed)
  exact ⟨v, vm₁, B, X₁.warmed, X', hpost, fun target h => hstep₁ _ (by rw [doInvoke_state]; exact hsteps.trans h)⟩
theorem ok_csu {ts : List Nat} {y i k : Nat} {x : MethodName} {ow : String} (hy : so_m y) (hyx : my_ y = ⟨ow, x.name, x.desc⟩) (hd : decode (mb_ M) pc = .ok (.invokespecial i, 3)) (hw : Cond.methodLink (my_ M).cls i x ∈ tb_g) (hsm : Cond.sameMethod x.cls ow x.name x.desc ∈ tb_g) (hsp : Cond.superclass (my_ M).cls x.cls ∈ tb_g) (hup : ow = x.cls ∨ Cond.superclass x.cls ow ∈ tb_g) (hin : Cond.instanceMethod (my_ y) ∈ tb_g) (hini : Cond.initialized (my_ y).cls ∈ tb_g) (hnm : x.name ≠ "<init>") (hk : ts.length = k + 1) (hp : (parseMethodDescriptor x.desc).map (fun d => d.parameters.length) = some k) (hwd : mx_wd ts ≤ mx_ml y) (hml : mx_ml y ≤ 40) (hcl : ∀ t : Int, 1 ≤ t → t ≤ 6 → ∃ C, so_cl t C) : ok_S M pc (sf_ci 1 6 ts y (pc + 3)) := by
  intro B ga gq D K gS gh p l e R s m args below meth c d X Q n0 L st S h n hn hL
  unfold sf_ci
  rcases qa : (st.take ts.length).reverse with _ | ⟨⟨_ | _ | _ | _, a⟩, as⟩ <;> try exact trivial
  simp only []
  by_cases q : (1 ≤ S a (-2) ∧ S a (-2) ≤ 6) ∧ ts.length ≤ st.length ∧ ((2, a) :: as).map Prod.fst = ts ∧ (st.drop ts.length).length ≤ 4
  · rw [if_pos q]
    obtain ⟨q0, q1, q2, q3⟩ := q
    refine ⟨rfl, rfl, fun h2 => by have := so_Ttk (k := ts.length) h2; rw [qa] at this; exact this, hy, by rw [q2]; exact hwd, fun H ls locs cells slots h1 h2 h3 rm Pc Qc mc ms free hM hrc hrs hrf hrl hbl hPc hc hs => ?_⟩
    have hts := X.2.2.2.2.2.1
    have hcat := so_st4 (B := B) (ga := ga) (gq := gq) q3
    have hlo := X.2.2.2.2.2.2.2.2.2.2.2.2
    have hfr := X.2.2.2.2.2.2.2.2.2.2.2.1
    obtain ⟨C, hC⟩ := hcl _ q0.1 q0.2
    obtain ⟨a0, ⟨cellB, hcB, hoB, hclB⟩, cC, hat⟩ := so_pv (a := a) h3 X.2.2.2.2.2.2.2.2.2.1 X.2.2.2.2.2.2.1 hC
    obtain ⟨hfc, kB, hkB, -⟩ := hat
    cases hfc.symm.trans hclB
    have hl := so_stl qa q1
    simp only [List.length_cons] at hl
    rw [so_avs (by omega)] at hPc ⊢
    have hgi : GoodIn tb_g (Cond.code (my_ y) (mb_ y) (mx_ml y) (mr_ y) :: tb_g) := so_gl (so_cg hy.2)
    have hK : Back l R p e below s args (my_ y) 3 8 (PreOf R mc ms Pc) (PostOf Qc mc ms free) := back_of (bytes := mb_ y) (maxL := mx_ml y) (ret := mr_ y) hM hbl hrc hrs (by omega) (by omega) (pay_in hts hgi) List.mem_cons_self (fun a' U hW => word_at hW (Or.inl (by first | rfl | simp [Cond.onTables, Cond.keeps, Cond.steady])) (hts _ hini))
    have hcode := hts _ hy.2
    have hin2 := hts _ hin
    rw [hyx] at hK hin2 hcode
    intro T hT X0
    obtain ⟨v, vm₁, ⟨U', l2, c2, s2⟩, hW₁, X', ⟨g', mk, t, Lx, e1, e2, hq, w1, hLx, w2, w3⟩, stp⟩ := so_csu X0 X.1 (bytes := mb_ y) (maxL := mx_ml y) (ret := mr_ y) X.2.2.2.2.1 (hts _ hw) (hts _ hsm) (hts _ hsp) (hup.elim Or.inl (fun z => Or.inr (hts _ z))) hin2 hcode hnm hK (b := so_ad B ga a) (by rw [hT]; exact hcB) hoB hkB (g := F0 m pc ls (st.map (so_v B ga gq))) rfl (by show ls.size = c.maxLocals; rw [h1.1, hL]; exact X.2.2.1.symm) (argsL := as.map (so_v B ga gq)) (rest := (st.drop ts.length).map (so_v B ga gq)) (fun sig hsig => by
        rw [hsig] at hp
        have := Option.some.inj hp
        simp only at this
        rw [List.length_map]; omega) (so_stk2 (by omega) qa) (by show 2 * 0 + _ ≤ 8; omega) (by rw [X.2.1]; exact hd)
      (fun vm₁ hW₁ => ⟨hc, hs, hPc (T.setVm vm₁) hT hW₁⟩)
    dsimp only [Pt.U, Pt.locs, Pt.cells, Pt.slots] at X' e1 e2 w1 w2 w3 stp
    subst w1; subst w2; subst w3
    exact ⟨v, (T.setVm vm₁).calling g' mk (Value.ref (so_ad B ga a) :: as.map (so_v B ga gq)).toArray, t, U', Lx, hT, X', hLx, e1, e2, hq, stp⟩
  · rw [if_neg q]; exact trivial
end
