/-! Calls -/
theorem so_gl {l : List Cond} (h : ∀ w ∈ l, w ∈ tb_g) : GoodIn tb_g l := fun w hw => ⟨h w hw, tb_good w (h w hw)⟩
theorem so_cg {w : Cond} (hw : w ∈ tb_g) : ∀ v ∈ w :: tb_g, v ∈ tb_g := fun v hv => (List.mem_cons.mp hv).elim (fun e => e ▸ hw) id
theorem so_Ttk {st : List mx_V} {k : Nat} (h : so_T st) : so_T (st.take k).reverse ∧ so_T (st.drop k) := ⟨fun v hv => h v (List.mem_of_mem_take (List.mem_reverse.mp hv)), fun v hv => h v (List.mem_of_mem_drop hv)⟩
theorem so_stk {f : mx_V → Value} {st as : List mx_V} {k : Nat} (h : (st.take k).reverse = as) : st.map f = (as.map f).reverse ++ (st.drop k).map f := by
  subst h
  rw [List.map_reverse, List.reverse_reverse, ← List.map_append, List.take_append_drop]
theorem so_stl {st as : List mx_V} {k : Nat} (h : (st.take k).reverse = as) (hk : k ≤ st.length) : as.length = k := by
  subst h; simp; omega
def so_mh (C : String) : Prop := C ≠ "java/lang/invoke/MethodHandle" ∧ C ≠ "java/lang/invoke/VarHandle"
section
variable {M pc : Nat}
theorem ok_cs {ts : List Nat} {y i : Nat} (hy : so_m y) (hd : decode (mb_ M) pc = .ok (.invokestatic i, 3)) (hw : Cond.methodLink (my_ M).cls i (my_ y) ∈ tb_g) (hst : Cond.static (my_ y) ∈ tb_g) (hini : Cond.initialized (my_ y).cls ∈ tb_g) (hp : (parseMethodDescriptor (my_ y).desc).map (fun d => d.parameters.length) = some ts.length) (hmh : so_mh (my_ y).cls) (hwd : mx_wd ts ≤ mx_ml y) (hml : mx_ml y ≤ 40) : ok_S M pc (sf_cs ts y (pc + 3)) := by
  intro B ga gq D K gS gh p l e R s m args below meth c d X Q n0 L st S h n hn hL
  unfold sf_cs
  by_cases q : ts.length ≤ st.length ∧ ((st.take ts.length).reverse).map Prod.fst = ts ∧ (st.drop ts.length).length ≤ 4
  · rw [if_pos q]
    obtain ⟨q1, q2, q3⟩ := q
    refine ⟨rfl, rfl, fun h2 => so_Ttk h2, hy, by rw [q2]; exact hwd, fun H ls locs cells slots h1 h2 h3 rm Pc Qc mc ms free hM hrc hrs hrf hrl hbl hPc hc hs => ?_⟩
    have hts := X.2.2.2.2.2.1
    have hcat := so_st4 (B := B) (ga := ga) (gq := gq) q3
    have hlo := X.2.2.2.2.2.2.2.2.2.2.2.2
    have hfr := X.2.2.2.2.2.2.2.2.2.2.2.1
    refine va_runS (cc := mb_ M) (nL := mx_ml M) (As := ((st.take ts.length).reverse).map (so_v B ga gq)) ⟨X.1, X.2.1, X.2.2.1, X.2.2.2.2.1, hts⟩ hM (va_cwS ts.length hts (so_gl ?_) rfl hrc hrs ⟨hmh.1, hmh.2, hp⟩ ⟨by omega, by omega⟩) ⟨hbl, hPc⟩ rfl (by rw [List.length_map]; exact so_stl rfl q1) (h1.1.trans hL) (so_stk rfl) (by show 2 * 0 + _ ≤ 8; omega) hd ⟨hc, hs⟩
    intro w hv
    unfold va_wsS at hv
    rcases List.mem_append.mp hv with hv | hv
    · simp only [List.mem_cons, List.not_mem_nil, or_false] at hv
      rcases hv with rfl | rfl | rfl
      · exact hw
      · exact hst
      · exact hini
    · exact so_cg hy.2 w hv
  · rw [if_neg q]; exact trivial
theorem ok_csn {ts : List Nat} {y i : Nat} {host : String} (hy : so_m y) (hd : decode (mb_ M) pc = .ok (.invokestatic i, 3)) (hw : Cond.methodLinkNest (my_ M).cls i (my_ y) host ∈ so_nw) (hst : Cond.static (my_ y) ∈ tb_g) (hini : Cond.initialized (my_ y).cls ∈ tb_g) (hp : (parseMethodDescriptor (my_ y).desc).map (fun d => d.parameters.length) = some ts.length) (hmh : so_mh (my_ y).cls) (hwd : mx_wd ts ≤ mx_ml y) (hml : mx_ml y ≤ 40) : ok_S M pc (sf_cs ts y (pc + 3)) := by
  intro B ga gq D K gS gh p l e R s m args below meth c d X Q n0 L st S h n hn hL
  unfold sf_cs
  by_cases q : ts.length ≤ st.length ∧ ((st.take ts.length).reverse).map Prod.fst = ts ∧ (st.drop ts.length).length ≤ 4
  · rw [if_pos q]
    obtain ⟨q1, q2, q3⟩ := q
    refine ⟨rfl, rfl, fun h2 => so_Ttk h2, hy, by rw [q2]; exact hwd, fun H ls locs cells slots h1 h2 h3 rm Pc Qc mc ms free hM hrc hrs hrf hrl hbl hPc hc hs => ?_⟩
    have hts := X.2.2.2.2.2.1
    have hcat := so_st4 (B := B) (ga := ga) (gq := gq) q3
    have hlo := X.2.2.2.2.2.2.2.2.2.2.2.2
    have hfr := X.2.2.2.2.2.2.2.2.2.2.2.1
    exact va_runSN (cc := mb_ M) (nL := mx_ml M) (As := ((st.take ts.length).reverse).map (so_v B ga gq)) ⟨X.1, X.2.1, X.2.2.1, X.2.2.2.2.1, hts⟩ hM ⟨va_cnB ts.length hts (so_gl (so_cg hy.2)) rfl hrc hrs (X.2.2.2.2.2.2.2.2.2.1.2.2.2.2.2.2.2.2.2.1 _ hw) (hts _ hini) ⟨hmh.1, hmh.2, hp⟩ ⟨by omega, by omega⟩, hts _ hst, trivial⟩ ⟨hbl, hPc⟩ rfl (by rw [List.length_map]; exact so_stl rfl q1) (h1.1.trans hL) (so_stk rfl) (by show 2 * 0 + _ ≤ 8; omega) hd ⟨hc, hs⟩
  · rw [if_neg q]; exact trivial
theorem so_stk2 {B : Nat} {ga : Int → Nat} {gq : Value} {st as : List mx_V} {a : Int} {k : Nat} (ha : a ≠ -1) (h : (st.take k).reverse = (2, a) :: as) : st.map (so_v B ga gq) = (as.map (so_v B ga gq)).reverse ++ .ref (so_ad B ga a) :: (st.drop k).map (so_v B ga gq) := by
  have := so_stk (f := so_v B ga gq) h
  rw [this, List.map_cons, List.reverse_cons, List.append_assoc]
  have e : so_v B ga gq (2, a) = .ref (so_ad B ga a) := so_rr ha
  rw [e]; rfl
theorem so_avs {B : Nat} {ga : Int → Nat} {gq : Value} {as : List mx_V} {a : Int} (ha : a ≠ -1) : (((2, a) :: as).map (so_v B ga gq)).toArray = (Value.ref (so_ad B ga a) :: as.map (so_v B ga gq)).toArray := by
  have e : so_v B ga gq (2, a) = .ref (so_ad B ga a) := so_rr ha
  rw [List.map_cons, e]
/-- the tag's class is C -/
def so_cl (t : Int) (C : String) : Prop := 1 ≤ t ∧ t ≤ 13 ∧ ∀ q : vw_C, vwCl[so_ci t]? = some q → q.1 = C
theorem so_pv {B : Nat} {ga : Int → Nat} {gq : Value} {D : va_G} {K : Nat → ClassId} {gS gh : mx_H} {s : State} {S h : mx_H} {n a : Int} {H : Heap} {locs : List Loc} {C : String} (I : so_I B ga D K gS gh s S h n H locs) (G : so_G B ga gq gS gh s) (hK : va_K D vwCl (so_ty K) s) (hc : so_cl (S a (-2)) C) : 0 ≤ a ∧ (∃ cellB : Cell, H[so_ad B ga a]? = some cellB ∧ cellB.vm.isStatics = false ∧ s.vm.findClass C = some cellB.cls) ∧ ∃ cC, ClassAt s C cC := by
  obtain ⟨b1, b2, b3⟩ := hc
  obtain ⟨a0, a1⟩ := so_own (a := a) I G b1 (by omega)
  obtain ⟨qc, cv, k1, k2, k3, k4, k5⟩ := so_rd I a0 a1 b1 b2 hK
  have e := b3 qc k1
  rw [e] at k4 k5
  exact ⟨a0, ⟨cv, k2, by rw [k3]; rfl, k4⟩, _, k5⟩
theorem ok_cv {t : Int} {ts : List Nat} {y i k : Nat} (hy : so_m y) (hc0 : so_cl t (my_ y).cls) (hd : decode (mb_ M) pc = .ok (.invokevirtual i, 3)) (hw : Cond.methodLink (my_ M).cls i (my_ y) ∈ tb_g) (hin : Cond.instanceMethod (my_ y) ∈ tb_g) (hse : Cond.selects (my_ y).cls (my_ y) (my_ y) ∈ tb_g) (hini : Cond.initialized (my_ y).cls ∈ tb_g) (hk : ts.length = k + 1) (hp : (parseMethodDescriptor (my_ y).desc).map (fun d => d.parameters.length) = some k) (hmh : so_mh (my_ y).cls) (hwd : mx_wd ts ≤ mx_ml y) (hml : mx_ml y ≤ 40) : ok_S M pc (sf_cv t ts y (pc + 3)) := by
  intro B ga gq D K gS gh p l e R s m args below meth c d X Q n0 L st S h n hn hL
  unfold sf_cv
  rcases qa : (st.take ts.length).reverse with _ | ⟨⟨_ | _ | _ | _, a⟩, as⟩ <;> try exact trivial
  simp only []
  by_cases q : S a (-2) = t ∧ ts.length ≤ st.length ∧ ((2, a) :: as).map Prod.fst = ts ∧ (st.drop ts.length).length ≤ 4
  · rw [if_pos q]
    obtain ⟨q0, q1, q2, q3⟩ := q
    refine ⟨rfl, rfl, fun h2 => by have := so_Ttk (k := ts.length) h2; rw [qa] at this; exact this, hy, by rw [q2]; exact hwd, fun H ls locs cells slots h1 h2 h3 rm Pc Qc mc ms free hM hrc hrs hrf hrl hbl hPc hc hs => ?_⟩
    have hts := X.2.2.2.2.2.1
    have hcat := so_st4 (B := B) (ga := ga) (gq := gq) q3
    have hlo := X.2.2.2.2.2.2.2.2.2.2.2.2
    have hfr := X.2.2.2.2.2.2.2.2.2.2.2.1
    obtain ⟨a0, hrc2, -⟩ := so_pv (a := a) h3 X.2.2.2.2.2.2.2.2.2.1 X.2.2.2.2.2.2.1 (by rw [q0]; exact hc0)
    have hl := so_stl qa q1
    simp only [List.length_cons] at hl
    rw [so_avs (by omega)] at hPc ⊢
    refine va_runV (cc := mb_ M) (nL := mx_ml M) (C := (my_ y).cls) (As := as.map (so_v B ga gq)) ⟨X.1, X.2.1, X.2.2.1, X.2.2.2.2.1, hts⟩ hM (cwV k hts (so_gl ?_) rfl hrc hrs ⟨rfl, hmh.1, hmh.2, hp⟩ ⟨by omega, by omega⟩) ⟨hbl, hrc2, hPc⟩ rfl (by rw [List.length_map]; omega) (h1.1.trans hL) (so_stk2 (by omega) qa) (by show 2 * 0 + _ ≤ 8; omega) hd ⟨hc, hs⟩
    intro w hv
    unfold wsV at hv
    rcases List.mem_append.mp hv with hv | hv
    · simp only [List.mem_cons, List.not_mem_nil, or_false] at hv
      rcases hv with rfl | rfl | rfl | rfl
      · exact hw
      · exact hin
      · exact hse
      · exact hini
    · exact so_cg hy.2 w hv
  · rw [if_neg q]; exact trivial
theorem ok_cvs {ts : List Nat} {y i k : Nat} (hy : so_m y) (hcl : (my_ y).cls = "java/lang/String") (hd : decode (mb_ M) pc = .ok (.invokevirtual i, 3)) (hw : Cond.methodLink (my_ M).cls i (my_ y) ∈ tb_g) (hin : Cond.instanceMethod (my_ y) ∈ tb_g) (hse : Cond.selects (my_ y).cls (my_ y) (my_ y) ∈ tb_g) (hini : Cond.initialized (my_ y).cls ∈ tb_g) (hk : ts.length = k + 1) (hp : (parseMethodDescriptor (my_ y).desc).map (fun d => d.parameters.length) = some k) (hmh : so_mh (my_ y).cls) (hwd : mx_wd ts ≤ mx_ml y) (hml : mx_ml y ≤ 40) : ok_S M pc (sf_cv 30 ts y (pc + 3)) := by
  intro B ga gq D K gS gh p l e R s m args below meth c d X Q n0 L st S h n hn hL
  unfold sf_cv
  rcases qa : (st.take ts.length).reverse with _ | ⟨⟨_ | _ | _ | _, a⟩, as⟩ <;> try exact trivial
  simp only []
  by_cases q : S a (-2) = 30 ∧ ts.length ≤ st.length ∧ ((2, a) :: as).map Prod.fst = ts ∧ (st.drop ts.length).length ≤ 4
  · rw [if_pos q]
    obtain ⟨q0, q1, q2, q3⟩ := q
    refine ⟨rfl, rfl, fun h2 => by have := so_Ttk (k := ts.length) h2; rw [qa] at this; exact this, hy, by rw [q2]; exact hwd, fun H ls locs cells slots h1 h2 h3 rm Pc Qc mc ms free hM hrc hrs hrf hrl hbl hPc hc hs => ?_⟩
    have hts := X.2.2.2.2.2.1
    have hG := X.2.2.2.2.2.2.2.2.2.1
    have hcat := so_st4 (B := B) (ga := ga) (gq := gq) q3
    have hlo := X.2.2.2.2.2.2.2.2.2.2.2.2
    have hfr := X.2.2.2.2.2.2.2.2.2.2.2.1
    obtain ⟨z, g1, g2⟩ := so_neg (a := a) h3 hG (by omega)
    have hT := hG.2.2.2.1 a (by rw [← g1]; exact q0)
    have hrc2 : ∃ cellB : Cell, H[so_ad B ga a]? = some cellB ∧ cellB.vm.isStatics = false ∧ s.vm.findClass (my_ y).cls = some cellB.cls := by
      obtain ⟨cell, k1, k2, k3, -⟩ := hT.1.kept h3.2.2.2.1.2.1
      rw [so_adn (by omega), hcl]
      exact ⟨cell, k1, k2, k3⟩
    have hl := so_stl qa q1
    simp only [List.length_cons] at hl
    rw [so_avs (by omega)] at hPc ⊢
    refine va_runV (cc := mb_ M) (nL := mx_ml M) (C := (my_ y).cls) (As := as.map (so_v B ga gq)) ⟨X.1, X.2.1, X.2.2.1, X.2.2.2.2.1, hts⟩ hM (cwV k hts (so_gl ?_) rfl hrc hrs ⟨rfl, hmh.1, hmh.2, hp⟩ ⟨by omega, by omega⟩) ⟨hbl, hrc2, hPc⟩ rfl (by rw [List.length_map]; omega) (h1.1.trans hL) (so_stk2 (by omega) qa) (by show 2 * 0 + _ ≤ 8; omega) hd ⟨hc, hs⟩
    intro w hv
    unfold wsV at hv
    rcases List.mem_append.mp hv with hv | hv
    · simp only [List.mem_cons, List.not_mem_nil, or_false] at hv
      rcases hv with rfl | rfl | rfl | rfl
      · exact hw
      · exact hin
      · exact hse
      · exact hini
    · exact so_cg hy.2 w hv
  · rw [if_neg q]; exact trivial
theorem ok_ci {lo hi : Int} {ts : List Nat} {y i k : Nat} (hy : so_m y) (hlo1 : 1 ≤ lo) (hhi : hi ≤ 23) (hd : decode (mb_ M) pc = .ok (.invokespecial i, 3)) (hw : Cond.methodLink (my_ M).cls i (my_ y) ∈ tb_g) (hin : Cond.instanceMethod (my_ y) ∈ tb_g) (hini : Cond.initialized (my_ y).cls ∈ tb_g) (hnm : (my_ y).name = "<init>") (hr : mr_ y = none) (hk : ts.length = k + 1) (hp : (parseMethodDescriptor (my_ y).desc).map (fun d => d.parameters.length) = some k) (hmh : so_mh (my_ y).cls) (hwd : mx_wd ts ≤ mx_ml y) (hml : mx_ml y ≤ 40) : ok_S M pc (sf_ci lo hi ts y (pc + 3)) := by
  intro B ga gq D K gS gh p l e R s m args below meth c d X Q n0 L st S h n hn hL
  unfold sf_ci
  rcases qa : (st.take ts.length).reverse with _ | ⟨⟨_ | _ | _ | _, a⟩, as⟩ <;> try exact trivial
  simp only []
  by_cases q : (lo ≤ S a (-2) ∧ S a (-2) ≤ hi) ∧ ts.length ≤ st.length ∧ ((2, a) :: as).map Prod.fst = ts ∧ (st.drop ts.length).length ≤ 4
  · rw [if_pos q]
    obtain ⟨q0, q1, q2, q3⟩ := q
    refine ⟨rfl, rfl, fun h2 => by have := so_Ttk (k := ts.length) h2; rw [qa] at this; exact this, hy, by rw [q2]; exact hwd, fun H ls locs cells slots h1 h2 h3 rm Pc Qc mc ms free hM hrc hrs hrf hrl hbl hPc hc hs => ?_⟩
    have hts := X.2.2.2.2.2.1
    have hcat := so_st4 (B := B) (ga := ga) (gq := gq) q3
    have hlo := X.2.2.2.2.2.2.2.2.2.2.2.2
    have hfr := X.2.2.2.2.2.2.2.2.2.2.2.1
    obtain ⟨a0, -⟩ := so_own (a := a) h3 X.2.2.2.2.2.2.2.2.2.1 (by omega) (by omega)
    have hl := so_stl qa q1
    simp only [List.length_cons] at hl
    rw [so_avs (by omega)] at hPc ⊢
    exact va_runI (cc := mb_ M) (nL := mx_ml M) (As := as.map (so_v B ga gq)) ⟨X.1, X.2.1, X.2.2.1, X.2.2.2.2.1, hts⟩ hM (cwI k hts (so_gl (so_cg hy.2)) (by rw [hr]) hrc hrs (hts _ hini) (hts _ hw) (hts _ hin) hnm ⟨hmh.1, hmh.2, hp⟩ ⟨by omega, by omega⟩) ⟨hbl, hPc⟩ rfl (by rw [List.length_map]; omega) (h1.1.trans hL) (so_stk2 (by omega) qa) (by show 2 * 0 + _ ≤ 8; omega) hd ⟨hc, hs⟩
  · rw [if_neg q]; exact trivial
end
