/-! Fields written, rows read and written -/
/-- the field is not final, or it is and this is a constructor of its class -/
def so_Fi (M : Nat) (lo hi : Int) (k : Nat) (ow : String) : Prop := (∀ t : Int, lo ≤ t → t ≤ hi → ∀ (C : String) (T : u_T) (N : Nat), vwCl[so_ci t]? = some (C, T, N) → (T k).2.2.2 = false) ∨ ((∀ t : Int, lo ≤ t → t ≤ hi → ∀ (C : String) (T : u_T) (N : Nat), vwCl[so_ci t]? = some (C, T, N) → (T k).2.2.2 = true) ∧ (my_ M).name = "<init>" ∧ ow = (my_ M).cls)
theorem so_u64 {h : mx_H} {a k v b : Int} (hh : ∀ j, so_c64 (h b j)) (hv : so_c64 v) : ∀ j, so_c64 (mx_u h a k v b j) := by
  intro j; unfold mx_u; split
  · exact hv
  · exact hh j
theorem so_u32 {h : mx_H} {a k v b : Int} (hh : ∀ j, so_c32 (h b j)) (hv : so_c32 v) : ∀ j, so_c32 (mx_u h a k v b j) := by
  intro j; unfold mx_u; split
  · exact hv
  · exact hh j
section
variable {M pc : Nat}
theorem ok_pi {lo hi kI : Int} {i k : Nat} {ow nm ref : String} (hF : so_F lo hi k ow nm "I" false) (hd : decode (mb_ M) pc = .ok (.putfield i, 3)) (hw : Cond.fieldLink (my_ M).cls i ref nm "I" ∈ tb_g) (hs : ref = ow) (hfin : so_Fi M lo hi k ow) (hk : kI = (k : Int)) : ok_S M pc (sf_pi lo hi kI (pc + 3)) := by
  intro B ga gq D K gS gh p l e R s m args below meth c d X Q n0 L st S h n hn hL
  rcases st with _ | ⟨⟨_ | _, v⟩, _ | ⟨⟨_ | _ | _ | _, a⟩, st⟩⟩ <;> try exact trivial
  unfold sf_pi
  simp only []
  by_cases q : lo ≤ S a (-2) ∧ S a (-2) ≤ hi
  · rw [if_pos q]
    refine ⟨Int.le_refl _, rfl, fun _ _ kk H ls locs h1 h2 h3 => ?_⟩
    obtain ⟨C, T, N, ty, -, -, -, -, -, -, hr, -, -, b1, b2⟩ := hF _ q.1 q.2
    subst hk
    have hv := so_0c (so_Th h2)
    exact so_put (ty1 := .int) (v := .int (Int32.ofInt v)) X h3 hF q.1 q.2 hd hw hs hfin (by decide +kernel) rfl rfl (fun b hb => ⟨rfl, so_u_ne hb⟩) rfl rfl (so_u64 (h3.2.2.2.2.2.1 a) (so_c6432 hv)) (fun z => so_u32 (fun j => h3.2.2.2.2.2.2.1 a j z) hv) (so_fsI hr) fun H1 locs1 I1 => kk H1 ls locs1 h1 (so_Tt (so_Tt h2)) I1
  · rw [if_neg q]; exact trivial
theorem ok_pz {lo hi kI : Int} {i k : Nat} {ow nm ref : String} (hF : so_F lo hi k ow nm "Z" false) (hd : decode (mb_ M) pc = .ok (.putfield i, 3)) (hw : Cond.fieldLink (my_ M).cls i ref nm "Z" ∈ tb_g) (hs : ref = ow) (hfin : so_Fi M lo hi k ow) (hk : kI = (k : Int)) : ok_S M pc (sf_pz lo hi kI (pc + 3)) := by
  intro B ga gq D K gS gh p l e R s m args below meth c d X Q n0 L st S h n hn hL
  rcases st with _ | ⟨⟨_ | _, v⟩, _ | ⟨⟨_ | _ | _ | _, a⟩, st⟩⟩ <;> try exact trivial
  unfold sf_pz
  simp only []
  by_cases q : lo ≤ S a (-2) ∧ S a (-2) ≤ hi ∧ 0 ≤ v ∧ v ≤ 1
  · rw [if_pos q]
    refine ⟨Int.le_refl _, rfl, fun _ _ kk H ls locs h1 h2 h3 => ?_⟩
    obtain ⟨C, T, N, ty, -, -, -, -, -, -, hr, -, -, b1, b2⟩ := hF _ q.1 q.2.1
    subst hk
    have hv := so_0c (so_Th h2)
    have hv01 : v = 0 ∨ v = 1 := by omega
    exact so_put (ty1 := .boolean) (v := .int (Int32.ofInt v)) X h3 hF q.1 q.2.1 hd hw hs hfin (by decide +kernel) (by rcases hv01 with rfl | rfl <;> rfl) (by rcases hv01 with rfl | rfl <;> rfl) (fun b hb => ⟨rfl, so_u_ne hb⟩) rfl rfl (so_u64 (h3.2.2.2.2.2.1 a) (so_c6432 hv)) (fun z => so_u32 (fun j => h3.2.2.2.2.2.2.1 a j z) hv) (so_fsI hr) fun H1 locs1 I1 => kk H1 ls locs1 h1 (so_Tt (so_Tt h2)) I1
  · rw [if_neg q]; exact trivial
theorem ok_pr {lo hi kI : Int} {i k : Nat} {ow nm ds ref : String} {ty1 : FieldType} (hF : so_F lo hi k ow nm ds true) (hd : decode (mb_ M) pc = .ok (.putfield i, 3)) (hw : Cond.fieldLink (my_ M).cls i ref nm ds ∈ tb_g) (hs : ref = ow) (hfin : so_Fi M lo hi k ow) (hk : kI = (k : Int)) (hp : parseFieldDescriptor ds = some ty1) (hty : (∃ x, ty1 = .object x) ∨ ∃ t, ty1 = .array t) : ok_S M pc (sf_pr lo hi kI (pc + 3)) := by
  intro B ga gq D K gS gh p l e R s m args below meth c d X Q n0 L st S h n hn hL
  rcases st with _ | ⟨⟨_ | _ | _ | _, v⟩, _ | ⟨⟨_ | _ | _ | _, a⟩, st⟩⟩ <;> try exact trivial
  unfold sf_pr
  simp only []
  by_cases q : lo ≤ S a (-2) ∧ S a (-2) ≤ hi
  · rw [if_pos q]
    refine ⟨Int.le_refl _, rfl, fun _ _ kk H ls locs h1 h2 h3 => ?_⟩
    obtain ⟨C, T, N, ty, -, -, -, -, -, -, hr, -, -, b1, b2⟩ := hF _ q.1 q.2
    subst hk
    have hnf : narrow ty1 (va_rf (so_r B ga v)) = va_rf (so_r B ga v) ∧ fits ty1 (va_rf (so_r B ga v)) = true := by
      rcases hty with ⟨x, rfl⟩ | ⟨t, rfl⟩ <;> rcases va_rf_or (so_r B ga v) with w | ⟨y, w⟩ <;> rw [w] <;> exact ⟨rfl, rfl⟩
    exact so_put (ty1 := ty1) (v := va_rf (so_r B ga v)) X h3 hF q.1 q.2 hd hw hs hfin hp hnf.1 hnf.2 (fun b hb => ⟨so_u_ne hb, rfl⟩) (by rw [so_u_in, if_neg (by omega)]) (by rw [so_u_in, if_neg (by omega)]) (h3.2.2.2.2.2.1 a) (fun z j => h3.2.2.2.2.2.2.1 a j z) (so_fsR hr) fun H1 locs1 I1 => kk H1 ls locs1 h1 (so_Tt (so_Tt h2)) I1
  · rw [if_neg q]; exact trivial
theorem so_rr {B : Nat} {ga : Int → Nat} {a : Int} (h : a ≠ -1) : va_rf (so_r B ga a) = .ref (so_ad B ga a) := by unfold so_r; rw [if_neg h]; rfl
theorem so_adn {B : Nat} {ga : Int → Nat} {a : Int} (h : a < 0) : so_ad B ga a = ga a := by unfold so_ad; rw [if_neg (by omega)]
/-- of the read-only ones -/
theorem so_neg {B : Nat} {ga : Int → Nat} {gq : Value} {D : va_G} {K : Nat → ClassId} {gS gh : mx_H} {s : State} {S h : mx_H} {n a : Int} {H : Heap} {locs : List Loc} (I : so_I B ga D K gS gh s S h n H locs) (G : so_G B ga gq gS gh s) (q : 24 ≤ S a (-2)) : a < -1 ∧ S a = gS a ∧ h a = gh a := by
  rcases Int.lt_or_le a 0 with z | z
  · have e := I.2.2.2.2.1 a z
    refine ⟨?_, e⟩
    have g := (G.1 a z).2
    rw [← e.1] at g
    omega
  · exfalso
    rcases Int.lt_or_le a n with w | w
    · have hat := so_Pa I z w
      unfold so_E at hat
      rw [if_neg (by omega), if_neg (by omega), if_neg (by omega), if_neg (by omega), if_neg (by omega)] at hat
      obtain ⟨r, hr, -⟩ := hat
      have hr : vwCl[99]? = some r := hr
      have e9 : vwCl[99]? = none := rfl
      rw [e9] at hr
      cases hr
    · have := I.2.2.2.2.2.2.2.1 a w; omega
theorem ok_iald (hd : decode (mb_ M) pc = .ok (.iaload, 1)) : ok_S M pc (sf_iald (pc + 1)) := by
  intro B ga gq D K gS gh p l e R s m args below meth c d X Q n0 L st S h n hn hL
  rcases st with _ | ⟨⟨_ | _, i⟩, _ | ⟨⟨_ | _ | _ | _, a⟩, st⟩⟩ <;> try exact trivial
  unfold sf_iald
  simp only []
  by_cases q : (S a (-2) = 20 ∨ S a (-2) = 24) ∧ 0 ≤ i ∧ i < S a (-1)
  · rw [if_pos q]
    refine ⟨Int.le_refl _, rfl, fun _ _ kk H ls locs h1 h2 h3 => ?_⟩
    obtain ⟨q1, q2, q3⟩ := q
    obtain ⟨l1, l2⟩ := h3.2.2.2.2.2.2.2.2 a (by omega)
    have hin := so_in q2 q3 (by omega)
    have key := kk H ls locs h1 (so_Tc (so_k0 (h3.2.2.2.2.2.2.1 a i (by omega))) (so_Tt (so_Tt h2))) h3
    have ei : (Int32.ofInt i).toNatClampNeg = i.toNat := so_nn q2 (by omega)
    have ej : ((i.toNat : Nat) : Int) = i := by omega
    show W p l e R s m args below meth c H locs _ _ Q (F0 m pc ls (.int (Int32.ofInt i) :: va_rf (so_r B ga a) :: _))
    rcases q1 with q1 | q1
    · obtain ⟨a0, a1⟩ := so_own (a := a) h3 X.2.2.2.2.2.2.2.2.2.1 (by omega) (by omega)
      rw [so_rr (by omega)]
      refine va_iald X.1 X.2.1 X.2.2.2.2.2.2.1 h3.2.2.1 a.toNat 0 (by rw [so_at a0 a1, so_E20 q1]) rfl hin hd ?_
      rw [ei, ej]
      exact key
    · obtain ⟨z, g1, g2⟩ := so_neg (a := a) h3 X.2.2.2.2.2.2.2.2.2.1 (by omega)
      have hT := X.2.2.2.2.2.2.2.2.2.1.2.1 a (by rw [← g1]; exact q1)
      rw [so_rr (by omega), so_adn (by omega)]
      refine va_ti X.1 X.2.1 hT h3.2.2.2.1 (by rw [← g1]; exact hin) rfl hd ?_
      rw [ei, ej, ← g2]
      exact key
  · rw [if_neg q]; exact trivial
theorem ok_bald (hd : decode (mb_ M) pc = .ok (.baload, 1)) : ok_S M pc (sf_bald (pc + 1)) := by
  intro B ga gq D K gS gh p l e R s m args below meth c d X Q n0 L st S h n hn hL
  rcases st with _ | ⟨⟨_ | _, i⟩, _ | ⟨⟨_ | _ | _ | _, a⟩, st⟩⟩ <;> try exact trivial
  unfold sf_bald
  simp only []
  by_cases q : S a (-2) = 25 ∧ 0 ≤ i ∧ i < S a (-1)
  · rw [if_pos q]
    refine ⟨Int.le_refl _, rfl, fun _ _ kk H ls locs h1 h2 h3 => ?_⟩
    obtain ⟨q1, q2, q3⟩ := q
    obtain ⟨l1, l2⟩ := h3.2.2.2.2.2.2.2.2 a (by omega)
    have hin := so_in q2 q3 (by omega)
    have key := kk H ls locs h1 (so_Tc (so_k0 (h3.2.2.2.2.2.2.1 a i (by omega))) (so_Tt (so_Tt h2))) h3
    have ei : (Int32.ofInt i).toNatClampNeg = i.toNat := so_nn q2 (by omega)
    have ej : ((i.toNat : Nat) : Int) = i := by omega
    show W p l e R s m args below meth c H locs _ _ Q (F0 m pc ls (.int (Int32.ofInt i) :: va_rf (so_r B ga a) :: _))
    obtain ⟨z, g1, g2⟩ := so_neg (a := a) h3 X.2.2.2.2.2.2.2.2.2.1 (by omega)
    have hT := X.2.2.2.2.2.2.2.2.2.1.2.2.1 a (by rw [← g1]; exact q1)
    rw [so_rr (by omega), so_adn (by omega)]
    refine va_tb X.1 X.2.1 hT h3.2.2.2.1 (by rw [← g1]; exact hin) rfl hd ?_
    rw [ei, ej, ← g2]
    exact key
  · rw [if_neg q]; exact trivial
theorem ok_lald (hd : decode (mb_ M) pc = .ok (.laload, 1)) : ok_S M pc (sf_lald (pc + 1)) := by
  intro B ga gq D K gS gh p l e R s m args below meth c d X Q n0 L st S h n hn hL
  rcases st with _ | ⟨⟨_ | _, i⟩, _ | ⟨⟨_ | _ | _ | _, a⟩, st⟩⟩ <;> try exact trivial
  unfold sf_lald
  simp only []
  by_cases q : S a (-2) = 21 ∧ 0 ≤ i ∧ i < S a (-1)
  · rw [if_pos q]
    refine ⟨Int.le_refl _, rfl, fun _ _ kk H ls locs h1 h2 h3 => ?_⟩
    obtain ⟨q1, q2, q3⟩ := q
    obtain ⟨l1, l2⟩ := h3.2.2.2.2.2.2.2.2 a (by omega)
    have hin := so_in q2 q3 (by omega)
    have key := kk H ls locs h1 (so_Tc (so_k1 (h3.2.2.2.2.2.1 a i)) (so_Tt (so_Tt h2))) h3
    have ei : (Int32.ofInt i).toNatClampNeg = i.toNat := so_nn q2 (by omega)
    have ej : ((i.toNat : Nat) : Int) = i := by omega
    show W p l e R s m args below meth c H locs _ _ Q (F0 m pc ls (.int (Int32.ofInt i) :: va_rf (so_r B ga a) :: _))
    obtain ⟨a0, a1⟩ := so_own (a := a) h3 X.2.2.2.2.2.2.2.2.2.1 (by omega) (by omega)
    rw [so_rr (by omega)]
    refine va_lald X.1 X.2.1 X.2.2.2.2.2.2.1 h3.2.2.1 a.toNat 1 (by rw [so_at a0 a1, so_E21 q1]) rfl hin hd ?_
    rw [ei, ej]
    exact key
  · rw [if_neg q]; exact trivial
theorem ok_aald {tag : Int} (ht : tag = 22 ∨ tag = 23) (hd : decode (mb_ M) pc = .ok (.aaload, 1)) : ok_S M pc (sf_aald tag (pc + 1)) := by
  intro B ga gq D K gS gh p l e R s m args below meth c d X Q n0 L st S h n hn hL
  rcases st with _ | ⟨⟨_ | _, i⟩, _ | ⟨⟨_ | _ | _ | _, a⟩, st⟩⟩ <;> try exact trivial
  unfold sf_aald
  simp only []
  by_cases q : S a (-2) = tag ∧ 0 ≤ i ∧ i < S a (-1)
  · rw [if_pos q]
    refine ⟨Int.le_refl _, rfl, fun _ _ kk H ls locs h1 h2 h3 => ?_⟩
    obtain ⟨q1, q2, q3⟩ := q
    obtain ⟨l1, l2⟩ := h3.2.2.2.2.2.2.2.2 a (by omega)
    have hin := so_in q2 q3 (by omega)
    have key := kk H ls locs h1 (so_Tc so_k2 (so_Tt (so_Tt h2))) h3
    have ei : (Int32.ofInt i).toNatClampNeg = i.toNat := so_nn q2 (by omega)
    have ej : ((i.toNat : Nat) : Int) = i := by omega
    show W p l e R s m args below meth c H locs _ _ Q (F0 m pc ls (.int (Int32.ofInt i) :: va_rf (so_r B ga a) :: _))
    obtain ⟨a0, a1⟩ := so_own (a := a) h3 X.2.2.2.2.2.2.2.2.2.1 (by omega) (by omega)
    rw [so_rr (by omega)]
    rcases ht with rfl | rfl
    · refine va_aldq X.1 X.2.1 X.2.2.2.2.2.2.1 h3.2.2.1 a.toNat 2 (by rw [so_at a0 a1, so_E22 q1]) rfl hin hd ?_
      rw [ei, ej]
      exact key
    · refine va_aldq X.1 X.2.1 X.2.2.2.2.2.2.1 h3.2.2.1 a.toNat 3 (by rw [so_at a0 a1, so_E23 q1]) rfl hin hd ?_
      rw [ei, ej]
      exact key
  · rw [if_neg q]; exact trivial
theorem so_len {x : Int} (h0 : 0 ≤ x) : Int32.ofNat x.toNat = Int32.ofInt x := by
  have e : ((x.toNat : Nat) : Int) = x := by omega
  rw [← Int32.ofInt_eq_ofNat, e]
theorem ok_alen (hd : decode (mb_ M) pc = .ok (.arraylength, 1)) : ok_S M pc (sf_alen (pc + 1)) := by
  intro B ga gq D K gS gh p l e R s m args below meth c d X Q n0 L st S h n hn hL
  rcases st with _ | ⟨⟨_ | _ | _ | _, a⟩, st⟩ <;> try exact trivial
  unfold sf_alen
  simp only []
  by_cases q : 20 ≤ S a (-2) ∧ S a (-2) ≤ 25
  · rw [if_pos q]
    refine ⟨Int.le_refl _, rfl, fun _ _ kk H ls locs h1 h2 h3 => ?_⟩
    obtain ⟨l1, l2⟩ := h3.2.2.2.2.2.2.2.2 a (by omega)
    have key := kk H ls locs h1 (so_Tc (so_k0 ⟨by omega, by omega⟩) (so_Tt h2)) h3
    show W p l e R s m args below meth c H locs _ _ Q (F0 m pc ls (va_rf (so_r B ga a) :: _))
    rcases (by omega : S a (-2) = 20 ∨ S a (-2) = 21 ∨ S a (-2) = 22 ∨ S a (-2) = 23 ∨ S a (-2) = 24 ∨ S a (-2) = 25) with w | w | w | w | w | w
    · obtain ⟨a0, a1⟩ := so_own (a := a) h3 X.2.2.2.2.2.2.2.2.2.1 (by omega) (by omega)
      rw [so_rr (by omega)]
      exact va_alen X.1 X.2.1 X.2.2.2.2.2.2.1 h3.2.2.1 a.toNat 0 (by rw [so_at a0 a1, so_E20 w]) rfl (so_len l1) hd key
    · obtain ⟨a0, a1⟩ := so_own (a := a) h3 X.2.2.2.2.2.2.2.2.2.1 (by omega) (by omega)
      rw [so_rr (by omega)]
      exact va_alen X.1 X.2.1 X.2.2.2.2.2.2.1 h3.2.2.1 a.toNat 1 (by rw [so_at a0 a1, so_E21 w]) rfl (so_len l1) hd key
    · obtain ⟨a0, a1⟩ := so_own (a := a) h3 X.2.2.2.2.2.2.2.2.2.1 (by omega) (by omega)
      rw [so_rr (by omega)]
      exact va_alen X.1 X.2.1 X.2.2.2.2.2.2.1 h3.2.2.1 a.toNat 2 (by rw [so_at a0 a1, so_E22 w]) rfl (so_len l1) hd key
    · obtain ⟨a0, a1⟩ := so_own (a := a) h3 X.2.2.2.2.2.2.2.2.2.1 (by omega) (by omega)
      rw [so_rr (by omega)]
      exact va_alen X.1 X.2.1 X.2.2.2.2.2.2.1 h3.2.2.1 a.toNat 3 (by rw [so_at a0 a1, so_E23 w]) rfl (so_len l1) hd key
    · obtain ⟨z, g1, g2⟩ := so_neg (a := a) h3 X.2.2.2.2.2.2.2.2.2.1 (by omega)
      have hT := X.2.2.2.2.2.2.2.2.2.1.2.1 a (by rw [← g1]; exact w)
      rw [so_rr (by omega), so_adn (by omega)]
      exact va_tlen X.1 X.2.1 hT h3.2.2.2.1 (by rw [← g1]; exact so_len l1) hd key
    · obtain ⟨z, g1, g2⟩ := so_neg (a := a) h3 X.2.2.2.2.2.2.2.2.2.1 (by omega)
      have hT := X.2.2.2.2.2.2.2.2.2.1.2.2.1 a (by rw [← g1]; exact w)
      rw [so_rr (by omega), so_adn (by omega)]
      exact va_tlen X.1 X.2.1 hT h3.2.2.2.1 (by rw [← g1]; exact so_len l1) hd key
  · rw [if_neg q]; exact trivial
theorem ok_iast (hd : decode (mb_ M) pc = .ok (.iastore, 1)) : ok_S M pc (sf_iast (pc + 1)) := by
  intro B ga gq D K gS gh p l e R s m args below meth c d X Q n0 L st S h n hn hL
  rcases st with _ | ⟨⟨_ | _, v⟩, _ | ⟨⟨_ | _, i⟩, _ | ⟨⟨_ | _ | _ | _, a⟩, st⟩⟩⟩ <;> try exact trivial
  unfold sf_iast
  simp only []
  by_cases q : S a (-2) = 20 ∧ 0 ≤ i ∧ i < S a (-1)
  · rw [if_pos q]
    refine ⟨Int.le_refl _, rfl, fun _ _ kk H ls locs h1 h2 h3 => ?_⟩
    obtain ⟨q1, q2, q3⟩ := q
    obtain ⟨l1, l2⟩ := h3.2.2.2.2.2.2.2.2 a (by omega)
    have hin := so_in q2 q3 (by omega)
    have hv := so_0c (so_Th h2)
    have ei : (Int32.ofInt i).toNatClampNeg = i.toNat := so_nn q2 (by omega)
    obtain ⟨a0, a1⟩ := so_own (a := a) h3 X.2.2.2.2.2.2.2.2.2.1 (by omega) (by omega)
    show W p l e R s m args below meth c H locs _ _ Q (F0 m pc ls (.int (Int32.ofInt v) :: .int (Int32.ofInt i) :: va_rf (so_r B ga a) :: _))
    rw [so_rr (by omega)]
    have hat := so_Pa h3 a0 a1
    rw [so_E20 q1] at hat
    have hat : H[so_ad B ga a]? = some (arrV (K 0) (S a (-1)).toNat (fun j => .int (Int32.ofInt (h a j)))) := hat
    refine W.iast X.1 X.2.1 hat ((X.2.2.2.2.2.2.1.2 0 _ rfl).1 _ _) (fun q => by cases q) (by rw [arrV_size]; exact hin) rfl rfl hd fun H1 w1 w2 w3 => ?_
    refine kk H1 ls _ h1 (so_Tt (so_Tt (so_Tt h2))) (so_upd h3 a0 a1 w2 w3 ?_ (fun b hb => ⟨rfl, so_u_ne hb⟩) rfl rfl (so_u64 (h3.2.2.2.2.2.1 a) (so_c6432 hv)) (fun z => so_u32 (fun j => h3.2.2.2.2.2.2.1 a j z) hv))
    rw [so_E20 q1]
    show H1[so_ad B ga a]? = some (vp_cell _ _)
    rw [w1, vp_cell_i, arrV_store, ei]
    congr 2
    funext j
    unfold updV
    rw [so_u_in]
    by_cases z : j = i.toNat
    · rw [if_pos z, if_pos (by omega)]
    · rw [if_neg z, if_neg (by omega)]
  · rw [if_neg q]; exact trivial
theorem ok_last (hd : decode (mb_ M) pc = .ok (.lastore, 1)) : ok_S M pc (sf_last (pc + 1)) := by
  intro B ga gq D K gS gh p l e R s m args below meth c d X Q n0 L st S h n hn hL
  rcases st with _ | ⟨⟨_ | _ | _, v⟩, _ | ⟨⟨_ | _, i⟩, _ | ⟨⟨_ | _ | _ | _, a⟩, st⟩⟩⟩ <;> try exact trivial
  unfold sf_last
  simp only []
  by_cases q : S a (-2) = 21 ∧ 0 ≤ i ∧ i < S a (-1)
  · rw [if_pos q]
    refine ⟨Int.le_refl _, rfl, fun _ _ kk H ls locs h1 h2 h3 => ?_⟩
    obtain ⟨q1, q2, q3⟩ := q
    obtain ⟨l1, l2⟩ := h3.2.2.2.2.2.2.2.2 a (by omega)
    have hin := so_in q2 q3 (by omega)
    have hv := so_1c (so_Th h2)
    have ei : (Int32.ofInt i).toNatClampNeg = i.toNat := so_nn q2 (by omega)
    obtain ⟨a0, a1⟩ := so_own (a := a) h3 X.2.2.2.2.2.2.2.2.2.1 (by omega) (by omega)
    show W p l e R s m args below meth c H locs _ _ Q (F0 m pc ls (.long (Int64.ofInt v) :: .int (Int32.ofInt i) :: va_rf (so_r B ga a) :: _))
    rw [so_rr (by omega)]
    have hat := so_Pa h3 a0 a1
    rw [so_E21 q1] at hat
    have hat : H[so_ad B ga a]? = some (arrV (K 1) (S a (-1)).toNat (fun j => .long (Int64.ofInt (h a j)))) := hat
    refine W.last X.1 X.2.1 hat ((X.2.2.2.2.2.2.1.2 1 _ rfl).1 _ _) (fun q => by cases q) (by rw [arrV_size]; exact hin) rfl rfl hd fun H1 w1 w2 w3 => ?_
    refine kk H1 ls _ h1 (so_Tt (so_Tt (so_Tt h2))) (so_upd h3 a0 a1 w2 w3 ?_ (fun b hb => ⟨rfl, so_u_ne hb⟩) rfl rfl (so_u64 (h3.2.2.2.2.2.1 a) hv) (fun z => absurd q1 z))
    rw [so_E21 q1]
    show H1[so_ad B ga a]? = some (vp_cell _ _)
    rw [w1, vp_cell_l, arrV_store, ei]
    congr 2
    funext j
    unfold updV
    rw [so_u_in]
    by_cases z : j = i.toNat
    · rw [if_pos z, if_pos (by omega)]
    · rw [if_neg z, if_neg (by omega)]
  · rw [if_neg q]; exact trivial
end
