/-! Steps that read and write own cells -/
section
variable {B : Nat} {ga : Int → Nat} {gq : Value} {D : va_G} {K : Nat → ClassId} {gS gh : mx_H} {s : State} {S h S' h' : mx_H} {n a : Int} {H H1 : Heap} {locs : List Loc}
theorem so_own (I : so_I B ga D K gS gh s S h n H locs) (G : so_G B ga gq gS gh s) (h1 : 1 ≤ S a (-2)) (h2 : S a (-2) ≤ 23) : 0 ≤ a ∧ a < n := by
  obtain ⟨-, -, -, -, hneg, -, -, hnew, -⟩ := I
  constructor
  · rcases Int.lt_or_le a 0 with q | q
    · have := (G.1 a q).1
      rw [← (hneg a q).1] at this
      omega
    · exact q
  · rcases Int.lt_or_le a n with q | q
    · exact q
    · have := hnew a q; omega
theorem so_Pa (I : so_I B ga D K gS gh s S h n H locs) (h0 : 0 ≤ a) (h1 : a < n) : va_at D vwCl (so_ad B ga a, so_E B ga K S h a) H := I.2.2.1 _ _ (so_at h0 h1)
theorem so_adB (h0 : 0 ≤ a) : B ≤ so_ad B ga a := by unfold so_ad; rw [if_pos h0]; exact Nat.le_add_right _ _
/-- one cell has changed -/
theorem so_upd (I : so_I B ga D K gS gh s S h n H locs) (h0 : 0 ≤ a) (h1 : a < n) {i : Nat} (z : H1.size = H.size) (oq : ∀ q : Nat, q ≠ so_ad B ga a → H1[q]? = H[q]?) (hat : va_at D vwCl (so_ad B ga a, so_E B ga K S' h' a) H1) (ho : ∀ b, b ≠ a → S' b = S b ∧ h' b = h b) (e2 : S' a (-2) = S a (-2)) (e1 : S' a (-1) = S a (-1)) (c64 : ∀ k, so_c64 (h' a k)) (c32 : S a (-2) ≠ 21 → ∀ k, so_c32 (h' a k)) : so_I B ga D K gS gh s S' h' n H1 (locs ++ [⟨so_ad B ga a, i⟩]) := by
  obtain ⟨hn, hz, hP, hS, hneg, hc64, hc32, hnew, hlen⟩ := I
  refine ⟨hn, z.trans hz, ?_, hS.put z oq (so_adB h0), fun b hb => ?_, fun b k => ?_, fun b k hb => ?_, fun b hb => ?_, fun b hb => ?_⟩
  · have e := so_set (B := B) (ga := ga) (K := K) (S := S) (h := h) h0 h1 (so_E B ga K S' h' a) rfl (fun b hb => so_Ec (ho b hb).1 (ho b hb).2)
    rw [← e]
    exact hP.set so_wd (so_at h0 h1) hat oq
  · have hb2 : b ≠ a := by omega
    rw [(ho b hb2).1, (ho b hb2).2]; exact hneg b hb
  · by_cases q : b = a
    · subst q; exact c64 k
    · rw [(ho b q).2]; exact hc64 b k
  · by_cases q : b = a
    · subst q; exact c32 (by rw [← e2]; exact hb) k
    · rw [(ho b q).2]; exact hc32 b k (by rw [← (ho b q).1]; exact hb)
  · by_cases q : b = a
    · subst q; omega
    · rw [(ho b q).1]; exact hnew b hb
  · by_cases q : b = a
    · subst q; rw [e1]; exact hlen b (by rw [← e2]; exact hb)
    · rw [(ho b q).1]; exact hlen b (by rw [← (ho b q).1]; exact hb)
/-- a new cell -/
theorem so_new (I : so_I B ga D K gS gh s S h n H locs) (z : H1.size = H.size + 1) (oq : ∀ q : Nat, q < H.size → H1[q]? = H[q]?) (hat : va_at D vwCl (B + n.toNat, so_E B ga K S' h' n) H1) (ho : ∀ b, b ≠ n → S' b = S b ∧ h' b = h b) (c64 : ∀ k, so_c64 (h' n k)) (c32 : S' n (-2) ≠ 21 → ∀ k, so_c32 (h' n k)) (hl : 20 ≤ S' n (-2) → 0 ≤ S' n (-1) ∧ S' n (-1) ≤ 3072) : so_I B ga D K gS gh s S' h' (n + 1) H1 locs := by
  obtain ⟨hn, hz, hP, hS, hneg, hc64, hc32, hnew, hlen⟩ := I
  refine ⟨by omega, by rw [z, hz]; omega, ?_, ⟨by have := hS.1; omega, fun q q1 q2 => (oq q (Nat.lt_of_lt_of_le q1 hS.1)).trans (hS.2.1 q q1 q2), hS.2.2⟩, fun b hb => ?_, fun b k => ?_, fun b k hb => ?_, fun b hb => ?_, fun b hb => ?_⟩
  · have e := so_app (B := B) (ga := ga) (K := K) (S := S) (h := h) hn (so_E B ga K S' h' n) rfl (fun b hb => so_Ec (ho b hb).1 (ho b hb).2)
    rw [← e]
    refine (hP.kept fun k q hk => oq q.1 (hP k q hk).lt).app fun k q hk => ?_
    have hk1 : k < 1 := (List.getElem?_eq_some_iff.mp hk).1
    rw [show k = 0 by omega] at hk
    cases hk
    exact hat
  · have hb2 : b ≠ n := by omega
    rw [(ho b hb2).1, (ho b hb2).2]; exact hneg b hb
  · by_cases q : b = n
    · subst q; exact c64 k
    · rw [(ho b q).2]; exact hc64 b k
  · by_cases q : b = n
    · subst q; exact c32 hb k
    · rw [(ho b q).2]; exact hc32 b k (by rw [← (ho b q).1]; exact hb)
  · rw [(ho b (by omega)).1]; exact hnew b (by omega)
  · by_cases q : b = n
    · subst q; exact hl hb
    · rw [(ho b q).1]; exact hlen b (by rw [← (ho b q).1]; exact hb)
theorem so_Eo (h1 : 1 ≤ S a (-2)) (h2 : S a (-2) ≤ 13) : so_E B ga K S h a = .inr (so_ci (S a (-2)), so_fs B ga S h a (so_ci (S a (-2)))) := by unfold so_E; rw [if_pos ⟨h1, h2⟩]
theorem so_E20 (q : S a (-2) = 20) : so_E B ga K S h a = .inl (K 0, (S a (-1)).toNat, .inl fun j => Int32.ofInt (h a j)) := by unfold so_E; rw [q, if_neg (by decide), if_pos rfl]
theorem so_E21 (q : S a (-2) = 21) : so_E B ga K S h a = .inl (K 1, (S a (-1)).toNat, .inr (.inl fun j => Int64.ofInt (h a j))) := by unfold so_E; rw [q, if_neg (by decide), if_neg (by decide), if_pos rfl]
theorem so_E22 (q : S a (-2) = 22) : so_E B ga K S h a = .inl (K 2, (S a (-1)).toNat, .inr (.inr (.inr (.inr fun j => so_r B ga (S a j))))) := by unfold so_E; rw [q, if_neg (by decide), if_neg (by decide), if_neg (by decide), if_pos rfl]
theorem so_E23 (q : S a (-2) = 23) : so_E B ga K S h a = .inl (K 3, (S a (-1)).toNat, .inr (.inr (.inr (.inr fun j => so_r B ga (S a j))))) := by unfold so_E; rw [q, if_neg (by decide), if_neg (by decide), if_neg (by decide), if_neg (by decide), if_pos rfl]
theorem so_u_ne {k v b : Int} (q : b ≠ a) : mx_u h a k v b = h b := by funext j; unfold mx_u; rw [if_neg (fun z => q z.1)]
theorem so_u_in {k v j : Int} : mx_u h a k v a j = if j = k then v else h a j := by unfold mx_u; simp
theorem so_fk {c : Nat} {k : Nat} {r : Bool} (hr : (so_fr c)[k]? = some r) : (so_fs B ga S h a c)[k]? = some (bif r then va_rf (so_r B ga (S a k)) else .int (Int32.ofInt (h a k))) := by
  unfold so_fs; rw [List.getElem?_mapIdx, hr]; rfl
theorem so_fsI {c k : Nat} {v : Int} (hr : (so_fr c)[k]? = some false) : so_fs B ga S (mx_u h a (k : Int) v) a c = (so_fs B ga S h a c).set k (.int (Int32.ofInt v)) := by
  apply List.ext_getElem?
  intro i
  have hlen : k < (so_fs B ga S h a c).length := by unfold so_fs; rw [List.length_mapIdx]; exact (List.getElem?_eq_some_iff.mp hr).1
  by_cases q : i = k
  · subst q
    rw [List.getElem?_set_self hlen, so_fk hr, so_u_in, if_pos rfl]; rfl
  · rw [List.getElem?_set_ne (fun z => q z.symm)]
    unfold so_fs
    rw [List.getElem?_mapIdx, List.getElem?_mapIdx]
    have e : mx_u h a (k : Int) v a (i : Int) = h a i := by rw [so_u_in, if_neg (by omega)]
    rw [e]
theorem so_fsR {c k : Nat} {v : Int} (hr : (so_fr c)[k]? = some true) : so_fs B ga (mx_u S a (k : Int) v) h a c = (so_fs B ga S h a c).set k (va_rf (so_r B ga v)) := by
  apply List.ext_getElem?
  intro i
  have hlen : k < (so_fs B ga S h a c).length := by unfold so_fs; rw [List.length_mapIdx]; exact (List.getElem?_eq_some_iff.mp hr).1
  by_cases q : i = k
  · subst q
    rw [List.getElem?_set_self hlen, so_fk hr, so_u_in, if_pos rfl]; rfl
  · rw [List.getElem?_set_ne (fun z => q z.symm)]
    unfold so_fs
    rw [List.getElem?_mapIdx, List.getElem?_mapIdx]
    have e : mx_u S a (k : Int) v a (i : Int) = S a i := by rw [so_u_in, if_neg (by omega)]
    rw [e]
end
/-- a field of the classes whose tags are lo to hi -/
def so_F (lo hi : Int) (k : Nat) (ow nm ds : String) (r : Bool) : Prop := ∀ t : Int, lo ≤ t → t ≤ hi → ∃ (C : String) (T : u_T) (N : Nat) (ty : Nat → FieldType), vwCl[so_ci t]? = some (C, T, N) ∧ k < N ∧ (T k).1 = ow ∧ (T k).2.1 = nm ∧ (T k).2.2.1 = ds ∧ (∀ w ∈ u_ws C T N, w ∈ tb_g) ∧ (so_fr (so_ci t))[k]? = some r ∧
  (∀ k, k < N → parseFieldDescriptor (T k).2.2.1 = some (ty k)) ∧ (∀ a, a < N → ∀ b, b < N → a ≠ b → (T a).2.1 ≠ (T b).2.1) ∧ 1 ≤ t ∧ t ≤ 13
section
variable {M pc : Nat}
theorem so_get {B : Nat} {ga : Int → Nat} {gq : Value} {D : va_G} {K : Nat → ClassId} {gS gh : mx_H} {p : Program} {l : Launch} {e : Env} {R : Room} {s : State} {m : MethodId} {args : Array Value} {below : List Frame} {meth : Method} {c : Code} {d : Nat} {Q : State → Prop} {H : Heap} {locs : List Loc} {cells slots : Nat} {ls : Array Slot} {rest : List Value} {S h : mx_H} {n a lo hi : Int} {i k : Nat} {ow nm ds ref : String} {r : Bool} (X : so_X B ga gq D K gS gh p R s m args meth c M d) (I : so_I B ga D K gS gh s S h n H locs) (hF : so_F lo hi k ow nm ds r) (h1 : lo ≤ S a (-2)) (h2 : S a (-2) ≤ hi) (hd : decode (mb_ M) pc = .ok (.getfield i, 3)) (hw : Cond.fieldLink (my_ M).cls i ref nm ds ∈ tb_g) (hs : ref = ow ∨ Cond.sameField ref ow nm ds ∈ tb_g)
    (kk : W p l e R s m args below meth c H locs cells slots Q (F0 m (pc + 3) ls ((bif r then va_rf (so_r B ga (S a k)) else .int (Int32.ofInt (h a k))) :: rest))) : W p l e R s m args below meth c H locs cells slots Q (F0 m pc ls (va_rf (so_r B ga a) :: rest)) := by
  obtain ⟨C, T, N, ty, hc, hk, t1, t2, t3, hin, hr, hty, hnm, b1, b2⟩ := hF _ h1 h2
  obtain ⟨a0, a1⟩ := so_own I X.2.2.2.2.2.2.2.2.2.1 b1 (by omega)
  have e0 : va_rf (so_r B ga a) = .ref (so_ad B ga a) := by unfold so_r; rw [if_neg (by omega)]; rfl
  rw [e0]
  have hts := X.2.2.2.2.2.1
  refine va_get (T := T) (C := C) (N := N) X.1 X.2.1 hts hin X.2.2.2.2.1 X.2.2.2.2.2.2.1 I.2.2.1 a.toNat (by rw [so_at a0 a1, so_Eo b1 b2]) hc k hk (by rw [t2, t3]; exact hts _ hw) (fun x hx => ?_) (so_fk hr) hd kk
  rw [t1, t2, t3] at hx
  rw [t2, t3]
  rcases hs with rfl | hs
  · exact hx
  · exact u_same (hts _ hs) x hx
theorem ok_gi {lo hi kI : Int} {i k : Nat} {ow nm ds ref : String} (hF : so_F lo hi k ow nm ds false) (hd : decode (mb_ M) pc = .ok (.getfield i, 3)) (hw : Cond.fieldLink (my_ M).cls i ref nm ds ∈ tb_g) (hs : ref = ow ∨ Cond.sameField ref ow nm ds ∈ tb_g) (hk : kI = (k : Int)) : ok_S M pc (sf_gi lo hi kI (pc + 3)) := by
  intro B ga gq D K gS gh p l e R s m args below meth c d X Q n0 L st S h n hn hL
  rcases st with _ | ⟨⟨_ | _ | _ | _, a⟩, st⟩ <;> try exact trivial
  unfold sf_gi
  simp only []
  by_cases q : lo ≤ S a (-2) ∧ S a (-2) ≤ hi
  · rw [if_pos q]
    refine ⟨Int.le_refl _, rfl, fun _ _ kk H ls locs h1 h2 h3 => ?_⟩
    obtain ⟨C, T, N, ty, -, -, -, -, -, -, -, -, -, b1, b2⟩ := hF _ q.1 q.2
    subst hk
    exact so_get X h3 hF q.1 q.2 hd hw hs (kk H ls locs h1 (so_Tc (so_k0 (h3.2.2.2.2.2.2.1 a _ (by omega))) (so_Tt h2)) h3)
  · rw [if_neg q]; exact trivial
theorem ok_gr {lo hi kI : Int} {i k : Nat} {ow nm ds ref : String} (hF : so_F lo hi k ow nm ds true) (hd : decode (mb_ M) pc = .ok (.getfield i, 3)) (hw : Cond.fieldLink (my_ M).cls i ref nm ds ∈ tb_g) (hs : ref = ow ∨ Cond.sameField ref ow nm ds ∈ tb_g) (hk : kI = (k : Int)) : ok_S M pc (sf_gr lo hi kI (pc + 3)) := by
  intro B ga gq D K gS gh p l e R s m args below meth c d X Q n0 L st S h n hn hL
  rcases st with _ | ⟨⟨_ | _ | _ | _, a⟩, st⟩ <;> try exact trivial
  unfold sf_gr
  simp only []
  by_cases q : lo ≤ S a (-2) ∧ S a (-2) ≤ hi
  · rw [if_pos q]
    refine ⟨Int.le_refl _, rfl, fun _ _ kk H ls locs h1 h2 h3 => ?_⟩
    subst hk
    exact so_get X h3 hF q.1 q.2 hd hw hs (kk H ls locs h1 (so_Tc so_k2 (so_Tt h2)) h3)
  · rw [if_neg q]; exact trivial
/-- a field is written -/
theorem so_put {B : Nat} {ga : Int → Nat} {gq : Value} {D : va_G} {K : Nat → ClassId} {gS gh : mx_H} {p : Program} {l : Launch} {e : Env} {R : Room} {s : State} {m : MethodId} {args : Array Value} {below : List Frame} {meth : Method} {c : Code} {d : Nat} {Q : State → Prop} {H : Heap} {locs : List Loc} {cells slots : Nat} {ls : Array Slot} {rest : List Value} {S h S' h' : mx_H} {n a lo hi : Int} {i k : Nat} {ow nm ds ref : String} {r : Bool} {v : Value} {ty1 : FieldType} (X : so_X B ga gq D K gS gh p R s m args meth c M d) (I : so_I B ga D K gS gh s S h n H locs) (hF : so_F lo hi k ow nm ds r) (h1 : lo ≤ S a (-2)) (h2 : S a (-2) ≤ hi) (hd : decode (mb_ M) pc = .ok (.putfield i, 3)) (hw : Cond.fieldLink (my_ M).cls i ref nm ds ∈ tb_g) (hs : ref = ow) (hfin : (∀ t : Int, lo ≤ t → t ≤ hi → ∀ (C : String) (T : u_T) (N : Nat), vwCl[so_ci t]? = some (C, T, N) → (T k).2.2.2 = false) ∨ ((∀ t : Int, lo ≤ t → t ≤ hi → ∀ (C : String) (T : u_T) (N : Nat), vwCl[so_ci t]? = some (C, T, N) → (T k).2.2.2 = true) ∧ (my_ M).name = "<init>" ∧ ow = (my_ M).cls))
    (hp : parseFieldDescriptor ds = some ty1) (hna : narrow ty1 v = v) (hfi : fits ty1 v = true)
    (ho : ∀ b, b ≠ a → S' b = S b ∧ h' b = h b) (e2 : S' a (-2) = S a (-2)) (e1 : S' a (-1) = S a (-1)) (c64 : ∀ k, so_c64 (h' a k)) (c32 : S a (-2) ≠ 21 → ∀ k, so_c32 (h' a k)) (hfs : so_fs B ga S' h' a (so_ci (S a (-2))) = (so_fs B ga S h a (so_ci (S a (-2)))).set k v)
    (kk : ∀ (H1 : Heap) (locs1 : List Loc), so_I B ga D K gS gh s S' h' n H1 locs1 → W p l e R s m args below meth c H1 locs1 cells slots Q (F0 m (pc + 3) ls rest)) : W p l e R s m args below meth c H locs cells slots Q (F0 m pc ls (v :: va_rf (so_r B ga a) :: rest)) := by
  obtain ⟨C, T, N, ty, hc, hk, t1, t2, t3, hin, hr, hty, hnm, b1, b2⟩ := hF _ h1 h2
  obtain ⟨a0, a1⟩ := so_own I X.2.2.2.2.2.2.2.2.2.1 b1 (by omega)
  have e0 : va_rf (so_r B ga a) = .ref (so_ad B ga a) := by unfold so_r; rw [if_neg (by omega)]; rfl
  rw [e0]
  have hts := X.2.2.2.2.2.1
  have hK := X.2.2.2.2.2.2.1
  have hown := X.2.2.2.2.1
  have hap := va_apart (own := (my_ M).cls) hts hin ty hty hnm hK hc
  have hat := so_Pa I a0 a1
  rw [so_Eo b1 b2] at hat
  obtain ⟨r0, hr0, cell, q1, q2, q3, q4⟩ := hat
  have hr1 : r0 = (C, T, N) := Option.some.inj (hr0.symm.trans hc)
  subst hr1
  obtain ⟨hS, hfc, kC, hkC, hkind⟩ := hK.1 _ _ hc
  obtain ⟨cf, kf, fi, f, hi', hsl⟩ := hS k hk
  have hlay := hts _ (hin _ (u_in_lay hk))
  have hst := (u_facts hfc hkC (u_lays hts hin hk) hi').1
  have hl : k < (so_fs B ga S h a (so_ci (S a (-2)))).length := by unfold so_fs; rw [List.length_mapIdx]; exact (List.getElem?_eq_some_iff.mp hr).1
  have hlt : f.slot < cell.slots.size := by rw [hsl]; exact k2_hasslot (q4 k hk)
  have hlink : (Cond.fieldLink (my_ M).cls i (T k).1 (T k).2.1 (T k).2.2.1).before args s = true := by rw [t1, t2, t3, ← hs]; exact hts _ hw
  have fin : ∀ H' : Heap, H'[so_ad B ga a]? = some (cell.setSlot f.slot v) → H'.size = H.size → (∀ q, q ≠ so_ad B ga a → H'[q]? = H[q]?) → W p l e R s m args below meth c H' (locs ++ [⟨so_ad B ga a, f.slot⟩]) cells slots Q (F0 m (pc + 3) ls rest) := by
    intro H' w1 w2 w3
    refine kk H' _ (so_upd I a0 a1 w2 w3 ?_ ho e2 e1 c64 c32)
    rw [so_Eo (by rw [e2]; exact b1) (by rw [e2]; exact b2), e2, hfs]
    refine ⟨_, hc, t_OB.to (V := updV (vp_V (so_fs B ga S h a (so_ci (S a (-2))))) k v) ⟨_, w1, q2, q3, ?_⟩ (fun j _ => vp_updV_set hl v j)⟩
    rw [hsl]
    exact t_set q4 hap hk v
  unfold u_lay at hlay
  rcases hfin with hf | ⟨hf, hi2, hdecl⟩
  · have hf := hf _ h1 h2 C T N hc
    rw [if_neg (by rw [hf]; decide)] at hlay
    have h6 := u_store hfc hkC hkind hlay hi' (by rw [t3]; exact hp) hna hfi
    exact W.putK X.1 X.2.1 (f := f) ⟨hown, hlink, ⟨_, _, _, hi'⟩, hst⟩ (by rw [q2]; exact h6) q1 q3 hlt rfl rfl hd fin
  · have hf := hf _ h1 h2 C T N hc
    rw [if_pos hf] at hlay
    have hcf : m.cls = cf := by
      obtain ⟨_, _, c', _, _, _, -, -, hf', -, -, -, hown2, -⟩ := Cond.laysFinal_spec hlay
      have w1 : c' = cf := by have := hi'.symm.trans hf'; simp at this; exact this.1.symm
      rw [t1, hdecl] at hown2
      rw [← w1]; exact Option.some.inj (hown.symm.trans hown2)
    have h6 := u_fits hfc hkC hkind (Or.inr hlay) hi' (by rw [t3]; exact hp) hna hfi
    exact W.putFinK X.1 X.2.1 hown hlink hi' hst hcf (X.2.2.2.2.2.2.2.2.1 hi2) (by rw [q2]; exact h6) q1 q3 hlt rfl rfl hd fin
end
