/-! The law out of the machine's run -/
set_option maxHeartbeats 1000000 in
theorem st_whole (hrun : ∀ (L : Nat) (xs : Nat → Int32), L ≤ 3072 → ∃ (S1 h1 : mx_H) (n1 : Int), mx_M 100 257 [(2, -2)] (st_gS L) (st_gh xs) 0 = some (some (0, 1), S1, h1, n1) ∧ n1 ≤ 24000) {p : Program} {e : Env} {s : State} {m : MethodId} {below : List Frame} {meth : Method} {c : Code} (l : Launch) {b L : Nat} {xs : Nat → Int32} (hL : L ≤ 3072) (C0 : lw_At p s m meth c b L xs) : W p l e room_1 s m #[Value.ref b] below meth c s.heap [] 0 0 (lw_Z below #[Value.ref b] s) (entryFrame m ([Value.ref b] : List Value).toArray 4) := by
  obtain ⟨S1, h1, n1, hr, hn1⟩ := hrun L xs hL
  obtain ⟨ga, gq, D, K, g2, X⟩ := st_ctx C0
  obtain ⟨f, hf⟩ := (mx_ex_iff mx_cd mx_ml _ _ _ _ _ _ _ _ _).mp hr
  have h0 := mo_rn st_mo _ _ _ _ _ _ _ _ _ _ _ _ _ hf
  have key := so_snd st_ok st_mo f 100 257 0 (mx_lay [(2, -2)] (mx_ml 257)) [] (st_gS L) (st_gh xs) 0 (some (0, 1)) S1 h1 n1 hf (l := l) (e := e) (below := below) X 0 ⟨Int.le_refl _, Int.le_refl _, rfl⟩ rfl (by show _ ≤ 600000; omega) (by show _ ≤ 7302250; omega) (lw_Z below #[Value.ref b] s) (by
    intro pcr Lr str hcr hLr H ls locs c1 c2 c3
    have hs := st_ok 257 pcr _ ga gq D K _ _ p l e room_1 s m _ below meth c 100 X (fun _ => True) 0 Lr str S1 h1 n1 ⟨h0, Int.le_refl _, rfl⟩ hLr
    rw [hcr] at hs
    obtain ⟨-, d2, -⟩ := hs
    obtain ⟨d3, d4⟩ := d2 1 rfl
    subst d4
    refine va_forget (fun q hq => c3.2.2.2.1.2.2 q hq) ?_
    refine W.widen (k := 600000) (n := 7302250) (by omega) (by omega) ?_
    exact lw_ret X.1 X.2.1 C0.2.2.1 X.2.2.2.2.2.2.2.1 d3)
  have I0 : so_I s.heap.size ga D K (st_gS L) (st_gh xs) s (st_gS L) (st_gh xs) 0 s.heap [] := by
    refine ⟨Int.le_refl _, rfl, fun k q hq => ?_, ⟨Nat.le_refl _, fun _ _ _ => rfl, fun _ h => by cases h⟩, fun a _ => ⟨rfl, rfl⟩, fun a k => so_c6432 (st_32 xs a k), fun a k _ => st_32 xs a k, fun a ha => ?_, fun a ha => st_len L hL a ha⟩
    · cases hq
    · rcases st_tag L a with ⟨h, h2⟩ | ⟨h, h2, h3⟩ | ⟨h, h2, h3⟩ | ⟨h, h2⟩
      · omega
      · omega
      · omega
      · exact h
  have hT : so_T [((2 : Nat), (-2 : Int))] := fun v hv => by
    have : v = (2, -2) := by simpa using hv
    rw [this]; exact so_k2
  have hlay := so_lay (B := s.heap.size) (ga := ga) (gq := gq) (as := [(2, -2)]) (n := 4) (so_gc X) hT (by decide)
  have hv : ([((2 : Nat), (-2 : Int))].map (so_v s.heap.size ga gq)) = [Value.ref b] := by
    show [va_rf (so_r s.heap.size ga (-2))] = _
    rw [so_rr (by decide), so_adn (by decide), g2]
  have := key s.heap _ [] hlay (fun _ h => by cases h) I0
  rw [hv] at this
  rw [lg_entry_eq]
  exact this
