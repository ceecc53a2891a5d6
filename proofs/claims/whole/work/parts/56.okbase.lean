/-! PRINTED (gen_ok.py): what the steps rest on -/
theorem in_X4 : ∀ w ∈ u_ws RX4 TX4 4, w ∈ tb_g := by
  intro w hw
  obtain ⟨k, hk, rfl⟩ := List.mem_map.mp hw
  have hk := List.mem_range.mp hk
  match k, hk with
    | 0, _ => exact tw_485
    | 1, _ => exact tw_486
    | 2, _ => exact tw_487
    | 3, _ => exact tw_488
    | k + 4, hk => exact absurd hk (by omega)
theorem cl_1 : so_cl 1 "RoomNumbers$Note" := ⟨by decide, by decide, fun q h => by rw [← Option.some.inj ((rfl : vwCl[so_ci 1]? = some (RX4, TX4, 4)).symm.trans h)]; rfl⟩
theorem in_X6 : ∀ w ∈ u_ws RX6 TX6 4, w ∈ tb_g := by
  intro w hw
  obtain ⟨k, hk, rfl⟩ := List.mem_map.mp hw
  have hk := List.mem_range.mp hk
  match k, hk with
    | 0, _ => exact tw_429
    | 1, _ => exact tw_431
    | 2, _ => exact tw_433
    | 3, _ => exact tw_435
    | k + 4, hk => exact absurd hk (by omega)
theorem cl_2 : so_cl 2 "RoomNumbers$Strokes" := ⟨by decide, by decide, fun q h => by rw [← Option.some.inj ((rfl : vwCl[so_ci 2]? = some (RX6, TX6, 4)).symm.trans h)]; rfl⟩
theorem in_X0 : ∀ w ∈ u_ws RX0 TX0 4, w ∈ tb_g := by
  intro w hw
  obtain ⟨k, hk, rfl⟩ := List.mem_map.mp hw
  have hk := List.mem_range.mp hk
  match k, hk with
    | 0, _ => exact tw_445
    | 1, _ => exact tw_446
    | 2, _ => exact tw_447
    | 3, _ => exact tw_448
    | k + 4, hk => exact absurd hk (by omega)
theorem cl_3 : so_cl 3 "RoomNumbers$Broken" := ⟨by decide, by decide, fun q h => by rw [← Option.some.inj ((rfl : vwCl[so_ci 3]? = some (RX0, TX0, 4)).symm.trans h)]; rfl⟩
theorem in_X3 : ∀ w ∈ u_ws RX3 TX3 4, w ∈ tb_g := by
  intro w hw
  obtain ⟨k, hk, rfl⟩ := List.mem_map.mp hw
  have hk := List.mem_range.mp hk
  match k, hk with
    | 0, _ => exact tw_456
    | 1, _ => exact tw_457
    | 2, _ => exact tw_458
    | 3, _ => exact tw_459
    | k + 4, hk => exact absurd hk (by omega)
theorem cl_4 : so_cl 4 "RoomNumbers$Left" := ⟨by decide, by decide, fun q h => by rw [← Option.some.inj ((rfl : vwCl[so_ci 4]? = some (RX3, TX3, 4)).symm.trans h)]; rfl⟩
theorem in_X9 : ∀ w ∈ u_ws RX9 TX9 4, w ∈ tb_g := by
  intro w hw
  obtain ⟨k, hk, rfl⟩ := List.mem_map.mp hw
  have hk := List.mem_range.mp hk
  match k, hk with
    | 0, _ => exact tw_467
    | 1, _ => exact tw_468
    | 2, _ => exact tw_469
    | 3, _ => exact tw_470
    | k + 4, hk => exact absurd hk (by omega)
theorem cl_5 : so_cl 5 "RoomNumbers$Turned" := ⟨by decide, by decide, fun q h => by rw [← Option.some.inj ((rfl : vwCl[so_ci 5]? = some (RX9, TX9, 4)).symm.trans h)]; rfl⟩
theorem in_X1 : ∀ w ∈ u_ws RX1 TX1 4, w ∈ tb_g := by
  intro w hw
  obtain ⟨k, hk, rfl⟩ := List.mem_map.mp hw
  have hk := List.mem_range.mp hk
  match k, hk with
    | 0, _ => exact tw_478
    | 1, _ => exact tw_479
    | 2, _ => exact tw_480
    | 3, _ => exact tw_481
    | k + 4, hk => exact absurd hk (by omega)
theorem cl_6 : so_cl 6 "RoomNumbers$Debt" := ⟨by decide, by decide, fun q h => by rw [← Option.some.inj ((rfl : vwCl[so_ci 6]? = some (RX1, TX1, 4)).symm.trans h)]; rfl⟩
theorem in_X11 : ∀ w ∈ u_ws RX11 TX11 17, w ∈ tb_g := by
  intro w hw
  obtain ⟨k, hk, rfl⟩ := List.mem_map.mp hw
  have hk := List.mem_range.mp hk
  match k, hk with
    | 0, _ => exact tw_223
    | 1, _ => exact tw_225
    | 2, _ => exact tw_227
    | 3, _ => exact tw_229
    | 4, _ => exact tw_231
    | 5, _ => exact tw_233
    | 6, _ => exact tw_235
    | 7, _ => exact tw_237
    | 8, _ => exact tw_239
    | 9, _ => exact tw_241
    | 10, _ => exact tw_243
    | 11, _ => exact tw_245
    | 12, _ => exact tw_247
    | 13, _ => exact tw_249
    | 14, _ => exact tw_251
    | 15, _ => exact tw_253
    | 16, _ => exact tw_255
    | k + 17, hk => exact absurd hk (by omega)
theorem cl_7 : so_cl 7 "RoomNumbers" := ⟨by decide, by decide, fun q h => by rw [← Option.some.inj ((rfl : vwCl[so_ci 7]? = some (RX11, TX11, 17)).symm.trans h)]; rfl⟩
theorem in_X10 : ∀ w ∈ u_ws RX10 TX10 7, w ∈ tb_g := by
  intro w hw
  obtain ⟨k, hk, rfl⟩ := List.mem_map.mp hw
  have hk := List.mem_range.mp hk
  match k, hk with
    | 0, _ => exact tw_66
    | 1, _ => exact tw_68
    | 2, _ => exact tw_70
    | 3, _ => exact tw_72
    | 4, _ => exact tw_74
    | 5, _ => exact tw_76
    | 6, _ => exact tw_78
    | k + 7, hk => exact absurd hk (by omega)
theorem cl_8 : so_cl 8 "RoomNumbers$Valley" := ⟨by decide, by decide, fun q h => by rw [← Option.some.inj ((rfl : vwCl[so_ci 8]? = some (RX10, TX10, 7)).symm.trans h)]; rfl⟩
theorem in_X2 : ∀ w ∈ u_ws RX2 TX2 16, w ∈ tb_g := by
  intro w hw
  obtain ⟨k, hk, rfl⟩ := List.mem_map.mp hw
  have hk := List.mem_range.mp hk
  match k, hk with
    | 0, _ => exact tw_103
    | 1, _ => exact tw_105
    | 2, _ => exact tw_107
    | 3, _ => exact tw_109
    | 4, _ => exact tw_111
    | 5, _ => exact tw_113
    | 6, _ => exact tw_115
    | 7, _ => exact tw_117
    | 8, _ => exact tw_119
    | 9, _ => exact tw_121
    | 10, _ => exact tw_123
    | 11, _ => exact tw_125
    | 12, _ => exact tw_127
    | 13, _ => exact tw_129
    | 14, _ => exact tw_131
    | 15, _ => exact tw_133
    | k + 16, hk => exact absurd hk (by omega)
theorem cl_9 : so_cl 9 "RoomNumbers$Finder" := ⟨by decide, by decide, fun q h => by rw [← Option.some.inj ((rfl : vwCl[so_ci 9]? = some (RX2, TX2, 16)).symm.trans h)]; rfl⟩
theorem in_X7 : ∀ w ∈ u_ws RX7 TX7 8, w ∈ tb_g := by
  intro w hw
  obtain ⟨k, hk, rfl⟩ := List.mem_map.mp hw
  have hk := List.mem_range.mp hk
  match k, hk with
    | 0, _ => exact tw_156
    | 1, _ => exact tw_158
    | 2, _ => exact tw_160
    | 3, _ => exact tw_162
    | 4, _ => exact tw_164
    | 5, _ => exact tw_166
    | 6, _ => exact tw_168
    | 7, _ => exact tw_170
    | k + 8, hk => exact absurd hk (by omega)
theorem cl_10 : so_cl 10 "RoomNumbers$Teller" := ⟨by decide, by decide, fun q h => by rw [← Option.some.inj ((rfl : vwCl[so_ci 10]? = some (RX7, TX7, 8)).symm.trans h)]; rfl⟩
theorem in_X8 : ∀ w ∈ u_ws RX8 TX8 3, w ∈ tb_g := by
  intro w hw
  obtain ⟨k, hk, rfl⟩ := List.mem_map.mp hw
  have hk := List.mem_range.mp hk
  match k, hk with
    | 0, _ => exact tw_197
    | 1, _ => exact tw_199
    | 2, _ => exact tw_201
    | k + 3, hk => exact absurd hk (by omega)
theorem cl_11 : so_cl 11 "RoomNumbers$Trace" := ⟨by decide, by decide, fun q h => by rw [← Option.some.inj ((rfl : vwCl[so_ci 11]? = some (RX8, TX8, 3)).symm.trans h)]; rfl⟩
theorem in_X5 : ∀ w ∈ u_ws RX5 TX5 2, w ∈ tb_g := by
  intro w hw
  obtain ⟨k, hk, rfl⟩ := List.mem_map.mp hw
  have hk := List.mem_range.mp hk
  match k, hk with
    | 0, _ => exact tw_948
    | 1, _ => exact tw_950
    | k + 2, hk => exact absurd hk (by omega)
theorem cl_12 : so_cl 12 "RoomNumbers$SheetRow" := ⟨by decide, by decide, fun q h => by rw [← Option.some.inj ((rfl : vwCl[so_ci 12]? = some (RX5, TX5, 2)).symm.trans h)]; rfl⟩
theorem in_X12 : ∀ w ∈ u_ws RX12 TX12 25, w ∈ tb_g := by
  intro w hw
  obtain ⟨k, hk, rfl⟩ := List.mem_map.mp hw
  have hk := List.mem_range.mp hk
  match k, hk with
    | 0, _ => exact tw_1151
    | 1, _ => exact tw_1153
    | 2, _ => exact tw_1155
    | 3, _ => exact tw_1157
    | 4, _ => exact tw_1159
    | 5, _ => exact tw_1161
    | 6, _ => exact tw_1163
    | 7, _ => exact tw_1165
    | 8, _ => exact tw_1167
    | 9, _ => exact tw_1169
    | 10, _ => exact tw_1171
    | 11, _ => exact tw_1173
    | 12, _ => exact tw_1175
    | 13, _ => exact tw_1177
    | 14, _ => exact tw_1179
    | 15, _ => exact tw_1181
    | 16, _ => exact tw_1183
    | 17, _ => exact tw_1185
    | 18, _ => exact tw_1187
    | 19, _ => exact tw_1189
    | 20, _ => exact tw_1191
    | 21, _ => exact tw_1193
    | 22, _ => exact tw_1195
    | 23, _ => exact tw_1197
    | 24, _ => exact tw_1199
    | k + 25, hk => exact absurd hk (by omega)
theorem cl_13 : so_cl 13 "RoomNumbersModel" := ⟨by decide, by decide, fun q h => by rw [← Option.some.inj ((rfl : vwCl[so_ci 13]? = some (RX12, TX12, 25)).symm.trans h)]; rfl⟩
theorem fd_1_1 : so_F 1 6 1 "RoomNumbers$Note" "a" "I" false := by
  intro t h1 h2
  rcases (by omega : t = 1 ∨ t = 2 ∨ t = 3 ∨ t = 4 ∨ t = 5 ∨ t = 6) with e | e | e | e | e | e <;> subst e
  · exact ⟨RX4, TX4, 4, tyX4, rfl, by decide, rfl, rfl, rfl, in_X4, rfl, tyX4_ok, nmX4, by decide, by decide⟩
  · exact ⟨RX6, TX6, 4, tyX6, rfl, by decide, rfl, rfl, rfl, in_X6, rfl, tyX6_ok, nmX6, by decide, by decide⟩
  · exact ⟨RX0, TX0, 4, tyX0, rfl, by decide, rfl, rfl, rfl, in_X0, rfl, tyX0_ok, nmX0, by decide, by decide⟩
  · exact ⟨RX3, TX3, 4, tyX3, rfl, by decide, rfl, rfl, rfl, in_X3, rfl, tyX3_ok, nmX3, by decide, by decide⟩
  · exact ⟨RX9, TX9, 4, tyX9, rfl, by decide, rfl, rfl, rfl, in_X9, rfl, tyX9_ok, nmX9, by decide, by decide⟩
  · exact ⟨RX1, TX1, 4, tyX1, rfl, by decide, rfl, rfl, rfl, in_X1, rfl, tyX1_ok, nmX1, by decide, by decide⟩
theorem ff_1_1 : ∀ t : Int, 1 ≤ t → t ≤ 6 → ∀ (C : String) (T : u_T) (N : Nat), vwCl[so_ci t]? = some (C, T, N) → (T 1).2.2.2 = true := by
  intro t h1 h2 C T N hc
  rcases (by omega : t = 1 ∨ t = 2 ∨ t = 3 ∨ t = 4 ∨ t = 5 ∨ t = 6) with e | e | e | e | e | e <;> subst e
  · exact by rw [show T = TX4 from congrArg (fun z => z.2.1) (Option.some.inj (hc.symm.trans (rfl : vwCl[so_ci 1]? = some (RX4, TX4, 4))))]; rfl
  · exact by rw [show T = TX6 from congrArg (fun z => z.2.1) (Option.some.inj (hc.symm.trans (rfl : vwCl[so_ci 2]? = some (RX6, TX6, 4))))]; rfl
  · exact by rw [show T = TX0 from congrArg (fun z => z.2.1) (Option.some.inj (hc.symm.trans (rfl : vwCl[so_ci 3]? = some (RX0, TX0, 4))))]; rfl
  · exact by rw [show T = TX3 from congrArg (fun z => z.2.1) (Option.some.inj (hc.symm.trans (rfl : vwCl[so_ci 4]? = some (RX3, TX3, 4))))]; rfl
  · exact by rw [show T = TX9 from congrArg (fun z => z.2.1) (Option.some.inj (hc.symm.trans (rfl : vwCl[so_ci 5]? = some (RX9, TX9, 4))))]; rfl
  · exact by rw [show T = TX1 from congrArg (fun z => z.2.1) (Option.some.inj (hc.symm.trans (rfl : vwCl[so_ci 6]? = some (RX1, TX1, 4))))]; rfl
theorem fd_1_2 : so_F 1 6 2 "RoomNumbers$Note" "marks" "[I" true := by
  intro t h1 h2
  rcases (by omega : t = 1 ∨ t = 2 ∨ t = 3 ∨ t = 4 ∨ t = 5 ∨ t = 6) with e | e | e | e | e | e <;> subst e
  · exact ⟨RX4, TX4, 4, tyX4, rfl, by decide, rfl, rfl, rfl, in_X4, rfl, tyX4_ok, nmX4, by decide, by decide⟩
  · exact ⟨RX6, TX6, 4, tyX6, rfl, by decide, rfl, rfl, rfl, in_X6, rfl, tyX6_ok, nmX6, by decide, by decide⟩
  · exact ⟨RX0, TX0, 4, tyX0, rfl, by decide, rfl, rfl, rfl, in_X0, rfl, tyX0_ok, nmX0, by decide, by decide⟩
  · exact ⟨RX3, TX3, 4, tyX3, rfl, by decide, rfl, rfl, rfl, in_X3, rfl, tyX3_ok, nmX3, by decide, by decide⟩
  · exact ⟨RX9, TX9, 4, tyX9, rfl, by decide, rfl, rfl, rfl, in_X9, rfl, tyX9_ok, nmX9, by decide, by decide⟩
  · exact ⟨RX1, TX1, 4, tyX1, rfl, by decide, rfl, rfl, rfl, in_X1, rfl, tyX1_ok, nmX1, by decide, by decide⟩
theorem ff_1_2 : ∀ t : Int, 1 ≤ t → t ≤ 6 → ∀ (C : String) (T : u_T) (N : Nat), vwCl[so_ci t]? = some (C, T, N) → (T 2).2.2.2 = true := by
  intro t h1 h2 C T N hc
  rcases (by omega : t = 1 ∨ t = 2 ∨ t = 3 ∨ t = 4 ∨ t = 5 ∨ t = 6) with e | e | e | e | e | e <;> subst e
  · exact by rw [show T = TX4 from congrArg (fun z => z.2.1) (Option.some.inj (hc.symm.trans (rfl : vwCl[so_ci 1]? = some (RX4, TX4, 4))))]; rfl
  · exact by rw [show T = TX6 from congrArg (fun z => z.2.1) (Option.some.inj (hc.symm.trans (rfl : vwCl[so_ci 2]? = some (RX6, TX6, 4))))]; rfl
  · exact by rw [show T = TX0 from congrArg (fun z => z.2.1) (Option.some.inj (hc.symm.trans (rfl : vwCl[so_ci 3]? = some (RX0, TX0, 4))))]; rfl
  · exact by rw [show T = TX3 from congrArg (fun z => z.2.1) (Option.some.inj (hc.symm.trans (rfl : vwCl[so_ci 4]? = some (RX3, TX3, 4))))]; rfl
  · exact by rw [show T = TX9 from congrArg (fun z => z.2.1) (Option.some.inj (hc.symm.trans (rfl : vwCl[so_ci 5]? = some (RX9, TX9, 4))))]; rfl
  · exact by rw [show T = TX1 from congrArg (fun z => z.2.1) (Option.some.inj (hc.symm.trans (rfl : vwCl[so_ci 6]? = some (RX1, TX1, 4))))]; rfl
theorem fd_11_0 : so_F 11 11 0 "RoomNumbers$Trace" "bodies" "[I" true := by
  intro t h1 h2
  have e : t = 11 := by omega
  subst e
  exact ⟨RX8, TX8, 3, tyX8, rfl, by decide, rfl, rfl, rfl, in_X8, rfl, tyX8_ok, nmX8, by decide, by decide⟩
theorem ff_11_0 : ∀ t : Int, 11 ≤ t → t ≤ 11 → ∀ (C : String) (T : u_T) (N : Nat), vwCl[so_ci t]? = some (C, T, N) → (T 0).2.2.2 = true := by
  intro t h1 h2 C T N hc
  have e : t = 11 := by omega
  subst e
  exact by rw [show T = TX8 from congrArg (fun z => z.2.1) (Option.some.inj (hc.symm.trans (rfl : vwCl[so_ci 11]? = some (RX8, TX8, 3))))]; rfl
theorem fd_11_1 : so_F 11 11 1 "RoomNumbers$Trace" "count" "I" false := by
  intro t h1 h2
  have e : t = 11 := by omega
  subst e
  exact ⟨RX8, TX8, 3, tyX8, rfl, by decide, rfl, rfl, rfl, in_X8, rfl, tyX8_ok, nmX8, by decide, by decide⟩
theorem ff_11_1 : ∀ t : Int, 11 ≤ t → t ≤ 11 → ∀ (C : String) (T : u_T) (N : Nat), vwCl[so_ci t]? = some (C, T, N) → (T 1).2.2.2 = false := by
  intro t h1 h2 C T N hc
  have e : t = 11 := by omega
  subst e
  exact by rw [show T = TX8 from congrArg (fun z => z.2.1) (Option.some.inj (hc.symm.trans (rfl : vwCl[so_ci 11]? = some (RX8, TX8, 3))))]; rfl
theorem fd_1_0 : so_F 1 6 0 "RoomNumbers$Note" "number" "I" false := by
  intro t h1 h2
  rcases (by omega : t = 1 ∨ t = 2 ∨ t = 3 ∨ t = 4 ∨ t = 5 ∨ t = 6) with e | e | e | e | e | e <;> subst e
  · exact ⟨RX4, TX4, 4, tyX4, rfl, by decide, rfl, rfl, rfl, in_X4, rfl, tyX4_ok, nmX4, by decide, by decide⟩
  · exact ⟨RX6, TX6, 4, tyX6, rfl, by decide, rfl, rfl, rfl, in_X6, rfl, tyX6_ok, nmX6, by decide, by decide⟩
  · exact ⟨RX0, TX0, 4, tyX0, rfl, by decide, rfl, rfl, rfl, in_X0, rfl, tyX0_ok, nmX0, by decide, by decide⟩
  · exact ⟨RX3, TX3, 4, tyX3, rfl, by decide, rfl, rfl, rfl, in_X3, rfl, tyX3_ok, nmX3, by decide, by decide⟩
  · exact ⟨RX9, TX9, 4, tyX9, rfl, by decide, rfl, rfl, rfl, in_X9, rfl, tyX9_ok, nmX9, by decide, by decide⟩
  · exact ⟨RX1, TX1, 4, tyX1, rfl, by decide, rfl, rfl, rfl, in_X1, rfl, tyX1_ok, nmX1, by decide, by decide⟩
theorem ff_1_0 : ∀ t : Int, 1 ≤ t → t ≤ 6 → ∀ (C : String) (T : u_T) (N : Nat), vwCl[so_ci t]? = some (C, T, N) → (T 0).2.2.2 = true := by
  intro t h1 h2 C T N hc
  rcases (by omega : t = 1 ∨ t = 2 ∨ t = 3 ∨ t = 4 ∨ t = 5 ∨ t = 6) with e | e | e | e | e | e <;> subst e
  · exact by rw [show T = TX4 from congrArg (fun z => z.2.1) (Option.some.inj (hc.symm.trans (rfl : vwCl[so_ci 1]? = some (RX4, TX4, 4))))]; rfl
  · exact by rw [show T = TX6 from congrArg (fun z => z.2.1) (Option.some.inj (hc.symm.trans (rfl : vwCl[so_ci 2]? = some (RX6, TX6, 4))))]; rfl
  · exact by rw [show T = TX0 from congrArg (fun z => z.2.1) (Option.some.inj (hc.symm.trans (rfl : vwCl[so_ci 3]? = some (RX0, TX0, 4))))]; rfl
  · exact by rw [show T = TX3 from congrArg (fun z => z.2.1) (Option.some.inj (hc.symm.trans (rfl : vwCl[so_ci 4]? = some (RX3, TX3, 4))))]; rfl
  · exact by rw [show T = TX9 from congrArg (fun z => z.2.1) (Option.some.inj (hc.symm.trans (rfl : vwCl[so_ci 5]? = some (RX9, TX9, 4))))]; rfl
  · exact by rw [show T = TX1 from congrArg (fun z => z.2.1) (Option.some.inj (hc.symm.trans (rfl : vwCl[so_ci 6]? = some (RX1, TX1, 4))))]; rfl
theorem fd_9_0 : so_F 9 9 0 "RoomNumbers$Finder" "valley" "LRoomNumbers$Valley;" true := by
  intro t h1 h2
  have e : t = 9 := by omega
  subst e
  exact ⟨RX2, TX2, 16, tyX2, rfl, by decide, rfl, rfl, rfl, in_X2, rfl, tyX2_ok, nmX2, by decide, by decide⟩
theorem ff_9_0 : ∀ t : Int, 9 ≤ t → t ≤ 9 → ∀ (C : String) (T : u_T) (N : Nat), vwCl[so_ci t]? = some (C, T, N) → (T 0).2.2.2 = true := by
  intro t h1 h2 C T N hc
  have e : t = 9 := by omega
  subst e
  exact by rw [show T = TX2 from congrArg (fun z => z.2.1) (Option.some.inj (hc.symm.trans (rfl : vwCl[so_ci 9]? = some (RX2, TX2, 16))))]; rfl
theorem fd_9_1 : so_F 9 9 1 "RoomNumbers$Finder" "bases" "[I" true := by
  intro t h1 h2
  have e : t = 9 := by omega
  subst e
  exact ⟨RX2, TX2, 16, tyX2, rfl, by decide, rfl, rfl, rfl, in_X2, rfl, tyX2_ok, nmX2, by decide, by decide⟩
theorem ff_9_1 : ∀ t : Int, 9 ≤ t → t ≤ 9 → ∀ (C : String) (T : u_T) (N : Nat), vwCl[so_ci t]? = some (C, T, N) → (T 1).2.2.2 = true := by
  intro t h1 h2 C T N hc
  have e : t = 9 := by omega
  subst e
  exact by rw [show T = TX2 from congrArg (fun z => z.2.1) (Option.some.inj (hc.symm.trans (rfl : vwCl[so_ci 9]? = some (RX2, TX2, 16))))]; rfl
theorem fd_9_2 : so_F 9 9 2 "RoomNumbers$Finder" "mendNote" "I" false := by
  intro t h1 h2
  have e : t = 9 := by omega
  subst e
  exact ⟨RX2, TX2, 16, tyX2, rfl, by decide, rfl, rfl, rfl, in_X2, rfl, tyX2_ok, nmX2, by decide, by decide⟩
theorem ff_9_2 : ∀ t : Int, 9 ≤ t → t ≤ 9 → ∀ (C : String) (T : u_T) (N : Nat), vwCl[so_ci t]? = some (C, T, N) → (T 2).2.2.2 = false := by
  intro t h1 h2 C T N hc
  have e : t = 9 := by omega
  subst e
  exact by rw [show T = TX2 from congrArg (fun z => z.2.1) (Option.some.inj (hc.symm.trans (rfl : vwCl[so_ci 9]? = some (RX2, TX2, 16))))]; rfl
theorem fd_9_3 : so_F 9 9 3 "RoomNumbers$Finder" "mendPlace" "I" false := by
  intro t h1 h2
  have e : t = 9 := by omega
  subst e
  exact ⟨RX2, TX2, 16, tyX2, rfl, by decide, rfl, rfl, rfl, in_X2, rfl, tyX2_ok, nmX2, by decide, by decide⟩
theorem ff_9_3 : ∀ t : Int, 9 ≤ t → t ≤ 9 → ∀ (C : String) (T : u_T) (N : Nat), vwCl[so_ci t]? = some (C, T, N) → (T 3).2.2.2 = false := by
  intro t h1 h2 C T N hc
  have e : t = 9 := by omega
  subst e
  exact by rw [show T = TX2 from congrArg (fun z => z.2.1) (Option.some.inj (hc.symm.trans (rfl : vwCl[so_ci 9]? = some (RX2, TX2, 16))))]; rfl
theorem fd_9_4 : so_F 9 9 4 "RoomNumbers$Finder" "mendSign" "I" false := by
  intro t h1 h2
  have e : t = 9 := by omega
  subst e
  exact ⟨RX2, TX2, 16, tyX2, rfl, by decide, rfl, rfl, rfl, in_X2, rfl, tyX2_ok, nmX2, by decide, by decide⟩
theorem ff_9_4 : ∀ t : Int, 9 ≤ t → t ≤ 9 → ∀ (C : String) (T : u_T) (N : Nat), vwCl[so_ci t]? = some (C, T, N) → (T 4).2.2.2 = false := by
  intro t h1 h2 C T N hc
  have e : t = 9 := by omega
  subst e
  exact by rw [show T = TX2 from congrArg (fun z => z.2.1) (Option.some.inj (hc.symm.trans (rfl : vwCl[so_ci 9]? = some (RX2, TX2, 16))))]; rfl
theorem fd_9_5 : so_F 9 9 5 "RoomNumbers$Finder" "evenings" "[I" true := by
  intro t h1 h2
  have e : t = 9 := by omega
  subst e
  exact ⟨RX2, TX2, 16, tyX2, rfl, by decide, rfl, rfl, rfl, in_X2, rfl, tyX2_ok, nmX2, by decide, by decide⟩
theorem ff_9_5 : ∀ t : Int, 9 ≤ t → t ≤ 9 → ∀ (C : String) (T : u_T) (N : Nat), vwCl[so_ci t]? = some (C, T, N) → (T 5).2.2.2 = true := by
  intro t h1 h2 C T N hc
  have e : t = 9 := by omega
  subst e
  exact by rw [show T = TX2 from congrArg (fun z => z.2.1) (Option.some.inj (hc.symm.trans (rfl : vwCl[so_ci 9]? = some (RX2, TX2, 16))))]; rfl
theorem fd_9_6 : so_F 9 9 6 "RoomNumbers$Finder" "cans" "[I" true := by
  intro t h1 h2
  have e : t = 9 := by omega
  subst e
  exact ⟨RX2, TX2, 16, tyX2, rfl, by decide, rfl, rfl, rfl, in_X2, rfl, tyX2_ok, nmX2, by decide, by decide⟩
theorem ff_9_6 : ∀ t : Int, 9 ≤ t → t ≤ 9 → ∀ (C : String) (T : u_T) (N : Nat), vwCl[so_ci t]? = some (C, T, N) → (T 6).2.2.2 = true := by
  intro t h1 h2 C T N hc
  have e : t = 9 := by omega
  subst e
  exact by rw [show T = TX2 from congrArg (fun z => z.2.1) (Option.some.inj (hc.symm.trans (rfl : vwCl[so_ci 9]? = some (RX2, TX2, 16))))]; rfl
theorem fd_9_7 : so_F 9 9 7 "RoomNumbers$Finder" "worths" "[I" true := by
  intro t h1 h2
  have e : t = 9 := by omega
  subst e
  exact ⟨RX2, TX2, 16, tyX2, rfl, by decide, rfl, rfl, rfl, in_X2, rfl, tyX2_ok, nmX2, by decide, by decide⟩
theorem ff_9_7 : ∀ t : Int, 9 ≤ t → t ≤ 9 → ∀ (C : String) (T : u_T) (N : Nat), vwCl[so_ci t]? = some (C, T, N) → (T 7).2.2.2 = true := by
  intro t h1 h2 C T N hc
  have e : t = 9 := by omega
  subst e
  exact by rw [show T = TX2 from congrArg (fun z => z.2.1) (Option.some.inj (hc.symm.trans (rfl : vwCl[so_ci 9]? = some (RX2, TX2, 16))))]; rfl
theorem fd_9_8 : so_F 9 9 8 "RoomNumbers$Finder" "touched" "[I" true := by
  intro t h1 h2
  have e : t = 9 := by omega
  subst e
  exact ⟨RX2, TX2, 16, tyX2, rfl, by decide, rfl, rfl, rfl, in_X2, rfl, tyX2_ok, nmX2, by decide, by decide⟩
theorem ff_9_8 : ∀ t : Int, 9 ≤ t → t ≤ 9 → ∀ (C : String) (T : u_T) (N : Nat), vwCl[so_ci t]? = some (C, T, N) → (T 8).2.2.2 = true := by
  intro t h1 h2 C T N hc
  have e : t = 9 := by omega
  subst e
  exact by rw [show T = TX2 from congrArg (fun z => z.2.1) (Option.some.inj (hc.symm.trans (rfl : vwCl[so_ci 9]? = some (RX2, TX2, 16))))]; rfl
theorem fd_9_9 : so_F 9 9 9 "RoomNumbers$Finder" "limits" "[I" true := by
  intro t h1 h2
  have e : t = 9 := by omega
  subst e
  exact ⟨RX2, TX2, 16, tyX2, rfl, by decide, rfl, rfl, rfl, in_X2, rfl, tyX2_ok, nmX2, by decide, by decide⟩
theorem ff_9_9 : ∀ t : Int, 9 ≤ t → t ≤ 9 → ∀ (C : String) (T : u_T) (N : Nat), vwCl[so_ci t]? = some (C, T, N) → (T 9).2.2.2 = true := by
  intro t h1 h2 C T N hc
  have e : t = 9 := by omega
  subst e
  exact by rw [show T = TX2 from congrArg (fun z => z.2.1) (Option.some.inj (hc.symm.trans (rfl : vwCl[so_ci 9]? = some (RX2, TX2, 16))))]; rfl
theorem fd_9_10 : so_F 9 9 10 "RoomNumbers$Finder" "saved" "[I" true := by
  intro t h1 h2
  have e : t = 9 := by omega
  subst e
  exact ⟨RX2, TX2, 16, tyX2, rfl, by decide, rfl, rfl, rfl, in_X2, rfl, tyX2_ok, nmX2, by decide, by decide⟩
theorem ff_9_10 : ∀ t : Int, 9 ≤ t → t ≤ 9 → ∀ (C : String) (T : u_T) (N : Nat), vwCl[so_ci t]? = some (C, T, N) → (T 10).2.2.2 = true := by
  intro t h1 h2 C T N hc
  have e : t = 9 := by omega
  subst e
  exact by rw [show T = TX2 from congrArg (fun z => z.2.1) (Option.some.inj (hc.symm.trans (rfl : vwCl[so_ci 9]? = some (RX2, TX2, 16))))]; rfl
theorem fd_9_11 : so_F 9 9 11 "RoomNumbers$Finder" "thirds" "[I" true := by
  intro t h1 h2
  have e : t = 9 := by omega
  subst e
  exact ⟨RX2, TX2, 16, tyX2, rfl, by decide, rfl, rfl, rfl, in_X2, rfl, tyX2_ok, nmX2, by decide, by decide⟩
theorem ff_9_11 : ∀ t : Int, 9 ≤ t → t ≤ 9 → ∀ (C : String) (T : u_T) (N : Nat), vwCl[so_ci t]? = some (C, T, N) → (T 11).2.2.2 = true := by
  intro t h1 h2 C T N hc
  have e : t = 9 := by omega
  subst e
  exact by rw [show T = TX2 from congrArg (fun z => z.2.1) (Option.some.inj (hc.symm.trans (rfl : vwCl[so_ci 9]? = some (RX2, TX2, 16))))]; rfl
theorem fd_9_12 : so_F 9 9 12 "RoomNumbers$Finder" "seen" "[I" true := by
  intro t h1 h2
  have e : t = 9 := by omega
  subst e
  exact ⟨RX2, TX2, 16, tyX2, rfl, by decide, rfl, rfl, rfl, in_X2, rfl, tyX2_ok, nmX2, by decide, by decide⟩
theorem ff_9_12 : ∀ t : Int, 9 ≤ t → t ≤ 9 → ∀ (C : String) (T : u_T) (N : Nat), vwCl[so_ci t]? = some (C, T, N) → (T 12).2.2.2 = true := by
  intro t h1 h2 C T N hc
  have e : t = 9 := by omega
  subst e
  exact by rw [show T = TX2 from congrArg (fun z => z.2.1) (Option.some.inj (hc.symm.trans (rfl : vwCl[so_ci 9]? = some (RX2, TX2, 16))))]; rfl
theorem fd_9_13 : so_F 9 9 13 "RoomNumbers$Finder" "count" "I" false := by
  intro t h1 h2
  have e : t = 9 := by omega
  subst e
  exact ⟨RX2, TX2, 16, tyX2, rfl, by decide, rfl, rfl, rfl, in_X2, rfl, tyX2_ok, nmX2, by decide, by decide⟩
theorem ff_9_13 : ∀ t : Int, 9 ≤ t → t ≤ 9 → ∀ (C : String) (T : u_T) (N : Nat), vwCl[so_ci t]? = some (C, T, N) → (T 13).2.2.2 = false := by
  intro t h1 h2 C T N hc
  have e : t = 9 := by omega
  subst e
  exact by rw [show T = TX2 from congrArg (fun z => z.2.1) (Option.some.inj (hc.symm.trans (rfl : vwCl[so_ci 9]? = some (RX2, TX2, 16))))]; rfl
theorem fd_9_14 : so_F 9 9 14 "RoomNumbers$Finder" "version" "I" false := by
  intro t h1 h2
  have e : t = 9 := by omega
  subst e
  exact ⟨RX2, TX2, 16, tyX2, rfl, by decide, rfl, rfl, rfl, in_X2, rfl, tyX2_ok, nmX2, by decide, by decide⟩
theorem ff_9_14 : ∀ t : Int, 9 ≤ t → t ≤ 9 → ∀ (C : String) (T : u_T) (N : Nat), vwCl[so_ci t]? = some (C, T, N) → (T 14).2.2.2 = false := by
  intro t h1 h2 C T N hc
  have e : t = 9 := by omega
  subst e
  exact by rw [show T = TX2 from congrArg (fun z => z.2.1) (Option.some.inj (hc.symm.trans (rfl : vwCl[so_ci 9]? = some (RX2, TX2, 16))))]; rfl
theorem fd_9_15 : so_F 9 9 15 "RoomNumbers$Finder" "mendVersion" "I" false := by
  intro t h1 h2
  have e : t = 9 := by omega
  subst e
  exact ⟨RX2, TX2, 16, tyX2, rfl, by decide, rfl, rfl, rfl, in_X2, rfl, tyX2_ok, nmX2, by decide, by decide⟩
theorem ff_9_15 : ∀ t : Int, 9 ≤ t → t ≤ 9 → ∀ (C : String) (T : u_T) (N : Nat), vwCl[so_ci t]? = some (C, T, N) → (T 15).2.2.2 = false := by
  intro t h1 h2 C T N hc
  have e : t = 9 := by omega
  subst e
  exact by rw [show T = TX2 from congrArg (fun z => z.2.1) (Option.some.inj (hc.symm.trans (rfl : vwCl[so_ci 9]? = some (RX2, TX2, 16))))]; rfl
theorem fd_8_5 : so_F 8 8 5 "RoomNumbers$Valley" "version" "I" false := by
  intro t h1 h2
  have e : t = 8 := by omega
  subst e
  exact ⟨RX10, TX10, 7, tyX10, rfl, by decide, rfl, rfl, rfl, in_X10, rfl, tyX10_ok, nmX10, by decide, by decide⟩
theorem ff_8_5 : ∀ t : Int, 8 ≤ t → t ≤ 8 → ∀ (C : String) (T : u_T) (N : Nat), vwCl[so_ci t]? = some (C, T, N) → (T 5).2.2.2 = false := by
  intro t h1 h2 C T N hc
  have e : t = 8 := by omega
  subst e
  exact by rw [show T = TX10 from congrArg (fun z => z.2.1) (Option.some.inj (hc.symm.trans (rfl : vwCl[so_ci 8]? = some (RX10, TX10, 7))))]; rfl
theorem fd_8_3 : so_F 8 8 3 "RoomNumbers$Valley" "noteCount" "I" false := by
  intro t h1 h2
  have e : t = 8 := by omega
  subst e
  exact ⟨RX10, TX10, 7, tyX10, rfl, by decide, rfl, rfl, rfl, in_X10, rfl, tyX10_ok, nmX10, by decide, by decide⟩
theorem ff_8_3 : ∀ t : Int, 8 ≤ t → t ≤ 8 → ∀ (C : String) (T : u_T) (N : Nat), vwCl[so_ci t]? = some (C, T, N) → (T 3).2.2.2 = false := by
  intro t h1 h2 C T N hc
  have e : t = 8 := by omega
  subst e
  exact by rw [show T = TX10 from congrArg (fun z => z.2.1) (Option.some.inj (hc.symm.trans (rfl : vwCl[so_ci 8]? = some (RX10, TX10, 7))))]; rfl
theorem fd_1_3 : so_F 1 6 3 "RoomNumbers$Note" "evening" "I" false := by
  intro t h1 h2
  rcases (by omega : t = 1 ∨ t = 2 ∨ t = 3 ∨ t = 4 ∨ t = 5 ∨ t = 6) with e | e | e | e | e | e <;> subst e
  · exact ⟨RX4, TX4, 4, tyX4, rfl, by decide, rfl, rfl, rfl, in_X4, rfl, tyX4_ok, nmX4, by decide, by decide⟩
  · exact ⟨RX6, TX6, 4, tyX6, rfl, by decide, rfl, rfl, rfl, in_X6, rfl, tyX6_ok, nmX6, by decide, by decide⟩
  · exact ⟨RX0, TX0, 4, tyX0, rfl, by decide, rfl, rfl, rfl, in_X0, rfl, tyX0_ok, nmX0, by decide, by decide⟩
  · exact ⟨RX3, TX3, 4, tyX3, rfl, by decide, rfl, rfl, rfl, in_X3, rfl, tyX3_ok, nmX3, by decide, by decide⟩
  · exact ⟨RX9, TX9, 4, tyX9, rfl, by decide, rfl, rfl, rfl, in_X9, rfl, tyX9_ok, nmX9, by decide, by decide⟩
  · exact ⟨RX1, TX1, 4, tyX1, rfl, by decide, rfl, rfl, rfl, in_X1, rfl, tyX1_ok, nmX1, by decide, by decide⟩
theorem ff_1_3 : ∀ t : Int, 1 ≤ t → t ≤ 6 → ∀ (C : String) (T : u_T) (N : Nat), vwCl[so_ci t]? = some (C, T, N) → (T 3).2.2.2 = false := by
  intro t h1 h2 C T N hc
  rcases (by omega : t = 1 ∨ t = 2 ∨ t = 3 ∨ t = 4 ∨ t = 5 ∨ t = 6) with e | e | e | e | e | e <;> subst e
  · exact by rw [show T = TX4 from congrArg (fun z => z.2.1) (Option.some.inj (hc.symm.trans (rfl : vwCl[so_ci 1]? = some (RX4, TX4, 4))))]; rfl
  · exact by rw [show T = TX6 from congrArg (fun z => z.2.1) (Option.some.inj (hc.symm.trans (rfl : vwCl[so_ci 2]? = some (RX6, TX6, 4))))]; rfl
  · exact by rw [show T = TX0 from congrArg (fun z => z.2.1) (Option.some.inj (hc.symm.trans (rfl : vwCl[so_ci 3]? = some (RX0, TX0, 4))))]; rfl
  · exact by rw [show T = TX3 from congrArg (fun z => z.2.1) (Option.some.inj (hc.symm.trans (rfl : vwCl[so_ci 4]? = some (RX3, TX3, 4))))]; rfl
  · exact by rw [show T = TX9 from congrArg (fun z => z.2.1) (Option.some.inj (hc.symm.trans (rfl : vwCl[so_ci 5]? = some (RX9, TX9, 4))))]; rfl
  · exact by rw [show T = TX1 from congrArg (fun z => z.2.1) (Option.some.inj (hc.symm.trans (rfl : vwCl[so_ci 6]? = some (RX1, TX1, 4))))]; rfl
theorem fd_8_4 : so_F 8 8 4 "RoomNumbers$Valley" "lineCount" "I" false := by
  intro t h1 h2
  have e : t = 8 := by omega
  subst e
  exact ⟨RX10, TX10, 7, tyX10, rfl, by decide, rfl, rfl, rfl, in_X10, rfl, tyX10_ok, nmX10, by decide, by decide⟩
theorem ff_8_4 : ∀ t : Int, 8 ≤ t → t ≤ 8 → ∀ (C : String) (T : u_T) (N : Nat), vwCl[so_ci t]? = some (C, T, N) → (T 4).2.2.2 = false := by
  intro t h1 h2 C T N hc
  have e : t = 8 := by omega
  subst e
  exact by rw [show T = TX10 from congrArg (fun z => z.2.1) (Option.some.inj (hc.symm.trans (rfl : vwCl[so_ci 8]? = some (RX10, TX10, 7))))]; rfl
theorem fd_8_2 : so_F 8 8 2 "RoomNumbers$Valley" "lines" "[I" true := by
  intro t h1 h2
  have e : t = 8 := by omega
  subst e
  exact ⟨RX10, TX10, 7, tyX10, rfl, by decide, rfl, rfl, rfl, in_X10, rfl, tyX10_ok, nmX10, by decide, by decide⟩
theorem ff_8_2 : ∀ t : Int, 8 ≤ t → t ≤ 8 → ∀ (C : String) (T : u_T) (N : Nat), vwCl[so_ci t]? = some (C, T, N) → (T 2).2.2.2 = true := by
  intro t h1 h2 C T N hc
  have e : t = 8 := by omega
  subst e
  exact by rw [show T = TX10 from congrArg (fun z => z.2.1) (Option.some.inj (hc.symm.trans (rfl : vwCl[so_ci 8]? = some (RX10, TX10, 7))))]; rfl
theorem fd_12_0 : so_F 12 12 0 "RoomNumbers$SheetRow" "sort" "I" false := by
  intro t h1 h2
  have e : t = 12 := by omega
  subst e
  exact ⟨RX5, TX5, 2, tyX5, rfl, by decide, rfl, rfl, rfl, in_X5, rfl, tyX5_ok, nmX5, by decide, by decide⟩
theorem ff_12_0 : ∀ t : Int, 12 ≤ t → t ≤ 12 → ∀ (C : String) (T : u_T) (N : Nat), vwCl[so_ci t]? = some (C, T, N) → (T 0).2.2.2 = true := by
  intro t h1 h2 C T N hc
  have e : t = 12 := by omega
  subst e
  exact by rw [show T = TX5 from congrArg (fun z => z.2.1) (Option.some.inj (hc.symm.trans (rfl : vwCl[so_ci 12]? = some (RX5, TX5, 2))))]; rfl
theorem fd_12_1 : so_F 12 12 1 "RoomNumbers$SheetRow" "items" "[J" true := by
  intro t h1 h2
  have e : t = 12 := by omega
  subst e
  exact ⟨RX5, TX5, 2, tyX5, rfl, by decide, rfl, rfl, rfl, in_X5, rfl, tyX5_ok, nmX5, by decide, by decide⟩
theorem ff_12_1 : ∀ t : Int, 12 ≤ t → t ≤ 12 → ∀ (C : String) (T : u_T) (N : Nat), vwCl[so_ci t]? = some (C, T, N) → (T 1).2.2.2 = true := by
  intro t h1 h2 C T N hc
  have e : t = 12 := by omega
  subst e
  exact by rw [show T = TX5 from congrArg (fun z => z.2.1) (Option.some.inj (hc.symm.trans (rfl : vwCl[so_ci 12]? = some (RX5, TX5, 2))))]; rfl
theorem fd_10_0 : so_F 10 10 0 "RoomNumbers$Teller" "draft" "LRoomNumbers$Valley;" true := by
  intro t h1 h2
  have e : t = 10 := by omega
  subst e
  exact ⟨RX7, TX7, 8, tyX7, rfl, by decide, rfl, rfl, rfl, in_X7, rfl, tyX7_ok, nmX7, by decide, by decide⟩
theorem ff_10_0 : ∀ t : Int, 10 ≤ t → t ≤ 10 → ∀ (C : String) (T : u_T) (N : Nat), vwCl[so_ci t]? = some (C, T, N) → (T 0).2.2.2 = true := by
  intro t h1 h2 C T N hc
  have e : t = 10 := by omega
  subst e
  exact by rw [show T = TX7 from congrArg (fun z => z.2.1) (Option.some.inj (hc.symm.trans (rfl : vwCl[so_ci 10]? = some (RX7, TX7, 8))))]; rfl
theorem fd_10_1 : so_F 10 10 1 "RoomNumbers$Teller" "start" "I" false := by
  intro t h1 h2
  have e : t = 10 := by omega
  subst e
  exact ⟨RX7, TX7, 8, tyX7, rfl, by decide, rfl, rfl, rfl, in_X7, rfl, tyX7_ok, nmX7, by decide, by decide⟩
theorem ff_10_1 : ∀ t : Int, 10 ≤ t → t ≤ 10 → ∀ (C : String) (T : u_T) (N : Nat), vwCl[so_ci t]? = some (C, T, N) → (T 1).2.2.2 = false := by
  intro t h1 h2 C T N hc
  have e : t = 10 := by omega
  subst e
  exact by rw [show T = TX7 from congrArg (fun z => z.2.1) (Option.some.inj (hc.symm.trans (rfl : vwCl[so_ci 10]? = some (RX7, TX7, 8))))]; rfl
theorem fd_10_2 : so_F 10 10 2 "RoomNumbers$Teller" "marks" "[I" true := by
  intro t h1 h2
  have e : t = 10 := by omega
  subst e
  exact ⟨RX7, TX7, 8, tyX7, rfl, by decide, rfl, rfl, rfl, in_X7, rfl, tyX7_ok, nmX7, by decide, by decide⟩
theorem ff_10_2 : ∀ t : Int, 10 ≤ t → t ≤ 10 → ∀ (C : String) (T : u_T) (N : Nat), vwCl[so_ci t]? = some (C, T, N) → (T 2).2.2.2 = true := by
  intro t h1 h2 C T N hc
  have e : t = 10 := by omega
  subst e
  exact by rw [show T = TX7 from congrArg (fun z => z.2.1) (Option.some.inj (hc.symm.trans (rfl : vwCl[so_ci 10]? = some (RX7, TX7, 8))))]; rfl
theorem fd_10_3 : so_F 10 10 3 "RoomNumbers$Teller" "text" "[I" true := by
  intro t h1 h2
  have e : t = 10 := by omega
  subst e
  exact ⟨RX7, TX7, 8, tyX7, rfl, by decide, rfl, rfl, rfl, in_X7, rfl, tyX7_ok, nmX7, by decide, by decide⟩
theorem ff_10_3 : ∀ t : Int, 10 ≤ t → t ≤ 10 → ∀ (C : String) (T : u_T) (N : Nat), vwCl[so_ci t]? = some (C, T, N) → (T 3).2.2.2 = false := by
  intro t h1 h2 C T N hc
  have e : t = 10 := by omega
  subst e
  exact by rw [show T = TX7 from congrArg (fun z => z.2.1) (Option.some.inj (hc.symm.trans (rfl : vwCl[so_ci 10]? = some (RX7, TX7, 8))))]; rfl
theorem fd_10_4 : so_F 10 10 4 "RoomNumbers$Teller" "length" "I" false := by
  intro t h1 h2
  have e : t = 10 := by omega
  subst e
  exact ⟨RX7, TX7, 8, tyX7, rfl, by decide, rfl, rfl, rfl, in_X7, rfl, tyX7_ok, nmX7, by decide, by decide⟩
theorem ff_10_4 : ∀ t : Int, 10 ≤ t → t ≤ 10 → ∀ (C : String) (T : u_T) (N : Nat), vwCl[so_ci t]? = some (C, T, N) → (T 4).2.2.2 = false := by
  intro t h1 h2 C T N hc
  have e : t = 10 := by omega
  subst e
  exact by rw [show T = TX7 from congrArg (fun z => z.2.1) (Option.some.inj (hc.symm.trans (rfl : vwCl[so_ci 10]? = some (RX7, TX7, 8))))]; rfl
theorem fd_10_5 : so_F 10 10 5 "RoomNumbers$Teller" "place" "I" false := by
  intro t h1 h2
  have e : t = 10 := by omega
  subst e
  exact ⟨RX7, TX7, 8, tyX7, rfl, by decide, rfl, rfl, rfl, in_X7, rfl, tyX7_ok, nmX7, by decide, by decide⟩
theorem ff_10_5 : ∀ t : Int, 10 ≤ t → t ≤ 10 → ∀ (C : String) (T : u_T) (N : Nat), vwCl[so_ci t]? = some (C, T, N) → (T 5).2.2.2 = false := by
  intro t h1 h2 C T N hc
  have e : t = 10 := by omega
  subst e
  exact by rw [show T = TX7 from congrArg (fun z => z.2.1) (Option.some.inj (hc.symm.trans (rfl : vwCl[so_ci 10]? = some (RX7, TX7, 8))))]; rfl
theorem fd_10_6 : so_F 10 10 6 "RoomNumbers$Teller" "sort" "I" false := by
  intro t h1 h2
  have e : t = 10 := by omega
  subst e
  exact ⟨RX7, TX7, 8, tyX7, rfl, by decide, rfl, rfl, rfl, in_X7, rfl, tyX7_ok, nmX7, by decide, by decide⟩
theorem ff_10_6 : ∀ t : Int, 10 ≤ t → t ≤ 10 → ∀ (C : String) (T : u_T) (N : Nat), vwCl[so_ci t]? = some (C, T, N) → (T 6).2.2.2 = false := by
  intro t h1 h2 C T N hc
  have e : t = 10 := by omega
  subst e
  exact by rw [show T = TX7 from congrArg (fun z => z.2.1) (Option.some.inj (hc.symm.trans (rfl : vwCl[so_ci 10]? = some (RX7, TX7, 8))))]; rfl
theorem fd_10_7 : so_F 10 10 7 "RoomNumbers$Teller" "value" "I" false := by
  intro t h1 h2
  have e : t = 10 := by omega
  subst e
  exact ⟨RX7, TX7, 8, tyX7, rfl, by decide, rfl, rfl, rfl, in_X7, rfl, tyX7_ok, nmX7, by decide, by decide⟩
theorem ff_10_7 : ∀ t : Int, 10 ≤ t → t ≤ 10 → ∀ (C : String) (T : u_T) (N : Nat), vwCl[so_ci t]? = some (C, T, N) → (T 7).2.2.2 = false := by
  intro t h1 h2 C T N hc
  have e : t = 10 := by omega
  subst e
  exact by rw [show T = TX7 from congrArg (fun z => z.2.1) (Option.some.inj (hc.symm.trans (rfl : vwCl[so_ci 10]? = some (RX7, TX7, 8))))]; rfl
theorem fd_11_2 : so_F 11 11 2 "RoomNumbers$Trace" "endedAt" "I" false := by
  intro t h1 h2
  have e : t = 11 := by omega
  subst e
  exact ⟨RX8, TX8, 3, tyX8, rfl, by decide, rfl, rfl, rfl, in_X8, rfl, tyX8_ok, nmX8, by decide, by decide⟩
theorem ff_11_2 : ∀ t : Int, 11 ≤ t → t ≤ 11 → ∀ (C : String) (T : u_T) (N : Nat), vwCl[so_ci t]? = some (C, T, N) → (T 2).2.2.2 = false := by
  intro t h1 h2 C T N hc
  have e : t = 11 := by omega
  subst e
  exact by rw [show T = TX8 from congrArg (fun z => z.2.1) (Option.some.inj (hc.symm.trans (rfl : vwCl[so_ci 11]? = some (RX8, TX8, 3))))]; rfl
theorem fd_8_0 : so_F 8 8 0 "RoomNumbers$Valley" "least" "[I" true := by
  intro t h1 h2
  have e : t = 8 := by omega
  subst e
  exact ⟨RX10, TX10, 7, tyX10, rfl, by decide, rfl, rfl, rfl, in_X10, rfl, tyX10_ok, nmX10, by decide, by decide⟩
theorem ff_8_0 : ∀ t : Int, 8 ≤ t → t ≤ 8 → ∀ (C : String) (T : u_T) (N : Nat), vwCl[so_ci t]? = some (C, T, N) → (T 0).2.2.2 = true := by
  intro t h1 h2 C T N hc
  have e : t = 8 := by omega
  subst e
  exact by rw [show T = TX10 from congrArg (fun z => z.2.1) (Option.some.inj (hc.symm.trans (rfl : vwCl[so_ci 8]? = some (RX10, TX10, 7))))]; rfl
theorem fd_8_1 : so_F 8 8 1 "RoomNumbers$Valley" "most" "[I" true := by
  intro t h1 h2
  have e : t = 8 := by omega
  subst e
  exact ⟨RX10, TX10, 7, tyX10, rfl, by decide, rfl, rfl, rfl, in_X10, rfl, tyX10_ok, nmX10, by decide, by decide⟩
theorem ff_8_1 : ∀ t : Int, 8 ≤ t → t ≤ 8 → ∀ (C : String) (T : u_T) (N : Nat), vwCl[so_ci t]? = some (C, T, N) → (T 1).2.2.2 = true := by
  intro t h1 h2 C T N hc
  have e : t = 8 := by omega
  subst e
  exact by rw [show T = TX10 from congrArg (fun z => z.2.1) (Option.some.inj (hc.symm.trans (rfl : vwCl[so_ci 8]? = some (RX10, TX10, 7))))]; rfl
theorem fd_8_6 : so_F 8 8 6 "RoomNumbers$Valley" "notes" "[LRoomNumbers$Note;" true := by
  intro t h1 h2
  have e : t = 8 := by omega
  subst e
  exact ⟨RX10, TX10, 7, tyX10, rfl, by decide, rfl, rfl, rfl, in_X10, rfl, tyX10_ok, nmX10, by decide, by decide⟩
theorem ff_8_6 : ∀ t : Int, 8 ≤ t → t ≤ 8 → ∀ (C : String) (T : u_T) (N : Nat), vwCl[so_ci t]? = some (C, T, N) → (T 6).2.2.2 = true := by
  intro t h1 h2 C T N hc
  have e : t = 8 := by omega
  subst e
  exact by rw [show T = TX10 from congrArg (fun z => z.2.1) (Option.some.inj (hc.symm.trans (rfl : vwCl[so_ci 8]? = some (RX10, TX10, 7))))]; rfl
theorem fd_7_0 : so_F 7 7 0 "RoomNumbers" "tape" "[I" true := by
  intro t h1 h2
  have e : t = 7 := by omega
  subst e
  exact ⟨RX11, TX11, 17, tyX11, rfl, by decide, rfl, rfl, rfl, in_X11, rfl, tyX11_ok, nmX11, by decide, by decide⟩
theorem ff_7_0 : ∀ t : Int, 7 ≤ t → t ≤ 7 → ∀ (C : String) (T : u_T) (N : Nat), vwCl[so_ci t]? = some (C, T, N) → (T 0).2.2.2 = true := by
  intro t h1 h2 C T N hc
  have e : t = 7 := by omega
  subst e
  exact by rw [show T = TX11 from congrArg (fun z => z.2.1) (Option.some.inj (hc.symm.trans (rfl : vwCl[so_ci 7]? = some (RX11, TX11, 17))))]; rfl
theorem fd_7_1 : so_F 7 7 1 "RoomNumbers" "tapeCount" "I" false := by
  intro t h1 h2
  have e : t = 7 := by omega
  subst e
  exact ⟨RX11, TX11, 17, tyX11, rfl, by decide, rfl, rfl, rfl, in_X11, rfl, tyX11_ok, nmX11, by decide, by decide⟩
theorem ff_7_1 : ∀ t : Int, 7 ≤ t → t ≤ 7 → ∀ (C : String) (T : u_T) (N : Nat), vwCl[so_ci t]? = some (C, T, N) → (T 1).2.2.2 = false := by
  intro t h1 h2 C T N hc
  have e : t = 7 := by omega
  subst e
  exact by rw [show T = TX11 from congrArg (fun z => z.2.1) (Option.some.inj (hc.symm.trans (rfl : vwCl[so_ci 7]? = some (RX11, TX11, 17))))]; rfl
theorem fd_7_2 : so_F 7 7 2 "RoomNumbers" "finder" "LRoomNumbers$Finder;" true := by
  intro t h1 h2
  have e : t = 7 := by omega
  subst e
  exact ⟨RX11, TX11, 17, tyX11, rfl, by decide, rfl, rfl, rfl, in_X11, rfl, tyX11_ok, nmX11, by decide, by decide⟩
theorem ff_7_2 : ∀ t : Int, 7 ≤ t → t ≤ 7 → ∀ (C : String) (T : u_T) (N : Nat), vwCl[so_ci t]? = some (C, T, N) → (T 2).2.2.2 = true := by
  intro t h1 h2 C T N hc
  have e : t = 7 := by omega
  subst e
  exact by rw [show T = TX11 from congrArg (fun z => z.2.1) (Option.some.inj (hc.symm.trans (rfl : vwCl[so_ci 7]? = some (RX11, TX11, 17))))]; rfl
theorem fd_7_3 : so_F 7 7 3 "RoomNumbers" "now" "LRoomNumbers$Valley;" true := by
  intro t h1 h2
  have e : t = 7 := by omega
  subst e
  exact ⟨RX11, TX11, 17, tyX11, rfl, by decide, rfl, rfl, rfl, in_X11, rfl, tyX11_ok, nmX11, by decide, by decide⟩
theorem ff_7_3 : ∀ t : Int, 7 ≤ t → t ≤ 7 → ∀ (C : String) (T : u_T) (N : Nat), vwCl[so_ci t]? = some (C, T, N) → (T 3).2.2.2 = true := by
  intro t h1 h2 C T N hc
  have e : t = 7 := by omega
  subst e
  exact by rw [show T = TX11 from congrArg (fun z => z.2.1) (Option.some.inj (hc.symm.trans (rfl : vwCl[so_ci 7]? = some (RX11, TX11, 17))))]; rfl
theorem fd_7_4 : so_F 7 7 4 "RoomNumbers" "kept" "LRoomNumbers$Valley;" true := by
  intro t h1 h2
  have e : t = 7 := by omega
  subst e
  exact ⟨RX11, TX11, 17, tyX11, rfl, by decide, rfl, rfl, rfl, in_X11, rfl, tyX11_ok, nmX11, by decide, by decide⟩
theorem ff_7_4 : ∀ t : Int, 7 ≤ t → t ≤ 7 → ∀ (C : String) (T : u_T) (N : Nat), vwCl[so_ci t]? = some (C, T, N) → (T 4).2.2.2 = true := by
  intro t h1 h2 C T N hc
  have e : t = 7 := by omega
  subst e
  exact by rw [show T = TX11 from congrArg (fun z => z.2.1) (Option.some.inj (hc.symm.trans (rfl : vwCl[so_ci 7]? = some (RX11, TX11, 17))))]; rfl
theorem fd_7_5 : so_F 7 7 5 "RoomNumbers" "anyKept" "Z" false := by
  intro t h1 h2
  have e : t = 7 := by omega
  subst e
  exact ⟨RX11, TX11, 17, tyX11, rfl, by decide, rfl, rfl, rfl, in_X11, rfl, tyX11_ok, nmX11, by decide, by decide⟩
theorem ff_7_5 : ∀ t : Int, 7 ≤ t → t ≤ 7 → ∀ (C : String) (T : u_T) (N : Nat), vwCl[so_ci t]? = some (C, T, N) → (T 5).2.2.2 = false := by
  intro t h1 h2 C T N hc
  have e : t = 7 := by omega
  subst e
  exact by rw [show T = TX11 from congrArg (fun z => z.2.1) (Option.some.inj (hc.symm.trans (rfl : vwCl[so_ci 7]? = some (RX11, TX11, 17))))]; rfl
theorem fd_7_6 : so_F 7 7 6 "RoomNumbers" "luck" "I" false := by
  intro t h1 h2
  have e : t = 7 := by omega
  subst e
  exact ⟨RX11, TX11, 17, tyX11, rfl, by decide, rfl, rfl, rfl, in_X11, rfl, tyX11_ok, nmX11, by decide, by decide⟩
theorem ff_7_6 : ∀ t : Int, 7 ≤ t → t ≤ 7 → ∀ (C : String) (T : u_T) (N : Nat), vwCl[so_ci t]? = some (C, T, N) → (T 6).2.2.2 = false := by
  intro t h1 h2 C T N hc
  have e : t = 7 := by omega
  subst e
  exact by rw [show T = TX11 from congrArg (fun z => z.2.1) (Option.some.inj (hc.symm.trans (rfl : vwCl[so_ci 7]? = some (RX11, TX11, 17))))]; rfl
theorem fd_7_7 : so_F 7 7 7 "RoomNumbers" "keptLuck" "I" false := by
  intro t h1 h2
  have e : t = 7 := by omega
  subst e
  exact ⟨RX11, TX11, 17, tyX11, rfl, by decide, rfl, rfl, rfl, in_X11, rfl, tyX11_ok, nmX11, by decide, by decide⟩
theorem ff_7_7 : ∀ t : Int, 7 ≤ t → t ≤ 7 → ∀ (C : String) (T : u_T) (N : Nat), vwCl[so_ci t]? = some (C, T, N) → (T 7).2.2.2 = false := by
  intro t h1 h2 C T N hc
  have e : t = 7 := by omega
  subst e
  exact by rw [show T = TX11 from congrArg (fun z => z.2.1) (Option.some.inj (hc.symm.trans (rfl : vwCl[so_ci 7]? = some (RX11, TX11, 17))))]; rfl
theorem fd_7_8 : so_F 7 7 8 "RoomNumbers" "teller" "LRoomNumbers$Teller;" true := by
  intro t h1 h2
  have e : t = 7 := by omega
  subst e
  exact ⟨RX11, TX11, 17, tyX11, rfl, by decide, rfl, rfl, rfl, in_X11, rfl, tyX11_ok, nmX11, by decide, by decide⟩
theorem ff_7_8 : ∀ t : Int, 7 ≤ t → t ≤ 7 → ∀ (C : String) (T : u_T) (N : Nat), vwCl[so_ci t]? = some (C, T, N) → (T 8).2.2.2 = true := by
  intro t h1 h2 C T N hc
  have e : t = 7 := by omega
  subst e
  exact by rw [show T = TX11 from congrArg (fun z => z.2.1) (Option.some.inj (hc.symm.trans (rfl : vwCl[so_ci 7]? = some (RX11, TX11, 17))))]; rfl
theorem fd_7_9 : so_F 7 7 9 "RoomNumbers" "rows" "[J" true := by
  intro t h1 h2
  have e : t = 7 := by omega
  subst e
  exact ⟨RX11, TX11, 17, tyX11, rfl, by decide, rfl, rfl, rfl, in_X11, rfl, tyX11_ok, nmX11, by decide, by decide⟩
theorem ff_7_9 : ∀ t : Int, 7 ≤ t → t ≤ 7 → ∀ (C : String) (T : u_T) (N : Nat), vwCl[so_ci t]? = some (C, T, N) → (T 9).2.2.2 = true := by
  intro t h1 h2 C T N hc
  have e : t = 7 := by omega
  subst e
  exact by rw [show T = TX11 from congrArg (fun z => z.2.1) (Option.some.inj (hc.symm.trans (rfl : vwCl[so_ci 7]? = some (RX11, TX11, 17))))]; rfl
theorem fd_7_10 : so_F 7 7 10 "RoomNumbers" "rowCount" "I" false := by
  intro t h1 h2
  have e : t = 7 := by omega
  subst e
  exact ⟨RX11, TX11, 17, tyX11, rfl, by decide, rfl, rfl, rfl, in_X11, rfl, tyX11_ok, nmX11, by decide, by decide⟩
theorem ff_7_10 : ∀ t : Int, 7 ≤ t → t ≤ 7 → ∀ (C : String) (T : u_T) (N : Nat), vwCl[so_ci t]? = some (C, T, N) → (T 10).2.2.2 = false := by
  intro t h1 h2 C T N hc
  have e : t = 7 := by omega
  subst e
  exact by rw [show T = TX11 from congrArg (fun z => z.2.1) (Option.some.inj (hc.symm.trans (rfl : vwCl[so_ci 7]? = some (RX11, TX11, 17))))]; rfl
theorem fd_7_11 : so_F 7 7 11 "RoomNumbers" "tried" "[I" true := by
  intro t h1 h2
  have e : t = 7 := by omega
  subst e
  exact ⟨RX11, TX11, 17, tyX11, rfl, by decide, rfl, rfl, rfl, in_X11, rfl, tyX11_ok, nmX11, by decide, by decide⟩
theorem ff_7_11 : ∀ t : Int, 7 ≤ t → t ≤ 7 → ∀ (C : String) (T : u_T) (N : Nat), vwCl[so_ci t]? = some (C, T, N) → (T 11).2.2.2 = true := by
  intro t h1 h2 C T N hc
  have e : t = 7 := by omega
  subst e
  exact by rw [show T = TX11 from congrArg (fun z => z.2.1) (Option.some.inj (hc.symm.trans (rfl : vwCl[so_ci 7]? = some (RX11, TX11, 17))))]; rfl
theorem fd_7_12 : so_F 7 7 12 "RoomNumbers" "sheets" "[LRoomNumbers$SheetRow;" true := by
  intro t h1 h2
  have e : t = 7 := by omega
  subst e
  exact ⟨RX11, TX11, 17, tyX11, rfl, by decide, rfl, rfl, rfl, in_X11, rfl, tyX11_ok, nmX11, by decide, by decide⟩
theorem ff_7_12 : ∀ t : Int, 7 ≤ t → t ≤ 7 → ∀ (C : String) (T : u_T) (N : Nat), vwCl[so_ci t]? = some (C, T, N) → (T 12).2.2.2 = true := by
  intro t h1 h2 C T N hc
  have e : t = 7 := by omega
  subst e
  exact by rw [show T = TX11 from congrArg (fun z => z.2.1) (Option.some.inj (hc.symm.trans (rfl : vwCl[so_ci 7]? = some (RX11, TX11, 17))))]; rfl
theorem fd_7_13 : so_F 7 7 13 "RoomNumbers" "shelfWhat" "[I" true := by
  intro t h1 h2
  have e : t = 7 := by omega
  subst e
  exact ⟨RX11, TX11, 17, tyX11, rfl, by decide, rfl, rfl, rfl, in_X11, rfl, tyX11_ok, nmX11, by decide, by decide⟩
theorem ff_7_13 : ∀ t : Int, 7 ≤ t → t ≤ 7 → ∀ (C : String) (T : u_T) (N : Nat), vwCl[so_ci t]? = some (C, T, N) → (T 13).2.2.2 = true := by
  intro t h1 h2 C T N hc
  have e : t = 7 := by omega
  subst e
  exact by rw [show T = TX11 from congrArg (fun z => z.2.1) (Option.some.inj (hc.symm.trans (rfl : vwCl[so_ci 7]? = some (RX11, TX11, 17))))]; rfl
theorem fd_7_14 : so_F 7 7 14 "RoomNumbers" "shelfNote" "[I" true := by
  intro t h1 h2
  have e : t = 7 := by omega
  subst e
  exact ⟨RX11, TX11, 17, tyX11, rfl, by decide, rfl, rfl, rfl, in_X11, rfl, tyX11_ok, nmX11, by decide, by decide⟩
theorem ff_7_14 : ∀ t : Int, 7 ≤ t → t ≤ 7 → ∀ (C : String) (T : u_T) (N : Nat), vwCl[so_ci t]? = some (C, T, N) → (T 14).2.2.2 = true := by
  intro t h1 h2 C T N hc
  have e : t = 7 := by omega
  subst e
  exact by rw [show T = TX11 from congrArg (fun z => z.2.1) (Option.some.inj (hc.symm.trans (rfl : vwCl[so_ci 7]? = some (RX11, TX11, 17))))]; rfl
theorem fd_7_15 : so_F 7 7 15 "RoomNumbers" "shelfRow" "[LRoomNumbers$SheetRow;" true := by
  intro t h1 h2
  have e : t = 7 := by omega
  subst e
  exact ⟨RX11, TX11, 17, tyX11, rfl, by decide, rfl, rfl, rfl, in_X11, rfl, tyX11_ok, nmX11, by decide, by decide⟩
theorem ff_7_15 : ∀ t : Int, 7 ≤ t → t ≤ 7 → ∀ (C : String) (T : u_T) (N : Nat), vwCl[so_ci t]? = some (C, T, N) → (T 15).2.2.2 = true := by
  intro t h1 h2 C T N hc
  have e : t = 7 := by omega
  subst e
  exact by rw [show T = TX11 from congrArg (fun z => z.2.1) (Option.some.inj (hc.symm.trans (rfl : vwCl[so_ci 7]? = some (RX11, TX11, 17))))]; rfl
theorem fd_7_16 : so_F 7 7 16 "RoomNumbers" "latest" "LRoomNumbers$Trace;" true := by
  intro t h1 h2
  have e : t = 7 := by omega
  subst e
  exact ⟨RX11, TX11, 17, tyX11, rfl, by decide, rfl, rfl, rfl, in_X11, rfl, tyX11_ok, nmX11, by decide, by decide⟩
theorem ff_7_16 : ∀ t : Int, 7 ≤ t → t ≤ 7 → ∀ (C : String) (T : u_T) (N : Nat), vwCl[so_ci t]? = some (C, T, N) → (T 16).2.2.2 = true := by
  intro t h1 h2 C T N hc
  have e : t = 7 := by omega
  subst e
  exact by rw [show T = TX11 from congrArg (fun z => z.2.1) (Option.some.inj (hc.symm.trans (rfl : vwCl[so_ci 7]? = some (RX11, TX11, 17))))]; rfl
theorem fd_13_0 : so_F 13 13 0 "RoomNumbersModel" "s" "[I" true := by
  intro t h1 h2
  have e : t = 13 := by omega
  subst e
  exact ⟨RX12, TX12, 25, tyX12, rfl, by decide, rfl, rfl, rfl, in_X12, rfl, tyX12_ok, nmX12, by decide, by decide⟩
theorem ff_13_0 : ∀ t : Int, 13 ≤ t → t ≤ 13 → ∀ (C : String) (T : u_T) (N : Nat), vwCl[so_ci t]? = some (C, T, N) → (T 0).2.2.2 = true := by
  intro t h1 h2 C T N hc
  have e : t = 13 := by omega
  subst e
  exact by rw [show T = TX12 from congrArg (fun z => z.2.1) (Option.some.inj (hc.symm.trans (rfl : vwCl[so_ci 13]? = some (RX12, TX12, 25))))]; rfl
theorem fd_13_1 : so_F 13 13 1 "RoomNumbersModel" "kept" "[I" true := by
  intro t h1 h2
  have e : t = 13 := by omega
  subst e
  exact ⟨RX12, TX12, 25, tyX12, rfl, by decide, rfl, rfl, rfl, in_X12, rfl, tyX12_ok, nmX12, by decide, by decide⟩
theorem ff_13_1 : ∀ t : Int, 13 ≤ t → t ≤ 13 → ∀ (C : String) (T : u_T) (N : Nat), vwCl[so_ci t]? = some (C, T, N) → (T 1).2.2.2 = true := by
  intro t h1 h2 C T N hc
  have e : t = 13 := by omega
  subst e
  exact by rw [show T = TX12 from congrArg (fun z => z.2.1) (Option.some.inj (hc.symm.trans (rfl : vwCl[so_ci 13]? = some (RX12, TX12, 25))))]; rfl
theorem fd_13_2 : so_F 13 13 2 "RoomNumbersModel" "put" "[I" true := by
  intro t h1 h2
  have e : t = 13 := by omega
  subst e
  exact ⟨RX12, TX12, 25, tyX12, rfl, by decide, rfl, rfl, rfl, in_X12, rfl, tyX12_ok, nmX12, by decide, by decide⟩
theorem ff_13_2 : ∀ t : Int, 13 ≤ t → t ≤ 13 → ∀ (C : String) (T : u_T) (N : Nat), vwCl[so_ci t]? = some (C, T, N) → (T 2).2.2.2 = true := by
  intro t h1 h2 C T N hc
  have e : t = 13 := by omega
  subst e
  exact by rw [show T = TX12 from congrArg (fun z => z.2.1) (Option.some.inj (hc.symm.trans (rfl : vwCl[so_ci 13]? = some (RX12, TX12, 25))))]; rfl
theorem fd_13_4 : so_F 13 13 4 "RoomNumbersModel" "tape" "[I" true := by
  intro t h1 h2
  have e : t = 13 := by omega
  subst e
  exact ⟨RX12, TX12, 25, tyX12, rfl, by decide, rfl, rfl, rfl, in_X12, rfl, tyX12_ok, nmX12, by decide, by decide⟩
theorem ff_13_4 : ∀ t : Int, 13 ≤ t → t ≤ 13 → ∀ (C : String) (T : u_T) (N : Nat), vwCl[so_ci t]? = some (C, T, N) → (T 4).2.2.2 = true := by
  intro t h1 h2 C T N hc
  have e : t = 13 := by omega
  subst e
  exact by rw [show T = TX12 from congrArg (fun z => z.2.1) (Option.some.inj (hc.symm.trans (rfl : vwCl[so_ci 13]? = some (RX12, TX12, 25))))]; rfl
theorem fd_13_11 : so_F 13 13 11 "RoomNumbersModel" "base" "[I" true := by
  intro t h1 h2
  have e : t = 13 := by omega
  subst e
  exact ⟨RX12, TX12, 25, tyX12, rfl, by decide, rfl, rfl, rfl, in_X12, rfl, tyX12_ok, nmX12, by decide, by decide⟩
theorem ff_13_11 : ∀ t : Int, 13 ≤ t → t ≤ 13 → ∀ (C : String) (T : u_T) (N : Nat), vwCl[so_ci t]? = some (C, T, N) → (T 11).2.2.2 = true := by
  intro t h1 h2 C T N hc
  have e : t = 13 := by omega
  subst e
  exact by rw [show T = TX12 from congrArg (fun z => z.2.1) (Option.some.inj (hc.symm.trans (rfl : vwCl[so_ci 13]? = some (RX12, TX12, 25))))]; rfl
theorem fd_13_12 : so_F 13 13 12 "RoomNumbersModel" "mays" "[I" true := by
  intro t h1 h2
  have e : t = 13 := by omega
  subst e
  exact ⟨RX12, TX12, 25, tyX12, rfl, by decide, rfl, rfl, rfl, in_X12, rfl, tyX12_ok, nmX12, by decide, by decide⟩
theorem ff_13_12 : ∀ t : Int, 13 ≤ t → t ≤ 13 → ∀ (C : String) (T : u_T) (N : Nat), vwCl[so_ci t]? = some (C, T, N) → (T 12).2.2.2 = true := by
  intro t h1 h2 C T N hc
  have e : t = 13 := by omega
  subst e
  exact by rw [show T = TX12 from congrArg (fun z => z.2.1) (Option.some.inj (hc.symm.trans (rfl : vwCl[so_ci 13]? = some (RX12, TX12, 25))))]; rfl
theorem fd_13_13 : so_F 13 13 13 "RoomNumbersModel" "met" "[I" true := by
  intro t h1 h2
  have e : t = 13 := by omega
  subst e
  exact ⟨RX12, TX12, 25, tyX12, rfl, by decide, rfl, rfl, rfl, in_X12, rfl, tyX12_ok, nmX12, by decide, by decide⟩
theorem ff_13_13 : ∀ t : Int, 13 ≤ t → t ≤ 13 → ∀ (C : String) (T : u_T) (N : Nat), vwCl[so_ci t]? = some (C, T, N) → (T 13).2.2.2 = true := by
  intro t h1 h2 C T N hc
  have e : t = 13 := by omega
  subst e
  exact by rw [show T = TX12 from congrArg (fun z => z.2.1) (Option.some.inj (hc.symm.trans (rfl : vwCl[so_ci 13]? = some (RX12, TX12, 25))))]; rfl
theorem fd_13_14 : so_F 13 13 14 "RoomNumbersModel" "row" "[J" true := by
  intro t h1 h2
  have e : t = 13 := by omega
  subst e
  exact ⟨RX12, TX12, 25, tyX12, rfl, by decide, rfl, rfl, rfl, in_X12, rfl, tyX12_ok, nmX12, by decide, by decide⟩
theorem ff_13_14 : ∀ t : Int, 13 ≤ t → t ≤ 13 → ∀ (C : String) (T : u_T) (N : Nat), vwCl[so_ci t]? = some (C, T, N) → (T 14).2.2.2 = true := by
  intro t h1 h2 C T N hc
  have e : t = 13 := by omega
  subst e
  exact by rw [show T = TX12 from congrArg (fun z => z.2.1) (Option.some.inj (hc.symm.trans (rfl : vwCl[so_ci 13]? = some (RX12, TX12, 25))))]; rfl
theorem fd_13_16 : so_F 13 13 16 "RoomNumbersModel" "sorts" "[I" true := by
  intro t h1 h2
  have e : t = 13 := by omega
  subst e
  exact ⟨RX12, TX12, 25, tyX12, rfl, by decide, rfl, rfl, rfl, in_X12, rfl, tyX12_ok, nmX12, by decide, by decide⟩
theorem ff_13_16 : ∀ t : Int, 13 ≤ t → t ≤ 13 → ∀ (C : String) (T : u_T) (N : Nat), vwCl[so_ci t]? = some (C, T, N) → (T 16).2.2.2 = true := by
  intro t h1 h2 C T N hc
  have e : t = 13 := by omega
  subst e
  exact by rw [show T = TX12 from congrArg (fun z => z.2.1) (Option.some.inj (hc.symm.trans (rfl : vwCl[so_ci 13]? = some (RX12, TX12, 25))))]; rfl
theorem fd_13_17 : so_F 13 13 17 "RoomNumbersModel" "sizes" "[I" true := by
  intro t h1 h2
  have e : t = 13 := by omega
  subst e
  exact ⟨RX12, TX12, 25, tyX12, rfl, by decide, rfl, rfl, rfl, in_X12, rfl, tyX12_ok, nmX12, by decide, by decide⟩
theorem ff_13_17 : ∀ t : Int, 13 ≤ t → t ≤ 13 → ∀ (C : String) (T : u_T) (N : Nat), vwCl[so_ci t]? = some (C, T, N) → (T 17).2.2.2 = true := by
  intro t h1 h2 C T N hc
  have e : t = 13 := by omega
  subst e
  exact by rw [show T = TX12 from congrArg (fun z => z.2.1) (Option.some.inj (hc.symm.trans (rfl : vwCl[so_ci 13]? = some (RX12, TX12, 25))))]; rfl
theorem fd_13_18 : so_F 13 13 18 "RoomNumbersModel" "item" "[J" true := by
  intro t h1 h2
  have e : t = 13 := by omega
  subst e
  exact ⟨RX12, TX12, 25, tyX12, rfl, by decide, rfl, rfl, rfl, in_X12, rfl, tyX12_ok, nmX12, by decide, by decide⟩
theorem ff_13_18 : ∀ t : Int, 13 ≤ t → t ≤ 13 → ∀ (C : String) (T : u_T) (N : Nat), vwCl[so_ci t]? = some (C, T, N) → (T 18).2.2.2 = true := by
  intro t h1 h2 C T N hc
  have e : t = 13 := by omega
  subst e
  exact by rw [show T = TX12 from congrArg (fun z => z.2.1) (Option.some.inj (hc.symm.trans (rfl : vwCl[so_ci 13]? = some (RX12, TX12, 25))))]; rfl
theorem fd_13_19 : so_F 13 13 19 "RoomNumbersModel" "holds" "[I" true := by
  intro t h1 h2
  have e : t = 13 := by omega
  subst e
  exact ⟨RX12, TX12, 25, tyX12, rfl, by decide, rfl, rfl, rfl, in_X12, rfl, tyX12_ok, nmX12, by decide, by decide⟩
theorem ff_13_19 : ∀ t : Int, 13 ≤ t → t ≤ 13 → ∀ (C : String) (T : u_T) (N : Nat), vwCl[so_ci t]? = some (C, T, N) → (T 19).2.2.2 = true := by
  intro t h1 h2 C T N hc
  have e : t = 13 := by omega
  subst e
  exact by rw [show T = TX12 from congrArg (fun z => z.2.1) (Option.some.inj (hc.symm.trans (rfl : vwCl[so_ci 13]? = some (RX12, TX12, 25))))]; rfl
theorem fd_13_20 : so_F 13 13 20 "RoomNumbersModel" "held" "[I" true := by
  intro t h1 h2
  have e : t = 13 := by omega
  subst e
  exact ⟨RX12, TX12, 25, tyX12, rfl, by decide, rfl, rfl, rfl, in_X12, rfl, tyX12_ok, nmX12, by decide, by decide⟩
theorem ff_13_20 : ∀ t : Int, 13 ≤ t → t ≤ 13 → ∀ (C : String) (T : u_T) (N : Nat), vwCl[so_ci t]? = some (C, T, N) → (T 20).2.2.2 = true := by
  intro t h1 h2 C T N hc
  have e : t = 13 := by omega
  subst e
  exact by rw [show T = TX12 from congrArg (fun z => z.2.1) (Option.some.inj (hc.symm.trans (rfl : vwCl[so_ci 13]? = some (RX12, TX12, 25))))]; rfl
theorem fd_13_21 : so_F 13 13 21 "RoomNumbersModel" "trace" "[I" true := by
  intro t h1 h2
  have e : t = 13 := by omega
  subst e
  exact ⟨RX12, TX12, 25, tyX12, rfl, by decide, rfl, rfl, rfl, in_X12, rfl, tyX12_ok, nmX12, by decide, by decide⟩
theorem ff_13_21 : ∀ t : Int, 13 ≤ t → t ≤ 13 → ∀ (C : String) (T : u_T) (N : Nat), vwCl[so_ci t]? = some (C, T, N) → (T 21).2.2.2 = true := by
  intro t h1 h2 C T N hc
  have e : t = 13 := by omega
  subst e
  exact by rw [show T = TX12 from congrArg (fun z => z.2.1) (Option.some.inj (hc.symm.trans (rfl : vwCl[so_ci 13]? = some (RX12, TX12, 25))))]; rfl
theorem fd_13_5 : so_F 13 13 5 "RoomNumbersModel" "taped" "I" false := by
  intro t h1 h2
  have e : t = 13 := by omega
  subst e
  exact ⟨RX12, TX12, 25, tyX12, rfl, by decide, rfl, rfl, rfl, in_X12, rfl, tyX12_ok, nmX12, by decide, by decide⟩
theorem ff_13_5 : ∀ t : Int, 13 ≤ t → t ≤ 13 → ∀ (C : String) (T : u_T) (N : Nat), vwCl[so_ci t]? = some (C, T, N) → (T 5).2.2.2 = false := by
  intro t h1 h2 C T N hc
  have e : t = 13 := by omega
  subst e
  exact by rw [show T = TX12 from congrArg (fun z => z.2.1) (Option.some.inj (hc.symm.trans (rfl : vwCl[so_ci 13]? = some (RX12, TX12, 25))))]; rfl
theorem fd_13_6 : so_F 13 13 6 "RoomNumbersModel" "at" "I" false := by
  intro t h1 h2
  have e : t = 13 := by omega
  subst e
  exact ⟨RX12, TX12, 25, tyX12, rfl, by decide, rfl, rfl, rfl, in_X12, rfl, tyX12_ok, nmX12, by decide, by decide⟩
theorem ff_13_6 : ∀ t : Int, 13 ≤ t → t ≤ 13 → ∀ (C : String) (T : u_T) (N : Nat), vwCl[so_ci t]? = some (C, T, N) → (T 6).2.2.2 = false := by
  intro t h1 h2 C T N hc
  have e : t = 13 := by omega
  subst e
  exact by rw [show T = TX12 from congrArg (fun z => z.2.1) (Option.some.inj (hc.symm.trans (rfl : vwCl[so_ci 13]? = some (RX12, TX12, 25))))]; rfl
theorem fd_13_7 : so_F 13 13 7 "RoomNumbersModel" "begins" "I" false := by
  intro t h1 h2
  have e : t = 13 := by omega
  subst e
  exact ⟨RX12, TX12, 25, tyX12, rfl, by decide, rfl, rfl, rfl, in_X12, rfl, tyX12_ok, nmX12, by decide, by decide⟩
theorem ff_13_7 : ∀ t : Int, 13 ≤ t → t ≤ 13 → ∀ (C : String) (T : u_T) (N : Nat), vwCl[so_ci t]? = some (C, T, N) → (T 7).2.2.2 = false := by
  intro t h1 h2 C T N hc
  have e : t = 13 := by omega
  subst e
  exact by rw [show T = TX12 from congrArg (fun z => z.2.1) (Option.some.inj (hc.symm.trans (rfl : vwCl[so_ci 13]? = some (RX12, TX12, 25))))]; rfl
theorem fd_13_8 : so_F 13 13 8 "RoomNumbersModel" "token" "I" false := by
  intro t h1 h2
  have e : t = 13 := by omega
  subst e
  exact ⟨RX12, TX12, 25, tyX12, rfl, by decide, rfl, rfl, rfl, in_X12, rfl, tyX12_ok, nmX12, by decide, by decide⟩
theorem ff_13_8 : ∀ t : Int, 13 ≤ t → t ≤ 13 → ∀ (C : String) (T : u_T) (N : Nat), vwCl[so_ci t]? = some (C, T, N) → (T 8).2.2.2 = false := by
  intro t h1 h2 C T N hc
  have e : t = 13 := by omega
  subst e
  exact by rw [show T = TX12 from congrArg (fun z => z.2.1) (Option.some.inj (hc.symm.trans (rfl : vwCl[so_ci 13]? = some (RX12, TX12, 25))))]; rfl
theorem fd_13_9 : so_F 13 13 9 "RoomNumbersModel" "value" "I" false := by
  intro t h1 h2
  have e : t = 13 := by omega
  subst e
  exact ⟨RX12, TX12, 25, tyX12, rfl, by decide, rfl, rfl, rfl, in_X12, rfl, tyX12_ok, nmX12, by decide, by decide⟩
theorem ff_13_9 : ∀ t : Int, 13 ≤ t → t ≤ 13 → ∀ (C : String) (T : u_T) (N : Nat), vwCl[so_ci t]? = some (C, T, N) → (T 9).2.2.2 = false := by
  intro t h1 h2 C T N hc
  have e : t = 13 := by omega
  subst e
  exact by rw [show T = TX12 from congrArg (fun z => z.2.1) (Option.some.inj (hc.symm.trans (rfl : vwCl[so_ci 13]? = some (RX12, TX12, 25))))]; rfl
theorem fd_13_10 : so_F 13 13 10 "RoomNumbersModel" "taken" "I" false := by
  intro t h1 h2
  have e : t = 13 := by omega
  subst e
  exact ⟨RX12, TX12, 25, tyX12, rfl, by decide, rfl, rfl, rfl, in_X12, rfl, tyX12_ok, nmX12, by decide, by decide⟩
theorem ff_13_10 : ∀ t : Int, 13 ≤ t → t ≤ 13 → ∀ (C : String) (T : u_T) (N : Nat), vwCl[so_ci t]? = some (C, T, N) → (T 10).2.2.2 = false := by
  intro t h1 h2 C T N hc
  have e : t = 13 := by omega
  subst e
  exact by rw [show T = TX12 from congrArg (fun z => z.2.1) (Option.some.inj (hc.symm.trans (rfl : vwCl[so_ci 13]? = some (RX12, TX12, 25))))]; rfl
theorem fd_13_15 : so_F 13 13 15 "RoomNumbersModel" "rows" "I" false := by
  intro t h1 h2
  have e : t = 13 := by omega
  subst e
  exact ⟨RX12, TX12, 25, tyX12, rfl, by decide, rfl, rfl, rfl, in_X12, rfl, tyX12_ok, nmX12, by decide, by decide⟩
theorem ff_13_15 : ∀ t : Int, 13 ≤ t → t ≤ 13 → ∀ (C : String) (T : u_T) (N : Nat), vwCl[so_ci t]? = some (C, T, N) → (T 15).2.2.2 = false := by
  intro t h1 h2 C T N hc
  have e : t = 13 := by omega
  subst e
  exact by rw [show T = TX12 from congrArg (fun z => z.2.1) (Option.some.inj (hc.symm.trans (rfl : vwCl[so_ci 13]? = some (RX12, TX12, 25))))]; rfl
theorem fd_13_22 : so_F 13 13 22 "RoomNumbersModel" "traced" "I" false := by
  intro t h1 h2
  have e : t = 13 := by omega
  subst e
  exact ⟨RX12, TX12, 25, tyX12, rfl, by decide, rfl, rfl, rfl, in_X12, rfl, tyX12_ok, nmX12, by decide, by decide⟩
theorem ff_13_22 : ∀ t : Int, 13 ≤ t → t ≤ 13 → ∀ (C : String) (T : u_T) (N : Nat), vwCl[so_ci t]? = some (C, T, N) → (T 22).2.2.2 = false := by
  intro t h1 h2 C T N hc
  have e : t = 13 := by omega
  subst e
  exact by rw [show T = TX12 from congrArg (fun z => z.2.1) (Option.some.inj (hc.symm.trans (rfl : vwCl[so_ci 13]? = some (RX12, TX12, 25))))]; rfl
theorem fd_13_23 : so_F 13 13 23 "RoomNumbersModel" "speaks" "I" false := by
  intro t h1 h2
  have e : t = 13 := by omega
  subst e
  exact ⟨RX12, TX12, 25, tyX12, rfl, by decide, rfl, rfl, rfl, in_X12, rfl, tyX12_ok, nmX12, by decide, by decide⟩
theorem ff_13_23 : ∀ t : Int, 13 ≤ t → t ≤ 13 → ∀ (C : String) (T : u_T) (N : Nat), vwCl[so_ci t]? = some (C, T, N) → (T 23).2.2.2 = false := by
  intro t h1 h2 C T N hc
  have e : t = 13 := by omega
  subst e
  exact by rw [show T = TX12 from congrArg (fun z => z.2.1) (Option.some.inj (hc.symm.trans (rfl : vwCl[so_ci 13]? = some (RX12, TX12, 25))))]; rfl
theorem fd_13_24 : so_F 13 13 24 "RoomNumbersModel" "isParted" "Z" false := by
  intro t h1 h2
  have e : t = 13 := by omega
  subst e
  exact ⟨RX12, TX12, 25, tyX12, rfl, by decide, rfl, rfl, rfl, in_X12, rfl, tyX12_ok, nmX12, by decide, by decide⟩
theorem ff_13_24 : ∀ t : Int, 13 ≤ t → t ≤ 13 → ∀ (C : String) (T : u_T) (N : Nat), vwCl[so_ci t]? = some (C, T, N) → (T 24).2.2.2 = false := by
  intro t h1 h2 C T N hc
  have e : t = 13 := by omega
  subst e
  exact by rw [show T = TX12 from congrArg (fun z => z.2.1) (Option.some.inj (hc.symm.trans (rfl : vwCl[so_ci 13]? = some (RX12, TX12, 25))))]; rfl
theorem fd_13_3 : so_F 13 13 3 "RoomNumbersModel" "isKept" "Z" false := by
  intro t h1 h2
  have e : t = 13 := by omega
  subst e
  exact ⟨RX12, TX12, 25, tyX12, rfl, by decide, rfl, rfl, rfl, in_X12, rfl, tyX12_ok, nmX12, by decide, by decide⟩
theorem ff_13_3 : ∀ t : Int, 13 ≤ t → t ≤ 13 → ∀ (C : String) (T : u_T) (N : Nat), vwCl[so_ci t]? = some (C, T, N) → (T 3).2.2.2 = false := by
  intro t h1 h2 C T N hc
  have e : t = 13 := by omega
  subst e
  exact by rw [show T = TX12 from congrArg (fun z => z.2.1) (Option.some.inj (hc.symm.trans (rfl : vwCl[so_ci 13]? = some (RX12, TX12, 25))))]; rfl
theorem cn_8 : so_C 8 "RoomNumbers$Valley" 7 := ⟨TX10, tyX10, rfl, in_X10, tyX10_ok, rfl, by decide, by decide, by decide, by decide⟩
theorem cn_2 : so_C 2 "RoomNumbers$Strokes" 4 := ⟨TX6, tyX6, rfl, in_X6, tyX6_ok, rfl, by decide, by decide, by decide, by decide⟩
theorem cn_3 : so_C 3 "RoomNumbers$Broken" 4 := ⟨TX0, tyX0, rfl, in_X0, tyX0_ok, rfl, by decide, by decide, by decide, by decide⟩
theorem cn_4 : so_C 4 "RoomNumbers$Left" 4 := ⟨TX3, tyX3, rfl, in_X3, tyX3_ok, rfl, by decide, by decide, by decide, by decide⟩
theorem cn_5 : so_C 5 "RoomNumbers$Turned" 4 := ⟨TX9, tyX9, rfl, in_X9, tyX9_ok, rfl, by decide, by decide, by decide, by decide⟩
theorem cn_6 : so_C 6 "RoomNumbers$Debt" 4 := ⟨TX1, tyX1, rfl, in_X1, tyX1_ok, rfl, by decide, by decide, by decide, by decide⟩
theorem cn_1 : so_C 1 "RoomNumbers$Note" 4 := ⟨TX4, tyX4, rfl, in_X4, tyX4_ok, rfl, by decide, by decide, by decide, by decide⟩
theorem cn_9 : so_C 9 "RoomNumbers$Finder" 16 := ⟨TX2, tyX2, rfl, in_X2, tyX2_ok, rfl, by decide, by decide, by decide, by decide⟩
theorem cn_10 : so_C 10 "RoomNumbers$Teller" 8 := ⟨TX7, tyX7, rfl, in_X7, tyX7_ok, rfl, by decide, by decide, by decide, by decide⟩
theorem cn_11 : so_C 11 "RoomNumbers$Trace" 3 := ⟨TX8, tyX8, rfl, in_X8, tyX8_ok, rfl, by decide, by decide, by decide, by decide⟩
theorem cn_12 : so_C 12 "RoomNumbers$SheetRow" 2 := ⟨TX5, tyX5, rfl, in_X5, tyX5_ok, rfl, by decide, by decide, by decide, by decide⟩
theorem cn_7 : so_C 7 "RoomNumbers" 17 := ⟨TX11, tyX11, rfl, in_X11, tyX11_ok, rfl, by decide, by decide, by decide, by decide⟩
theorem cn_13 : so_C 13 "RoomNumbersModel" 25 := ⟨TX12, tyX12, rfl, in_X12, tyX12_ok, rfl, by decide, by decide, by decide, by decide⟩
theorem mt_0 : so_m 0 := ⟨by decide +kernel, tw_443⟩
theorem mt_1 : so_m 1 := ⟨by decide +kernel, tw_523⟩
theorem mt_2 : so_m 2 := ⟨by decide +kernel, tw_620⟩
theorem mt_3 : so_m 3 := ⟨by decide +kernel, tw_604⟩
theorem mt_4 : so_m 4 := ⟨by decide +kernel, tw_654⟩
theorem mt_5 : so_m 5 := ⟨by decide +kernel, tw_1009⟩
theorem mt_6 : so_m 6 := ⟨by decide +kernel, tw_1075⟩
theorem mt_7 : so_m 7 := ⟨by decide +kernel, tw_476⟩
theorem mt_8 : so_m 8 := ⟨by decide +kernel, tw_526⟩
theorem mt_9 : so_m 9 := ⟨by decide +kernel, tw_623⟩
theorem mt_10 : so_m 10 := ⟨by decide +kernel, tw_1051⟩
theorem mt_11 : so_m 11 := ⟨by decide +kernel, tw_1013⟩
theorem mt_12 : so_m 12 := ⟨by decide +kernel, tw_34⟩
theorem mt_13 : so_m 13 := ⟨by decide +kernel, tw_694⟩
theorem mt_14 : so_m 14 := ⟨by decide +kernel, tw_775⟩
theorem mt_15 : so_m 15 := ⟨by decide +kernel, tw_764⟩
theorem mt_16 : so_m 16 := ⟨by decide +kernel, tw_803⟩
theorem mt_17 : so_m 17 := ⟨by decide +kernel, tw_844⟩
theorem mt_18 : so_m 18 := ⟨by decide +kernel, tw_819⟩
theorem mt_19 : so_m 19 := ⟨by decide +kernel, tw_823⟩
theorem mt_20 : so_m 20 := ⟨by decide +kernel, tw_836⟩
theorem mt_21 : so_m 21 := ⟨by decide +kernel, tw_832⟩
theorem mt_22 : so_m 22 := ⟨by decide +kernel, tw_698⟩
theorem mt_23 : so_m 23 := ⟨by decide +kernel, tw_702⟩
theorem mt_24 : so_m 24 := ⟨by decide +kernel, tw_707⟩
theorem mt_25 : so_m 25 := ⟨by decide +kernel, tw_713⟩
theorem mt_26 : so_m 26 := ⟨by decide +kernel, tw_721⟩
theorem mt_27 : so_m 27 := ⟨by decide +kernel, tw_731⟩
theorem mt_28 : so_m 28 := ⟨by decide +kernel, tw_739⟩
theorem mt_29 : so_m 29 := ⟨by decide +kernel, tw_807⟩
theorem mt_30 : so_m 30 := ⟨by decide +kernel, tw_811⟩
theorem mt_31 : so_m 31 := ⟨by decide +kernel, tw_750⟩
theorem mt_32 : so_m 32 := ⟨by decide +kernel, tw_746⟩
theorem mt_33 : so_m 33 := ⟨by decide +kernel, tw_454⟩
theorem mt_34 : so_m 34 := ⟨by decide +kernel, tw_529⟩
theorem mt_35 : so_m 35 := ⟨by decide +kernel, tw_619⟩
theorem mt_36 : so_m 36 := ⟨by decide +kernel, tw_1019⟩
theorem mt_37 : so_m 37 := ⟨by decide +kernel, tw_1035⟩
theorem mt_38 : so_m 38 := ⟨by decide +kernel, tw_395⟩
theorem mt_39 : so_m 39 := ⟨by decide +kernel, tw_536⟩
theorem mt_40 : so_m 40 := ⟨by decide +kernel, tw_584⟩
theorem mt_41 : so_m 41 := ⟨by decide +kernel, tw_884⟩
theorem mt_42 : so_m 42 := ⟨by decide +kernel, tw_989⟩
theorem mt_43 : so_m 43 := ⟨by decide +kernel, tw_632⟩
theorem mt_44 : so_m 44 := ⟨by decide +kernel, tw_668⟩
theorem mt_45 : so_m 45 := ⟨by decide +kernel, tw_647⟩
theorem mt_46 : so_m 46 := ⟨by decide +kernel, tw_612⟩
theorem mt_47 : so_m 47 := ⟨by decide +kernel, tw_661⟩
theorem mt_48 : so_m 48 := ⟨by decide +kernel, tw_1023⟩
theorem mt_49 : so_m 49 := ⟨by decide +kernel, tw_1042⟩
theorem mt_50 : so_m 50 := ⟨by decide +kernel, tw_1064⟩
theorem mt_51 : so_m 51 := ⟨by decide +kernel, tw_1088⟩
theorem mt_52 : so_m 52 := ⟨by decide +kernel, tw_941⟩
theorem mt_53 : so_m 53 := ⟨by decide +kernel, tw_960⟩
theorem mt_54 : so_m 54 := ⟨by decide +kernel, tw_392⟩
theorem mt_55 : so_m 55 := ⟨by decide +kernel, tw_532⟩
theorem mt_56 : so_m 56 := ⟨by decide +kernel, tw_626⟩
theorem mt_57 : so_m 57 := ⟨by decide +kernel, tw_664⟩
theorem mt_58 : so_m 58 := ⟨by decide +kernel, tw_1031⟩
theorem mt_59 : so_m 59 := ⟨by decide +kernel, tw_142⟩
theorem mt_60 : so_m 60 := ⟨by decide +kernel, tw_272⟩
theorem mt_61 : so_m 61 := ⟨by decide +kernel, tw_297⟩
theorem mt_62 : so_m 62 := ⟨by decide +kernel, tw_359⟩
theorem mt_63 : so_m 63 := ⟨by decide +kernel, tw_367⟩
theorem mt_64 : so_m 64 := ⟨by decide +kernel, tw_380⟩
theorem mt_65 : so_m 65 := ⟨by decide +kernel, tw_502⟩
theorem mt_66 : so_m 66 := ⟨by decide +kernel, tw_493⟩
theorem mt_67 : so_m 67 := ⟨by decide +kernel, tw_371⟩
theorem mt_68 : so_m 68 := ⟨by decide +kernel, tw_376⟩
theorem mt_69 : so_m 69 := ⟨by decide +kernel, tw_302⟩
theorem mt_70 : so_m 70 := ⟨by decide +kernel, tw_283⟩
theorem mt_71 : so_m 71 := ⟨by decide +kernel, tw_293⟩
theorem mt_72 : so_m 72 := ⟨by decide +kernel, tw_286⟩
theorem mt_73 : so_m 73 := ⟨by decide +kernel, tw_289⟩
theorem mt_74 : so_m 74 := ⟨by decide +kernel, tw_179⟩
theorem mt_75 : so_m 75 := ⟨by decide +kernel, tw_1002⟩
theorem mt_76 : so_m 76 := ⟨by decide +kernel, tw_1068⟩
theorem mt_77 : so_m 77 := ⟨by decide +kernel, tw_1093⟩
theorem mt_78 : so_m 78 := ⟨by decide +kernel, tw_1101⟩
theorem mt_79 : so_m 79 := ⟨by decide +kernel, tw_465⟩
theorem mt_80 : so_m 80 := ⟨by decide +kernel, tw_535⟩
theorem mt_81 : so_m 81 := ⟨by decide +kernel, tw_631⟩
theorem mt_82 : so_m 82 := ⟨by decide +kernel, tw_1086⟩
theorem mt_83 : so_m 83 := ⟨by decide +kernel, tw_1059⟩
theorem mt_84 : so_m 84 := ⟨by decide +kernel, tw_40⟩
theorem mt_85 : so_m 85 := ⟨by decide +kernel, tw_279⟩
theorem mt_86 : so_m 86 := ⟨by decide +kernel, tw_510⟩
theorem mt_87 : so_m 87 := ⟨by decide +kernel, tw_506⟩
theorem mt_88 : so_m 88 := ⟨by decide +kernel, tw_563⟩
theorem mt_89 : so_m 89 := ⟨by decide +kernel, tw_727⟩
theorem mt_90 : so_m 90 := ⟨by decide +kernel, tw_516⟩
theorem mt_91 : so_m 91 := ⟨by decide +kernel, tw_387⟩
theorem mt_92 : so_m 92 := ⟨by decide +kernel, tw_497⟩
theorem mt_93 : so_m 93 := ⟨by decide +kernel, tw_686⟩
theorem mt_94 : so_m 94 := ⟨by decide +kernel, tw_789⟩
theorem mt_95 : so_m 95 := ⟨by decide +kernel, tw_793⟩
theorem mt_96 : so_m 96 := ⟨by decide +kernel, tw_827⟩
theorem mt_97 : so_m 97 := ⟨by decide +kernel, tw_717⟩
theorem mt_98 : so_m 98 := ⟨by decide +kernel, tw_26⟩
theorem mt_99 : so_m 99 := ⟨by decide +kernel, tw_261⟩
theorem mt_100 : so_m 100 := ⟨by decide +kernel, tw_268⟩
theorem mt_101 : so_m 101 := ⟨by decide +kernel, tw_548⟩
theorem mt_102 : so_m 102 := ⟨by decide +kernel, tw_559⟩
theorem mt_103 : so_m 103 := ⟨by decide +kernel, tw_567⟩
theorem mt_104 : so_m 104 := ⟨by decide +kernel, tw_572⟩
theorem mt_105 : so_m 105 := ⟨by decide +kernel, tw_588⟩
theorem mt_106 : so_m 106 := ⟨by decide +kernel, tw_592⟩
theorem mt_107 : so_m 107 := ⟨by decide +kernel, tw_596⟩
theorem mt_108 : so_m 108 := ⟨by decide +kernel, tw_637⟩
theorem mt_109 : so_m 109 := ⟨by decide +kernel, tw_673⟩
theorem mt_110 : so_m 110 := ⟨by decide +kernel, tw_678⟩
theorem mt_111 : so_m 111 := ⟨by decide +kernel, tw_682⟩
theorem mt_112 : so_m 112 := ⟨by decide +kernel, tw_690⟩
theorem mt_113 : so_m 113 := ⟨by decide +kernel, tw_760⟩
theorem mt_114 : so_m 114 := ⟨by decide +kernel, tw_771⟩
theorem mt_115 : so_m 115 := ⟨by decide +kernel, tw_779⟩
theorem mt_116 : so_m 116 := ⟨by decide +kernel, tw_785⟩
theorem mt_117 : so_m 117 := ⟨by decide +kernel, tw_799⟩
theorem mt_118 : so_m 118 := ⟨by decide +kernel, tw_815⟩
theorem mt_119 : so_m 119 := ⟨by decide +kernel, tw_840⟩
theorem mt_120 : so_m 120 := ⟨by decide +kernel, tw_848⟩
theorem mt_121 : so_m 121 := ⟨by decide +kernel, tw_852⟩
theorem mt_122 : so_m 122 := ⟨by decide +kernel, tw_859⟩
theorem mt_123 : so_m 123 := ⟨by decide +kernel, tw_867⟩
theorem mt_124 : so_m 124 := ⟨by decide +kernel, tw_871⟩
theorem mt_125 : so_m 125 := ⟨by decide +kernel, tw_889⟩
theorem mt_126 : so_m 126 := ⟨by decide +kernel, tw_893⟩
theorem mt_127 : so_m 127 := ⟨by decide +kernel, tw_898⟩
theorem mt_128 : so_m 128 := ⟨by decide +kernel, tw_902⟩
theorem mt_129 : so_m 129 := ⟨by decide +kernel, tw_910⟩
theorem mt_130 : so_m 130 := ⟨by decide +kernel, tw_914⟩
theorem mt_131 : so_m 131 := ⟨by decide +kernel, tw_923⟩
theorem mt_132 : so_m 132 := ⟨by decide +kernel, tw_937⟩
theorem mt_133 : so_m 133 := ⟨by decide +kernel, tw_956⟩
theorem mt_134 : so_m 134 := ⟨by decide +kernel, tw_964⟩
theorem mt_135 : so_m 135 := ⟨by decide +kernel, tw_968⟩
theorem mt_136 : so_m 136 := ⟨by decide +kernel, tw_975⟩
theorem mt_137 : so_m 137 := ⟨by decide +kernel, tw_998⟩
theorem mt_138 : so_m 138 := ⟨by decide +kernel, tw_1097⟩
theorem mt_139 : so_m 139 := ⟨by decide +kernel, tw_1107⟩
theorem mt_140 : so_m 140 := ⟨by decide +kernel, tw_1111⟩
theorem mt_141 : so_m 141 := ⟨by decide +kernel, tw_1115⟩
theorem mt_142 : so_m 142 := ⟨by decide +kernel, tw_906⟩
theorem mt_143 : so_m 143 := ⟨by decide +kernel, tw_918⟩
theorem mt_144 : so_m 144 := ⟨by decide +kernel, tw_979⟩
theorem mt_145 : so_m 145 := ⟨by decide +kernel, tw_264⟩
theorem mt_146 : so_m 146 := ⟨by decide +kernel, tw_551⟩
theorem mt_147 : so_m 147 := ⟨by decide +kernel, tw_554⟩
theorem mt_148 : so_m 148 := ⟨by decide +kernel, tw_926⟩
theorem mt_149 : so_m 149 := ⟨by decide +kernel, tw_971⟩
theorem mt_150 : so_m 150 := ⟨by decide +kernel, tw_862⟩
theorem mt_151 : so_m 151 := ⟨by decide +kernel, tw_767⟩
theorem mt_152 : so_m 152 := ⟨by decide +kernel, tw_855⟩
theorem mt_153 : so_m 153 := ⟨by decide +kernel, tw_742⟩
theorem mt_154 : so_m 154 := ⟨by decide +kernel, tw_1120⟩
theorem mt_155 : so_m 155 := ⟨by decide +kernel, tw_1216⟩
theorem mt_156 : so_m 156 := ⟨by decide +kernel, tw_1125⟩
theorem mt_157 : so_m 157 := ⟨by decide +kernel, tw_1208⟩
theorem mt_158 : so_m 158 := ⟨by decide +kernel, tw_1300⟩
theorem mt_159 : so_m 159 := ⟨by decide +kernel, tw_1277⟩
theorem mt_160 : so_m 160 := ⟨by decide +kernel, tw_1280⟩
theorem mt_161 : so_m 161 := ⟨by decide +kernel, tw_1288⟩
theorem mt_162 : so_m 162 := ⟨by decide +kernel, tw_1349⟩
theorem mt_163 : so_m 163 := ⟨by decide +kernel, tw_1205⟩
theorem mt_164 : so_m 164 := ⟨by decide +kernel, tw_1228⟩
theorem mt_165 : so_m 165 := ⟨by decide +kernel, tw_1224⟩
theorem mt_166 : so_m 166 := ⟨by decide +kernel, tw_1237⟩
theorem mt_167 : so_m 167 := ⟨by decide +kernel, tw_1261⟩
theorem mt_168 : so_m 168 := ⟨by decide +kernel, tw_1256⟩
theorem mt_169 : so_m 169 := ⟨by decide +kernel, tw_1232⟩
theorem mt_170 : so_m 170 := ⟨by decide +kernel, tw_1252⟩
theorem mt_171 : so_m 171 := ⟨by decide +kernel, tw_1270⟩
theorem mt_172 : so_m 172 := ⟨by decide +kernel, tw_1265⟩
theorem mt_173 : so_m 173 := ⟨by decide +kernel, tw_1220⟩
theorem mt_174 : so_m 174 := ⟨by decide +kernel, tw_1213⟩
theorem mt_175 : so_m 175 := ⟨by decide +kernel, tw_1274⟩
theorem mt_176 : so_m 176 := ⟨by decide +kernel, tw_1284⟩
theorem mt_177 : so_m 177 := ⟨by decide +kernel, tw_1292⟩
theorem mt_178 : so_m 178 := ⟨by decide +kernel, tw_1296⟩
theorem mt_179 : so_m 179 := ⟨by decide +kernel, tw_1308⟩
theorem mt_180 : so_m 180 := ⟨by decide +kernel, tw_1304⟩
theorem mt_181 : so_m 181 := ⟨by decide +kernel, tw_1312⟩
theorem mt_182 : so_m 182 := ⟨by decide +kernel, tw_1324⟩
theorem mt_183 : so_m 183 := ⟨by decide +kernel, tw_1320⟩
theorem mt_184 : so_m 184 := ⟨by decide +kernel, tw_1333⟩
theorem mt_185 : so_m 185 := ⟨by decide +kernel, tw_1316⟩
theorem mt_186 : so_m 186 := ⟨by decide +kernel, tw_1329⟩
theorem mt_187 : so_m 187 := ⟨by decide +kernel, tw_1345⟩
theorem mt_188 : so_m 188 := ⟨by decide +kernel, tw_1337⟩
theorem mt_189 : so_m 189 := ⟨by decide +kernel, tw_1341⟩
theorem mt_190 : so_m 190 := ⟨by decide +kernel, tw_1353⟩
theorem mt_191 : so_m 191 := ⟨by decide +kernel, tw_1377⟩
theorem mt_192 : so_m 192 := ⟨by decide +kernel, tw_1373⟩
theorem mt_193 : so_m 193 := ⟨by decide +kernel, tw_1369⟩
theorem mt_194 : so_m 194 := ⟨by decide +kernel, tw_1365⟩
theorem mt_195 : so_m 195 := ⟨by decide +kernel, tw_1361⟩
theorem mt_196 : so_m 196 := ⟨by decide +kernel, tw_1357⟩
theorem mt_197 : so_m 197 := ⟨by decide +kernel, tw_1405⟩
theorem mt_198 : so_m 198 := ⟨by decide +kernel, tw_1385⟩
theorem mt_199 : so_m 199 := ⟨by decide +kernel, tw_1381⟩
theorem mt_200 : so_m 200 := ⟨by decide +kernel, tw_1389⟩
theorem mt_201 : so_m 201 := ⟨by decide +kernel, tw_1393⟩
theorem mt_202 : so_m 202 := ⟨by decide +kernel, tw_1397⟩
theorem mt_203 : so_m 203 := ⟨by decide +kernel, tw_1408⟩
theorem mt_204 : so_m 204 := ⟨by decide +kernel, tw_1401⟩
theorem mt_205 : so_m 205 := ⟨by decide +kernel, tw_1412⟩
theorem mt_206 : so_m 206 := ⟨by decide +kernel, tw_1417⟩
theorem mt_207 : so_m 207 := ⟨by decide +kernel, tw_1422⟩
theorem mt_208 : so_m 208 := ⟨by decide +kernel, tw_1429⟩
theorem mt_209 : so_m 209 := ⟨by decide +kernel, tw_1432⟩
theorem mt_210 : so_m 210 := ⟨by decide +kernel, tw_1426⟩
theorem mt_211 : so_m 211 := ⟨by decide +kernel, tw_1439⟩
theorem mt_212 : so_m 212 := ⟨by decide +kernel, tw_1443⟩
theorem mt_213 : so_m 213 := ⟨by decide +kernel, tw_1436⟩
theorem mt_214 : so_m 214 := ⟨by decide +kernel, tw_1447⟩
theorem mt_215 : so_m 215 := ⟨by decide +kernel, tw_1455⟩
theorem mt_216 : so_m 216 := ⟨by decide +kernel, tw_1451⟩
theorem mt_217 : so_m 217 := ⟨by decide +kernel, tw_1460⟩
theorem mt_218 : so_m 218 := ⟨by decide +kernel, tw_1464⟩
theorem mt_219 : so_m 219 := ⟨by decide +kernel, tw_1469⟩
theorem mt_220 : so_m 220 := ⟨by decide +kernel, tw_1477⟩
theorem mt_221 : so_m 221 := ⟨by decide +kernel, tw_1473⟩
theorem mt_222 : so_m 222 := ⟨by decide +kernel, tw_1481⟩
theorem mt_223 : so_m 223 := ⟨by decide +kernel, tw_1489⟩
theorem mt_224 : so_m 224 := ⟨by decide +kernel, tw_1485⟩
theorem mt_225 : so_m 225 := ⟨by decide +kernel, tw_1498⟩
theorem mt_226 : so_m 226 := ⟨by decide +kernel, tw_1495⟩
theorem mt_227 : so_m 227 := ⟨by decide +kernel, tw_1503⟩
theorem mt_228 : so_m 228 := ⟨by decide +kernel, tw_1510⟩
theorem mt_229 : so_m 229 := ⟨by decide +kernel, tw_1507⟩
theorem mt_230 : so_m 230 := ⟨by decide +kernel, tw_1514⟩
theorem mt_231 : so_m 231 := ⟨by decide +kernel, tw_1521⟩
theorem mt_232 : so_m 232 := ⟨by decide +kernel, tw_1518⟩
theorem mt_233 : so_m 233 := ⟨by decide +kernel, tw_1529⟩
theorem mt_234 : so_m 234 := ⟨by decide +kernel, tw_1532⟩
theorem mt_235 : so_m 235 := ⟨by decide +kernel, tw_1525⟩
theorem mt_236 : so_m 236 := ⟨by decide +kernel, tw_1548⟩
theorem mt_237 : so_m 237 := ⟨by decide +kernel, tw_1551⟩
theorem mt_238 : so_m 238 := ⟨by decide +kernel, tw_1540⟩
theorem mt_239 : so_m 239 := ⟨by decide +kernel, tw_1544⟩
theorem mt_240 : so_m 240 := ⟨by decide +kernel, tw_1555⟩
theorem mt_241 : so_m 241 := ⟨by decide +kernel, tw_1559⟩
theorem mt_242 : so_m 242 := ⟨by decide +kernel, tw_1563⟩
theorem mt_243 : so_m 243 := ⟨by decide +kernel, tw_1536⟩
theorem mt_244 : so_m 244 := ⟨by decide +kernel, tw_1567⟩
theorem mt_245 : so_m 245 := ⟨by decide +kernel, tw_1571⟩
theorem mt_246 : so_m 246 := ⟨by decide +kernel, tw_1575⟩
theorem mt_247 : so_m 247 := ⟨by decide +kernel, tw_1579⟩
theorem mt_248 : so_m 248 := ⟨by decide +kernel, tw_753⟩
theorem mt_249 : so_m 249 := ⟨by decide +kernel, tw_306⟩
theorem mt_250 : so_m 250 := ⟨by decide +kernel, tw_316⟩
theorem mt_251 : so_m 251 := ⟨by decide +kernel, tw_310⟩
theorem mt_252 : so_m 252 := ⟨by decide +kernel, tw_320⟩
theorem mt_253 : so_m 253 := ⟨by decide +kernel, tw_326⟩
theorem mt_254 : so_m 254 := ⟨by decide +kernel, tw_323⟩
theorem mt_255 : so_m 255 := ⟨by decide +kernel, tw_46⟩
theorem mt_256 : so_m 256 := ⟨by decide +kernel, tw_331⟩
theorem mh_ok {C : String} (h : (C == "java/lang/invoke/MethodHandle" || C == "java/lang/invoke/VarHandle") = false) : so_mh C := by
  simp only [Bool.or_eq_false_iff, beq_eq_false_iff_ne] at h
  exact h
theorem cl_16 : ∀ t : Int, 1 ≤ t → t ≤ 6 → ∃ C, so_cl t C := by
  intro t h1 h2
  rcases (by omega : t = 1 ∨ t = 2 ∨ t = 3 ∨ t = 4 ∨ t = 5 ∨ t = 6) with e | e | e | e | e | e <;> subst e
  · exact ⟨_, cl_1⟩
  · exact ⟨_, cl_2⟩
  · exact ⟨_, cl_3⟩
  · exact ⟨_, cl_4⟩
  · exact ⟨_, cl_5⟩
  · exact ⟨_, cl_6⟩
theorem aa_22 : so_A 1 6 "RoomNumbers$Note" := ⟨by decide, by decide, by
  intro t h1 h2 q hq
  rcases (by omega : t = 1 ∨ t = 2 ∨ t = 3 ∨ t = 4 ∨ t = 5 ∨ t = 6) with e | e | e | e | e | e <;> subst e
  · rw [← Option.some.inj ((rfl : vwCl[so_ci 1]? = some (RX4, TX4, 4)).symm.trans hq)]; exact Or.inl rfl
  · rw [← Option.some.inj ((rfl : vwCl[so_ci 2]? = some (RX6, TX6, 4)).symm.trans hq)]; exact Or.inr (List.mem_of_getElem? (i := 11) rfl)
  · rw [← Option.some.inj ((rfl : vwCl[so_ci 3]? = some (RX0, TX0, 4)).symm.trans hq)]; exact Or.inr (List.mem_of_getElem? (i := 12) rfl)
  · rw [← Option.some.inj ((rfl : vwCl[so_ci 4]? = some (RX3, TX3, 4)).symm.trans hq)]; exact Or.inr (List.mem_of_getElem? (i := 13) rfl)
  · rw [← Option.some.inj ((rfl : vwCl[so_ci 5]? = some (RX9, TX9, 4)).symm.trans hq)]; exact Or.inr (List.mem_of_getElem? (i := 14) rfl)
  · rw [← Option.some.inj ((rfl : vwCl[so_ci 6]? = some (RX1, TX1, 4)).symm.trans hq)]; exact Or.inr (List.mem_of_getElem? (i := 15) rfl)⟩
theorem aa_23 : so_A 12 12 "RoomNumbers$SheetRow" := ⟨by decide, by decide, by
  intro t h1 h2 q hq
  have e : t = 12 := by omega
  subst e
  rw [← Option.some.inj ((rfl : vwCl[so_ci 12]? = some (RX5, TX5, 2)).symm.trans hq)]; exact Or.inl rfl⟩
theorem ki_2 : so_K 2 6 "RoomNumbers$Strokes" := by
  intro t h1 h2 q hq
  rcases (by omega : t = 1 ∨ t = 2 ∨ t = 3 ∨ t = 4 ∨ t = 5 ∨ t = 6) with e | e | e | e | e | e <;> subst e
  · rw [← Option.some.inj ((rfl : vwCl[so_ci 1]? = some (RX4, TX4, 4)).symm.trans hq)]; exact ⟨fun w => absurd w (by decide), fun _ => List.mem_of_getElem? (i := 0) rfl⟩
  · rw [← Option.some.inj ((rfl : vwCl[so_ci 2]? = some (RX6, TX6, 4)).symm.trans hq)]; exact ⟨fun _ => Or.inl rfl, fun w => absurd (by decide) w⟩
  · rw [← Option.some.inj ((rfl : vwCl[so_ci 3]? = some (RX0, TX0, 4)).symm.trans hq)]; exact ⟨fun w => absurd w (by decide), fun _ => List.mem_of_getElem? (i := 1) rfl⟩
  · rw [← Option.some.inj ((rfl : vwCl[so_ci 4]? = some (RX3, TX3, 4)).symm.trans hq)]; exact ⟨fun w => absurd w (by decide), fun _ => List.mem_of_getElem? (i := 2) rfl⟩
  · rw [← Option.some.inj ((rfl : vwCl[so_ci 5]? = some (RX9, TX9, 4)).symm.trans hq)]; exact ⟨fun w => absurd w (by decide), fun _ => List.mem_of_getElem? (i := 3) rfl⟩
  · rw [← Option.some.inj ((rfl : vwCl[so_ci 6]? = some (RX1, TX1, 4)).symm.trans hq)]; exact ⟨fun _ => Or.inr (List.mem_of_getElem? (i := 9) rfl), fun w => absurd (by decide) w⟩
theorem ki_3 : so_K 3 4 "RoomNumbers$Broken" := by
  intro t h1 h2 q hq
  rcases (by omega : t = 1 ∨ t = 2 ∨ t = 3 ∨ t = 4 ∨ t = 5 ∨ t = 6) with e | e | e | e | e | e <;> subst e
  · rw [← Option.some.inj ((rfl : vwCl[so_ci 1]? = some (RX4, TX4, 4)).symm.trans hq)]; exact ⟨fun w => absurd w (by decide), fun _ => List.mem_of_getElem? (i := 4) rfl⟩
  · rw [← Option.some.inj ((rfl : vwCl[so_ci 2]? = some (RX6, TX6, 4)).symm.trans hq)]; exact ⟨fun w => absurd w (by decide), fun _ => List.mem_of_getElem? (i := 5) rfl⟩
  · rw [← Option.some.inj ((rfl : vwCl[so_ci 3]? = some (RX0, TX0, 4)).symm.trans hq)]; exact ⟨fun _ => Or.inl rfl, fun w => absurd (by decide) w⟩
  · rw [← Option.some.inj ((rfl : vwCl[so_ci 4]? = some (RX3, TX3, 4)).symm.trans hq)]; exact ⟨fun _ => Or.inr (List.mem_of_getElem? (i := 10) rfl), fun w => absurd (by decide) w⟩
  · rw [← Option.some.inj ((rfl : vwCl[so_ci 5]? = some (RX9, TX9, 4)).symm.trans hq)]; exact ⟨fun w => absurd w (by decide), fun _ => List.mem_of_getElem? (i := 6) rfl⟩
  · rw [← Option.some.inj ((rfl : vwCl[so_ci 6]? = some (RX1, TX1, 4)).symm.trans hq)]; exact ⟨fun w => absurd w (by decide), fun _ => List.mem_of_getElem? (i := 7) rfl⟩
theorem ki_4 : so_K 4 4 "RoomNumbers$Left" := by
  intro t h1 h2 q hq
  rcases (by omega : t = 1 ∨ t = 2 ∨ t = 3 ∨ t = 4 ∨ t = 5 ∨ t = 6) with e | e | e | e | e | e <;> subst e
  · rw [← Option.some.inj ((rfl : vwCl[so_ci 1]? = some (RX4, TX4, 4)).symm.trans hq)]; exact ⟨fun w => absurd w (by decide), fun _ => List.mem_of_getElem? (i := 8) rfl⟩
  · rw [← Option.some.inj ((rfl : vwCl[so_ci 2]? = some (RX6, TX6, 4)).symm.trans hq)]; exact ⟨fun w => absurd w (by decide), fun _ => List.mem_of_getElem? (i := 9) rfl⟩
  · rw [← Option.some.inj ((rfl : vwCl[so_ci 3]? = some (RX0, TX0, 4)).symm.trans hq)]; exact ⟨fun w => absurd w (by decide), fun _ => List.mem_of_getElem? (i := 10) rfl⟩
  · rw [← Option.some.inj ((rfl : vwCl[so_ci 4]? = some (RX3, TX3, 4)).symm.trans hq)]; exact ⟨fun _ => Or.inl rfl, fun w => absurd (by decide) w⟩
  · rw [← Option.some.inj ((rfl : vwCl[so_ci 5]? = some (RX9, TX9, 4)).symm.trans hq)]; exact ⟨fun w => absurd w (by decide), fun _ => List.mem_of_getElem? (i := 11) rfl⟩
  · rw [← Option.some.inj ((rfl : vwCl[so_ci 6]? = some (RX1, TX1, 4)).symm.trans hq)]; exact ⟨fun w => absurd w (by decide), fun _ => List.mem_of_getElem? (i := 12) rfl⟩
theorem ki_5 : so_K 5 5 "RoomNumbers$Turned" := by
  intro t h1 h2 q hq
  rcases (by omega : t = 1 ∨ t = 2 ∨ t = 3 ∨ t = 4 ∨ t = 5 ∨ t = 6) with e | e | e | e | e | e <;> subst e
  · rw [← Option.some.inj ((rfl : vwCl[so_ci 1]? = some (RX4, TX4, 4)).symm.trans hq)]; exact ⟨fun w => absurd w (by decide), fun _ => List.mem_of_getElem? (i := 13) rfl⟩
  · rw [← Option.some.inj ((rfl : vwCl[so_ci 2]? = some (RX6, TX6, 4)).symm.trans hq)]; exact ⟨fun w => absurd w (by decide), fun _ => List.mem_of_getElem? (i := 14) rfl⟩
  · rw [← Option.some.inj ((rfl : vwCl[so_ci 3]? = some (RX0, TX0, 4)).symm.trans hq)]; exact ⟨fun w => absurd w (by decide), fun _ => List.mem_of_getElem? (i := 15) rfl⟩
  · rw [← Option.some.inj ((rfl : vwCl[so_ci 4]? = some (RX3, TX3, 4)).symm.trans hq)]; exact ⟨fun w => absurd w (by decide), fun _ => List.mem_of_getElem? (i := 16) rfl⟩
  · rw [← Option.some.inj ((rfl : vwCl[so_ci 5]? = some (RX9, TX9, 4)).symm.trans hq)]; exact ⟨fun _ => Or.inl rfl, fun w => absurd (by decide) w⟩
  · rw [← Option.some.inj ((rfl : vwCl[so_ci 6]? = some (RX1, TX1, 4)).symm.trans hq)]; exact ⟨fun w => absurd w (by decide), fun _ => List.mem_of_getElem? (i := 17) rfl⟩
theorem ki_6 : so_K 6 6 "RoomNumbers$Debt" := by
  intro t h1 h2 q hq
  rcases (by omega : t = 1 ∨ t = 2 ∨ t = 3 ∨ t = 4 ∨ t = 5 ∨ t = 6) with e | e | e | e | e | e <;> subst e
  · rw [← Option.some.inj ((rfl : vwCl[so_ci 1]? = some (RX4, TX4, 4)).symm.trans hq)]; exact ⟨fun w => absurd w (by decide), fun _ => List.mem_of_getElem? (i := 18) rfl⟩
  · rw [← Option.some.inj ((rfl : vwCl[so_ci 2]? = some (RX6, TX6, 4)).symm.trans hq)]; exact ⟨fun w => absurd w (by decide), fun _ => List.mem_of_getElem? (i := 19) rfl⟩
  · rw [← Option.some.inj ((rfl : vwCl[so_ci 3]? = some (RX0, TX0, 4)).symm.trans hq)]; exact ⟨fun w => absurd w (by decide), fun _ => List.mem_of_getElem? (i := 20) rfl⟩
  · rw [← Option.some.inj ((rfl : vwCl[so_ci 4]? = some (RX3, TX3, 4)).symm.trans hq)]; exact ⟨fun w => absurd w (by decide), fun _ => List.mem_of_getElem? (i := 21) rfl⟩
  · rw [← Option.some.inj ((rfl : vwCl[so_ci 5]? = some (RX9, TX9, 4)).symm.trans hq)]; exact ⟨fun w => absurd w (by decide), fun _ => List.mem_of_getElem? (i := 22) rfl⟩
  · rw [← Option.some.inj ((rfl : vwCl[so_ci 6]? = some (RX1, TX1, 4)).symm.trans hq)]; exact ⟨fun _ => Or.inl rfl, fun w => absurd (by decide) w⟩
