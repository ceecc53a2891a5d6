/-! PRINTED (gen_ok.py): each step is sound -/
theorem ok_X0_init_0 : ok_S 0 0 (sf_ld 2 0 1) := ok_aload_n (by decide +kernel : decode (mb_ 0) 0 = .ok (.aload_n 0, 1)) rfl
theorem ok_X0_init_1 : ok_S 0 1 (sf_ld 0 1 2) := ok_iload_n (by decide +kernel : decode (mb_ 0) 1 = .ok (.iload_n 1, 1)) rfl
theorem ok_X0_init_2 : ok_S 0 2 (sf_ld 0 2 3) := ok_iload_n (by decide +kernel : decode (mb_ 0) 2 = .ok (.iload_n 2, 1)) rfl
theorem ok_X0_init_3 : ok_S 0 3 (sf_ld 0 3 4) := ok_iload_n (by decide +kernel : decode (mb_ 0) 3 = .ok (.iload_n 3, 1)) rfl
theorem ok_X0_init_4 : ok_S 0 4 (sf_ld 2 4 6) := ok_aload (by decide +kernel : decode (mb_ 0) 4 = .ok (.aload 4, 2))
theorem ok_X0_init_6 : ok_S 0 6 (sf_ci 1 6 [2, 0, 0, 0, 2] 38 9) := ok_ci mt_38 (by decide) (by decide) (by decide +kernel : decode (mb_ 0) 6 = .ok (.invokespecial 1, 3)) tw_444 tw_394 tw_14 rfl rfl rfl (by decide +kernel) (mh_ok rfl) (by decide) (by decide)
theorem ok_X0_init_9 : ok_S 0 9 (sf_retv) := ok_retv (by decide +kernel : decode (mb_ 0) 9 = .ok (.return_, 1)) rfl
theorem ok_X0_init (pc : Nat) : ok_S 0 pc (cd_X0_init pc) :=
  (ok_bf (ok_bf (ok_bf (ok_lf pc ok_X0_init_9) (ok_lf pc ok_X0_init_6)) (ok_bf (ok_lf pc ok_X0_init_4) (ok_lf pc ok_X0_init_3))) (ok_bf (ok_bf (ok_lf pc ok_X0_init_2) (ok_lf pc ok_X0_init_1)) (ok_lf pc ok_X0_init_0)))
theorem mo_X0_init (pc : Nat) : mo_S (cd_X0_init pc) :=
  (mo_bf (mo_bf (mo_bf (mo_bf mo_retv mo_no) (mo_bf mo_ci mo_no)) (mo_bf (mo_bf mo_ld mo_no) (mo_bf mo_ld mo_no))) (mo_bf (mo_bf (mo_bf mo_ld mo_no) (mo_bf mo_ld mo_no)) (mo_bf mo_ld mo_no)))
theorem ok_X0_kind_0 : ok_S 1 0 (sf_push (0, 2) 1) := ok_iconst (by decide +kernel : decode (mb_ 1) 0 = .ok (.iconst 2, 1)) ⟨by decide, by decide⟩
theorem ok_X0_kind_1 : ok_S 1 1 (sf_ret 0) := ok_ret0 (by decide +kernel : decode (mb_ 1) 1 = .ok (.ireturn, 1)) rfl
theorem ok_X0_kind (pc : Nat) : ok_S 1 pc (cd_X0_kind pc) :=
  (ok_bf (ok_lf pc ok_X0_kind_1) (ok_lf pc ok_X0_kind_0))
theorem mo_X0_kind (pc : Nat) : mo_S (cd_X0_kind pc) :=
  (mo_bf (mo_bf mo_ret mo_no) (mo_bf mo_push mo_no))
theorem ok_X0_baseBehind_0 : ok_S 2 0 (sf_ld 0 1 1) := ok_iload_n (by decide +kernel : decode (mb_ 2) 0 = .ok (.iload_n 1, 1)) rfl
theorem ok_X0_baseBehind_1 : ok_S 2 1 (sf_push (0, 1) 2) := ok_iconst (by decide +kernel : decode (mb_ 2) 1 = .ok (.iconst 1, 1)) ⟨by decide, by decide⟩
theorem ok_X0_baseBehind_2 : ok_S 2 2 (sf_i2 mx_add 3) := ok_iadd (by decide +kernel : decode (mb_ 2) 2 = .ok (.iadd, 1))
theorem ok_X0_baseBehind_3 : ok_S 2 3 (sf_ret 0) := ok_ret0 (by decide +kernel : decode (mb_ 2) 3 = .ok (.ireturn, 1)) rfl
theorem ok_X0_baseBehind (pc : Nat) : ok_S 2 pc (cd_X0_baseBehind pc) :=
  (ok_bf (ok_bf (ok_lf pc ok_X0_baseBehind_3) (ok_lf pc ok_X0_baseBehind_2)) (ok_bf (ok_lf pc ok_X0_baseBehind_1) (ok_lf pc ok_X0_baseBehind_0)))
theorem mo_X0_baseBehind (pc : Nat) : mo_S (cd_X0_baseBehind pc) :=
  (mo_bf (mo_bf (mo_bf mo_ret mo_no) (mo_bf mo_i2 mo_no)) (mo_bf (mo_bf mo_push mo_no) (mo_bf mo_ld mo_no)))
theorem ok_X0_worthBy_0 : ok_S 3 0 (sf_ld 2 0 1) := ok_aload_n (by decide +kernel : decode (mb_ 3) 0 = .ok (.aload_n 0, 1)) rfl
theorem ok_X0_worthBy_1 : ok_S 3 1 (sf_gi 1 6 1 4) := ok_gi fd_1_1 (by decide +kernel : decode (mb_ 3) 1 = .ok (.getfield 7, 3)) tw_408 (Or.inr tw_409) rfl
theorem ok_X0_worthBy_4 : ok_S 3 4 (sf_ld 2 0 5) := ok_aload_n (by decide +kernel : decode (mb_ 3) 4 = .ok (.aload_n 0, 1)) rfl
theorem ok_X0_worthBy_5 : ok_S 3 5 (sf_gr 1 6 2 8) := ok_gr fd_1_2 (by decide +kernel : decode (mb_ 3) 5 = .ok (.getfield 13, 3)) tw_421 (Or.inr tw_422) rfl
theorem ok_X0_worthBy_8 : ok_S 3 8 (sf_alen 9) := ok_alen (by decide +kernel : decode (mb_ 3) 8 = .ok (.arraylength, 1))
theorem ok_X0_worthBy_9 : ok_S 3 9 (sf_m2 mx_min 12) := ok_mmin (by decide +kernel : decode (mb_ 3) 9 = .ok (.invokestatic 17, 3)) tw_605 tw_274 tw_8 tw_275
theorem ok_X0_worthBy_12 : ok_S 3 12 (sf_st 0 2 13) := ok_istore_n (by decide +kernel : decode (mb_ 3) 12 = .ok (.istore_n 2, 1)) rfl
theorem ok_X0_worthBy_13 : ok_S 3 13 (sf_ld 2 0 14) := ok_aload_n (by decide +kernel : decode (mb_ 3) 13 = .ok (.aload_n 0, 1)) rfl
theorem ok_X0_worthBy_14 : ok_S 3 14 (sf_ld 2 0 15) := ok_aload_n (by decide +kernel : decode (mb_ 3) 14 = .ok (.aload_n 0, 1)) rfl
theorem ok_X0_worthBy_15 : ok_S 3 15 (sf_push (0, 0) 16) := ok_iconst (by decide +kernel : decode (mb_ 3) 15 = .ok (.iconst 0, 1)) ⟨by decide, by decide⟩
theorem ok_X0_worthBy_16 : ok_S 3 16 (sf_ld 0 1 17) := ok_iload_n (by decide +kernel : decode (mb_ 3) 16 = .ok (.iload_n 1, 1)) rfl
theorem ok_X0_worthBy_17 : ok_S 3 17 (sf_push (0, 0) 18) := ok_iconst (by decide +kernel : decode (mb_ 3) 17 = .ok (.iconst 0, 1)) ⟨by decide, by decide⟩
theorem ok_X0_worthBy_18 : ok_S 3 18 (sf_ld 0 2 19) := ok_iload_n (by decide +kernel : decode (mb_ 3) 18 = .ok (.iload_n 2, 1)) rfl
theorem ok_X0_worthBy_19 : ok_S 3 19 (sf_cu [(3, 46), (4, 46)] [2, 0, 0, 0, 0] 22) := ok_cu (x := ⟨"RoomNumbers$Broken", "grown", "(IIII)I"⟩) (ow := "RoomNumbers$Note") ⟨tw_606, tw_607, tw_611, ⟨_, _, _, tw_612⟩, mh_ok rfl, (by decide +kernel)⟩ (List.forall_mem_cons.mpr ⟨⟨"RoomNumbers$Broken", cl_3, mt_46, tw_609, tw_611, tw_14, by decide, by decide⟩, (List.forall_mem_cons.mpr ⟨⟨"RoomNumbers$Left", cl_4, mt_46, tw_610, tw_611, tw_14, by decide, by decide⟩, (fun _ h => absurd h List.not_mem_nil)⟩)⟩) (by decide +kernel : decode (mb_ 3) 19 = .ok (.invokevirtual 23, 3)) rfl
theorem ok_X0_worthBy_22 : ok_S 3 22 (sf_ld 2 0 23) := ok_aload_n (by decide +kernel : decode (mb_ 3) 22 = .ok (.aload_n 0, 1)) rfl
theorem ok_X0_worthBy_23 : ok_S 3 23 (sf_ld 0 1 24) := ok_iload_n (by decide +kernel : decode (mb_ 3) 23 = .ok (.iload_n 1, 1)) rfl
theorem ok_X0_worthBy_24 : ok_S 3 24 (sf_cu [(3, 2), (4, 35)] [2, 0] 27) := ok_cu (x := ⟨"RoomNumbers$Broken", "baseBehind", "(I)I"⟩) (ow := "RoomNumbers$Broken") ⟨tw_613, tw_616, tw_614, ⟨_, _, _, tw_620⟩, mh_ok rfl, (by decide +kernel)⟩ (List.forall_mem_cons.mpr ⟨⟨"RoomNumbers$Broken", cl_3, mt_2, tw_615, tw_614, tw_16, by decide, by decide⟩, (List.forall_mem_cons.mpr ⟨⟨"RoomNumbers$Left", cl_4, mt_35, tw_617, tw_618, tw_17, by decide, by decide⟩, (fun _ h => absurd h List.not_mem_nil)⟩)⟩) (by decide +kernel : decode (mb_ 3) 24 = .ok (.invokevirtual 27, 3)) rfl
theorem ok_X0_worthBy_27 : ok_S 3 27 (sf_ld 0 2 28) := ok_iload_n (by decide +kernel : decode (mb_ 3) 27 = .ok (.iload_n 2, 1)) rfl
theorem ok_X0_worthBy_28 : ok_S 3 28 (sf_ld 2 0 29) := ok_aload_n (by decide +kernel : decode (mb_ 3) 28 = .ok (.aload_n 0, 1)) rfl
theorem ok_X0_worthBy_29 : ok_S 3 29 (sf_gr 1 6 2 32) := ok_gr fd_1_2 (by decide +kernel : decode (mb_ 3) 29 = .ok (.getfield 13, 3)) tw_421 (Or.inr tw_422) rfl
theorem ok_X0_worthBy_32 : ok_S 3 32 (sf_alen 33) := ok_alen (by decide +kernel : decode (mb_ 3) 32 = .ok (.arraylength, 1))
theorem ok_X0_worthBy_33 : ok_S 3 33 (sf_cu [(3, 46), (4, 46)] [2, 0, 0, 0, 0] 36) := ok_cu (x := ⟨"RoomNumbers$Broken", "grown", "(IIII)I"⟩) (ow := "RoomNumbers$Note") ⟨tw_606, tw_607, tw_611, ⟨_, _, _, tw_612⟩, mh_ok rfl, (by decide +kernel)⟩ (List.forall_mem_cons.mpr ⟨⟨"RoomNumbers$Broken", cl_3, mt_46, tw_609, tw_611, tw_14, by decide, by decide⟩, (List.forall_mem_cons.mpr ⟨⟨"RoomNumbers$Left", cl_4, mt_46, tw_610, tw_611, tw_14, by decide, by decide⟩, (fun _ h => absurd h List.not_mem_nil)⟩)⟩) (by decide +kernel : decode (mb_ 3) 33 = .ok (.invokevirtual 23, 3)) rfl
theorem ok_X0_worthBy_36 : ok_S 3 36 (sf_ret 0) := ok_ret0 (by decide +kernel : decode (mb_ 3) 36 = .ok (.ireturn, 1)) rfl
theorem ok_X0_worthBy (pc : Nat) : ok_S 3 pc (cd_X0_worthBy pc) :=
  (ok_bf (ok_bf (ok_bf (ok_bf (ok_bf (ok_lf pc ok_X0_worthBy_36) (ok_lf pc ok_X0_worthBy_33)) (ok_lf pc ok_X0_worthBy_32)) (ok_bf (ok_bf (ok_lf pc ok_X0_worthBy_29) (ok_lf pc ok_X0_worthBy_28)) (ok_lf pc ok_X0_worthBy_27))) (ok_bf (ok_bf (ok_bf (ok_lf pc ok_X0_worthBy_24) (ok_lf pc ok_X0_worthBy_23)) (ok_lf pc ok_X0_worthBy_22)) (ok_bf (ok_bf (ok_lf pc ok_X0_worthBy_19) (ok_lf pc ok_X0_worthBy_18)) (ok_lf pc ok_X0_worthBy_17)))) (ok_bf (ok_bf (ok_bf (ok_bf (ok_lf pc ok_X0_worthBy_16) (ok_lf pc ok_X0_worthBy_15)) (ok_lf pc ok_X0_worthBy_14)) (ok_bf (ok_bf (ok_lf pc ok_X0_worthBy_13) (ok_lf pc ok_X0_worthBy_12)) (ok_lf pc ok_X0_worthBy_9))) (ok_bf (ok_bf (ok_bf (ok_lf pc ok_X0_worthBy_8) (ok_lf pc ok_X0_worthBy_5)) (ok_lf pc ok_X0_worthBy_4)) (ok_bf (ok_lf pc ok_X0_worthBy_1) (ok_lf pc ok_X0_worthBy_0)))))
theorem mo_X0_worthBy (pc : Nat) : mo_S (cd_X0_worthBy pc) :=
  (mo_bf (mo_bf (mo_bf (mo_bf (mo_bf (mo_bf mo_ret mo_no) (mo_bf mo_cu mo_no)) (mo_bf mo_alen mo_no)) (mo_bf (mo_bf (mo_bf mo_gr mo_no) (mo_bf mo_ld mo_no)) (mo_bf mo_ld mo_no))) (mo_bf (mo_bf (mo_bf (mo_bf mo_cu mo_no) (mo_bf mo_ld mo_no)) (mo_bf mo_ld mo_no)) (mo_bf (mo_bf (mo_bf mo_cu mo_no) (mo_bf mo_ld mo_no)) (mo_bf mo_push mo_no)))) (mo_bf (mo_bf (mo_bf (mo_bf (mo_bf mo_ld mo_no) (mo_bf mo_push mo_no)) (mo_bf mo_ld mo_no)) (mo_bf (mo_bf (mo_bf mo_ld mo_no) (mo_bf mo_st mo_no)) (mo_bf mo_m2 mo_no))) (mo_bf (mo_bf (mo_bf (mo_bf mo_alen mo_no) (mo_bf mo_gr mo_no)) (mo_bf mo_ld mo_no)) (mo_bf (mo_bf mo_gi mo_no) (mo_bf mo_ld mo_no)))))
theorem ok_X0_canBeIn_0 : ok_S 4 0 (sf_ld 2 0 1) := ok_aload_n (by decide +kernel : decode (mb_ 4) 0 = .ok (.aload_n 0, 1)) rfl
theorem ok_X0_canBeIn_1 : ok_S 4 1 (sf_gi 1 6 1 4) := ok_gi fd_1_1 (by decide +kernel : decode (mb_ 4) 1 = .ok (.getfield 7, 3)) tw_408 (Or.inr tw_409) rfl
theorem ok_X0_canBeIn_4 : ok_S 4 4 (sf_ld 2 0 5) := ok_aload_n (by decide +kernel : decode (mb_ 4) 4 = .ok (.aload_n 0, 1)) rfl
theorem ok_X0_canBeIn_5 : ok_S 4 5 (sf_gr 1 6 2 8) := ok_gr fd_1_2 (by decide +kernel : decode (mb_ 4) 5 = .ok (.getfield 13, 3)) tw_421 (Or.inr tw_422) rfl
theorem ok_X0_canBeIn_8 : ok_S 4 8 (sf_alen 9) := ok_alen (by decide +kernel : decode (mb_ 4) 8 = .ok (.arraylength, 1))
theorem ok_X0_canBeIn_9 : ok_S 4 9 (sf_m2 mx_min 12) := ok_mmin (by decide +kernel : decode (mb_ 4) 9 = .ok (.invokestatic 17, 3)) tw_605 tw_274 tw_8 tw_275
theorem ok_X0_canBeIn_12 : ok_S 4 12 (sf_st 0 2 13) := ok_istore_n (by decide +kernel : decode (mb_ 4) 12 = .ok (.istore_n 2, 1)) rfl
theorem ok_X0_canBeIn_13 : ok_S 4 13 (sf_ld 2 0 14) := ok_aload_n (by decide +kernel : decode (mb_ 4) 13 = .ok (.aload_n 0, 1)) rfl
theorem ok_X0_canBeIn_14 : ok_S 4 14 (sf_ld 0 1 15) := ok_iload_n (by decide +kernel : decode (mb_ 4) 14 = .ok (.iload_n 1, 1)) rfl
theorem ok_X0_canBeIn_15 : ok_S 4 15 (sf_push (0, 0) 16) := ok_iconst (by decide +kernel : decode (mb_ 4) 15 = .ok (.iconst 0, 1)) ⟨by decide, by decide⟩
theorem ok_X0_canBeIn_16 : ok_S 4 16 (sf_ld 0 2 17) := ok_iload_n (by decide +kernel : decode (mb_ 4) 16 = .ok (.iload_n 2, 1)) rfl
theorem ok_X0_canBeIn_17 : ok_S 4 17 (sf_cu [(3, 47), (4, 47)] [2, 0, 0, 0] 20) := ok_cu (x := ⟨"RoomNumbers$Broken", "allBelow", "(III)Z"⟩) (ow := "RoomNumbers$Note") ⟨tw_655, tw_656, tw_660, ⟨_, _, _, tw_661⟩, mh_ok rfl, (by decide +kernel)⟩ (List.forall_mem_cons.mpr ⟨⟨"RoomNumbers$Broken", cl_3, mt_47, tw_658, tw_660, tw_14, by decide, by decide⟩, (List.forall_mem_cons.mpr ⟨⟨"RoomNumbers$Left", cl_4, mt_47, tw_659, tw_660, tw_14, by decide, by decide⟩, (fun _ h => absurd h List.not_mem_nil)⟩)⟩) (by decide +kernel : decode (mb_ 4) 17 = .ok (.invokevirtual 31, 3)) rfl
theorem ok_X0_canBeIn_20 : ok_S 4 20 (sf_if 0 45 23) := ok_if0 (by decide +kernel : decode (mb_ 4) 20 = .ok (.ifCond .eq 25, 3)) (by decide)
theorem ok_X0_canBeIn_23 : ok_S 4 23 (sf_ld 2 0 24) := ok_aload_n (by decide +kernel : decode (mb_ 4) 23 = .ok (.aload_n 0, 1)) rfl
theorem ok_X0_canBeIn_24 : ok_S 4 24 (sf_ld 2 0 25) := ok_aload_n (by decide +kernel : decode (mb_ 4) 24 = .ok (.aload_n 0, 1)) rfl
theorem ok_X0_canBeIn_25 : ok_S 4 25 (sf_ld 0 1 26) := ok_iload_n (by decide +kernel : decode (mb_ 4) 25 = .ok (.iload_n 1, 1)) rfl
theorem ok_X0_canBeIn_26 : ok_S 4 26 (sf_cu [(3, 2), (4, 35)] [2, 0] 29) := ok_cu (x := ⟨"RoomNumbers$Broken", "baseBehind", "(I)I"⟩) (ow := "RoomNumbers$Broken") ⟨tw_613, tw_616, tw_614, ⟨_, _, _, tw_620⟩, mh_ok rfl, (by decide +kernel)⟩ (List.forall_mem_cons.mpr ⟨⟨"RoomNumbers$Broken", cl_3, mt_2, tw_615, tw_614, tw_16, by decide, by decide⟩, (List.forall_mem_cons.mpr ⟨⟨"RoomNumbers$Left", cl_4, mt_35, tw_617, tw_618, tw_17, by decide, by decide⟩, (fun _ h => absurd h List.not_mem_nil)⟩)⟩) (by decide +kernel : decode (mb_ 4) 26 = .ok (.invokevirtual 27, 3)) rfl
theorem ok_X0_canBeIn_29 : ok_S 4 29 (sf_ld 0 2 30) := ok_iload_n (by decide +kernel : decode (mb_ 4) 29 = .ok (.iload_n 2, 1)) rfl
theorem ok_X0_canBeIn_30 : ok_S 4 30 (sf_ld 2 0 31) := ok_aload_n (by decide +kernel : decode (mb_ 4) 30 = .ok (.aload_n 0, 1)) rfl
theorem ok_X0_canBeIn_31 : ok_S 4 31 (sf_gr 1 6 2 34) := ok_gr fd_1_2 (by decide +kernel : decode (mb_ 4) 31 = .ok (.getfield 13, 3)) tw_421 (Or.inr tw_422) rfl
theorem ok_X0_canBeIn_34 : ok_S 4 34 (sf_alen 35) := ok_alen (by decide +kernel : decode (mb_ 4) 34 = .ok (.arraylength, 1))
theorem ok_X0_canBeIn_35 : ok_S 4 35 (sf_cu [(3, 47), (4, 47)] [2, 0, 0, 0] 38) := ok_cu (x := ⟨"RoomNumbers$Broken", "allBelow", "(III)Z"⟩) (ow := "RoomNumbers$Note") ⟨tw_655, tw_656, tw_660, ⟨_, _, _, tw_661⟩, mh_ok rfl, (by decide +kernel)⟩ (List.forall_mem_cons.mpr ⟨⟨"RoomNumbers$Broken", cl_3, mt_47, tw_658, tw_660, tw_14, by decide, by decide⟩, (List.forall_mem_cons.mpr ⟨⟨"RoomNumbers$Left", cl_4, mt_47, tw_659, tw_660, tw_14, by decide, by decide⟩, (fun _ h => absurd h List.not_mem_nil)⟩)⟩) (by decide +kernel : decode (mb_ 4) 35 = .ok (.invokevirtual 31, 3)) rfl
theorem ok_X0_canBeIn_38 : ok_S 4 38 (sf_if 0 45 41) := ok_if0 (by decide +kernel : decode (mb_ 4) 38 = .ok (.ifCond .eq 7, 3)) (by decide)
theorem ok_X0_canBeIn_41 : ok_S 4 41 (sf_push (0, 1) 42) := ok_iconst (by decide +kernel : decode (mb_ 4) 41 = .ok (.iconst 1, 1)) ⟨by decide, by decide⟩
theorem ok_X0_canBeIn_42 : ok_S 4 42 (sf_go 46) := ok_goto (by decide +kernel : decode (mb_ 4) 42 = .ok (.goto 4, 3)) (by decide)
theorem ok_X0_canBeIn_45 : ok_S 4 45 (sf_push (0, 0) 46) := ok_iconst (by decide +kernel : decode (mb_ 4) 45 = .ok (.iconst 0, 1)) ⟨by decide, by decide⟩
theorem ok_X0_canBeIn_46 : ok_S 4 46 (sf_rr 0 1) := ok_rr (by decide +kernel : decode (mb_ 4) 46 = .ok (.ireturn, 1)) rfl (so_nz .boolean rfl rfl)
theorem ok_X0_canBeIn (pc : Nat) : ok_S 4 pc (cd_X0_canBeIn pc) :=
  (ok_bf (ok_bf (ok_bf (ok_bf (ok_bf (ok_lf pc ok_X0_canBeIn_46) (ok_lf pc ok_X0_canBeIn_45)) (ok_bf (ok_lf pc ok_X0_canBeIn_42) (ok_lf pc ok_X0_canBeIn_41))) (ok_bf (ok_bf (ok_lf pc ok_X0_canBeIn_38) (ok_lf pc ok_X0_canBeIn_35)) (ok_lf pc ok_X0_canBeIn_34))) (ok_bf (ok_bf (ok_bf (ok_lf pc ok_X0_canBeIn_31) (ok_lf pc ok_X0_canBeIn_30)) (ok_bf (ok_lf pc ok_X0_canBeIn_29) (ok_lf pc ok_X0_canBeIn_26))) (ok_bf (ok_bf (ok_lf pc ok_X0_canBeIn_25) (ok_lf pc ok_X0_canBeIn_24)) (ok_lf pc ok_X0_canBeIn_23)))) (ok_bf (ok_bf (ok_bf (ok_bf (ok_lf pc ok_X0_canBeIn_20) (ok_lf pc ok_X0_canBeIn_17)) (ok_bf (ok_lf pc ok_X0_canBeIn_16) (ok_lf pc ok_X0_canBeIn_15))) (ok_bf (ok_bf (ok_lf pc ok_X0_canBeIn_14) (ok_lf pc ok_X0_canBeIn_13)) (ok_lf pc ok_X0_canBeIn_12))) (ok_bf (ok_bf (ok_bf (ok_lf pc ok_X0_canBeIn_9) (ok_lf pc ok_X0_canBeIn_8)) (ok_lf pc ok_X0_canBeIn_5)) (ok_bf (ok_bf (ok_lf pc ok_X0_canBeIn_4) (ok_lf pc ok_X0_canBeIn_1)) (ok_lf pc ok_X0_canBeIn_0)))))
theorem mo_X0_canBeIn (pc : Nat) : mo_S (cd_X0_canBeIn pc) :=
  (mo_bf (mo_bf (mo_bf (mo_bf (mo_bf (mo_bf mo_rr mo_no) (mo_bf mo_push mo_no)) (mo_bf (mo_bf mo_go mo_no) (mo_bf mo_push mo_no))) (mo_bf (mo_bf (mo_bf mo_if mo_no) (mo_bf mo_cu mo_no)) (mo_bf mo_alen mo_no))) (mo_bf (mo_bf (mo_bf (mo_bf mo_gr mo_no) (mo_bf mo_ld mo_no)) (mo_bf (mo_bf mo_ld mo_no) (mo_bf mo_cu mo_no))) (mo_bf (mo_bf (mo_bf mo_ld mo_no) (mo_bf mo_ld mo_no)) (mo_bf mo_ld mo_no)))) (mo_bf (mo_bf (mo_bf (mo_bf (mo_bf mo_if mo_no) (mo_bf mo_cu mo_no)) (mo_bf (mo_bf mo_ld mo_no) (mo_bf mo_push mo_no))) (mo_bf (mo_bf (mo_bf mo_ld mo_no) (mo_bf mo_ld mo_no)) (mo_bf mo_st mo_no))) (mo_bf (mo_bf (mo_bf (mo_bf mo_m2 mo_no) (mo_bf mo_alen mo_no)) (mo_bf mo_gr mo_no)) (mo_bf (mo_bf (mo_bf mo_ld mo_no) (mo_bf mo_gi mo_no)) (mo_bf mo_ld mo_no)))))
theorem ok_X0_reads_0 : ok_S 5 0 (sf_ld 2 2 1) := ok_aload_n (by decide +kernel : decode (mb_ 5) 0 = .ok (.aload_n 2, 1)) rfl
theorem ok_X0_reads_1 : ok_S 5 1 (sf_gr 11 11 0 4) := ok_gr fd_11_0 (by decide +kernel : decode (mb_ 5) 1 = .ok (.getfield 35, 3)) tw_186 (Or.inl rfl) rfl
theorem ok_X0_reads_4 : ok_S 5 4 (sf_ld 2 2 5) := ok_aload_n (by decide +kernel : decode (mb_ 5) 4 = .ok (.aload_n 2, 1)) rfl
theorem ok_X0_reads_5 : ok_S 5 5 (sf_dup 6) := ok_dup (by decide +kernel : decode (mb_ 5) 5 = .ok (.dup, 1))
theorem ok_X0_reads_6 : ok_S 5 6 (sf_gi 11 11 1 9) := ok_gi fd_11_1 (by decide +kernel : decode (mb_ 5) 6 = .ok (.getfield 40, 3)) tw_194 (Or.inl rfl) rfl
theorem ok_X0_reads_9 : ok_S 5 9 (sf_dx1 10) := ok_dx1 (by decide +kernel : decode (mb_ 5) 9 = .ok (.dup_x1, 1))
theorem ok_X0_reads_10 : ok_S 5 10 (sf_push (0, 1) 11) := ok_iconst (by decide +kernel : decode (mb_ 5) 10 = .ok (.iconst 1, 1)) ⟨by decide, by decide⟩
theorem ok_X0_reads_11 : ok_S 5 11 (sf_i2 mx_add 12) := ok_iadd (by decide +kernel : decode (mb_ 5) 11 = .ok (.iadd, 1))
theorem ok_X0_reads_12 : ok_S 5 12 (sf_pi 11 11 1 15) := ok_pi fd_11_1 (by decide +kernel : decode (mb_ 5) 12 = .ok (.putfield 40, 3)) tw_194 rfl (Or.inl ff_11_1) rfl
theorem ok_X0_reads_15 : ok_S 5 15 (sf_push (0, 31) 17) := ok_bipush (by decide +kernel : decode (mb_ 5) 15 = .ok (.bipush 31, 2)) ⟨by decide, by decide⟩ (by decide +kernel)
theorem ok_X0_reads_17 : ok_S 5 17 (sf_i2 mx_and 18) := ok_iand (by decide +kernel : decode (mb_ 5) 17 = .ok (.iand, 1))
theorem ok_X0_reads_18 : ok_S 5 18 (sf_push (0, 30) 20) := ok_bipush (by decide +kernel : decode (mb_ 5) 18 = .ok (.bipush 30, 2)) ⟨by decide, by decide⟩ (by decide +kernel)
theorem ok_X0_reads_20 : ok_S 5 20 (sf_iast 21) := ok_iast (by decide +kernel : decode (mb_ 5) 20 = .ok (.iastore, 1))
theorem ok_X0_reads_21 : ok_S 5 21 (sf_ld 2 0 22) := ok_aload_n (by decide +kernel : decode (mb_ 5) 21 = .ok (.aload_n 0, 1)) rfl
theorem ok_X0_reads_22 : ok_S 5 22 (sf_ld 0 1 23) := ok_iload_n (by decide +kernel : decode (mb_ 5) 22 = .ok (.iload_n 1, 1)) rfl
theorem ok_X0_reads_23 : ok_S 5 23 (sf_ld 2 2 24) := ok_aload_n (by decide +kernel : decode (mb_ 5) 23 = .ok (.aload_n 2, 1)) rfl
theorem ok_X0_reads_24 : ok_S 5 24 (sf_ci 1 6 [2, 0, 2] 48 27) := ok_csu (x := ⟨"RoomNumbers$Note", "reads", "(ILRoomNumbers$Trace;)I"⟩) (ow := "RoomNumbers$Note") mt_48 rfl (by decide +kernel : decode (mb_ 5) 24 = .ok (.invokespecial 43, 3)) tw_1010 tw_1006 tw_449 (Or.inl rfl) tw_1004 tw_14 (by decide) rfl (by decide +kernel) (by decide) (by decide) cl_16
theorem ok_X0_reads_27 : ok_S 5 27 (sf_push (0, 3) 28) := ok_iconst (by decide +kernel : decode (mb_ 5) 27 = .ok (.iconst 3, 1)) ⟨by decide, by decide⟩
theorem ok_X0_reads_28 : ok_S 5 28 (sf_i2 mx_mul 29) := ok_imul (by decide +kernel : decode (mb_ 5) 28 = .ok (.imul, 1))
theorem ok_X0_reads_29 : ok_S 5 29 (sf_ret 0) := ok_ret0 (by decide +kernel : decode (mb_ 5) 29 = .ok (.ireturn, 1)) rfl
theorem ok_X0_reads (pc : Nat) : ok_S 5 pc (cd_X0_reads pc) :=
  (ok_bf (ok_bf (ok_bf (ok_bf (ok_bf (ok_lf pc ok_X0_reads_29) (ok_lf pc ok_X0_reads_28)) (ok_lf pc ok_X0_reads_27)) (ok_bf (ok_lf pc ok_X0_reads_24) (ok_lf pc ok_X0_reads_23))) (ok_bf (ok_bf (ok_bf (ok_lf pc ok_X0_reads_22) (ok_lf pc ok_X0_reads_21)) (ok_lf pc ok_X0_reads_20)) (ok_bf (ok_lf pc ok_X0_reads_18) (ok_lf pc ok_X0_reads_17)))) (ok_bf (ok_bf (ok_bf (ok_bf (ok_lf pc ok_X0_reads_15) (ok_lf pc ok_X0_reads_12)) (ok_lf pc ok_X0_reads_11)) (ok_bf (ok_lf pc ok_X0_reads_10) (ok_lf pc ok_X0_reads_9))) (ok_bf (ok_bf (ok_bf (ok_lf pc ok_X0_reads_6) (ok_lf pc ok_X0_reads_5)) (ok_lf pc ok_X0_reads_4)) (ok_bf (ok_lf pc ok_X0_reads_1) (ok_lf pc ok_X0_reads_0)))))
theorem mo_X0_reads (pc : Nat) : mo_S (cd_X0_reads pc) :=
  (mo_bf (mo_bf (mo_bf (mo_bf (mo_bf (mo_bf mo_ret mo_no) (mo_bf mo_i2 mo_no)) (mo_bf mo_push mo_no)) (mo_bf (mo_bf mo_ci mo_no) (mo_bf mo_ld mo_no))) (mo_bf (mo_bf (mo_bf (mo_bf mo_ld mo_no) (mo_bf mo_ld mo_no)) (mo_bf mo_iast mo_no)) (mo_bf (mo_bf mo_push mo_no) (mo_bf mo_i2 mo_no)))) (mo_bf (mo_bf (mo_bf (mo_bf (mo_bf mo_push mo_no) (mo_bf mo_pi mo_no)) (mo_bf mo_i2 mo_no)) (mo_bf (mo_bf mo_push mo_no) (mo_bf mo_dx1 mo_no))) (mo_bf (mo_bf (mo_bf (mo_bf mo_gi mo_no) (mo_bf mo_dup mo_no)) (mo_bf mo_ld mo_no)) (mo_bf (mo_bf mo_gr mo_no) (mo_bf mo_ld mo_no)))))
theorem ok_X0_tells_0 : ok_S 6 0 (sf_ld 2 2 1) := ok_aload_n (by decide +kernel : decode (mb_ 6) 0 = .ok (.aload_n 2, 1)) rfl
theorem ok_X0_tells_1 : ok_S 6 1 (sf_gr 11 11 0 4) := ok_gr fd_11_0 (by decide +kernel : decode (mb_ 6) 1 = .ok (.getfield 35, 3)) tw_186 (Or.inl rfl) rfl
theorem ok_X0_tells_4 : ok_S 6 4 (sf_ld 2 2 5) := ok_aload_n (by decide +kernel : decode (mb_ 6) 4 = .ok (.aload_n 2, 1)) rfl
theorem ok_X0_tells_5 : ok_S 6 5 (sf_dup 6) := ok_dup (by decide +kernel : decode (mb_ 6) 5 = .ok (.dup, 1))
theorem ok_X0_tells_6 : ok_S 6 6 (sf_gi 11 11 1 9) := ok_gi fd_11_1 (by decide +kernel : decode (mb_ 6) 6 = .ok (.getfield 40, 3)) tw_194 (Or.inl rfl) rfl
theorem ok_X0_tells_9 : ok_S 6 9 (sf_dx1 10) := ok_dx1 (by decide +kernel : decode (mb_ 6) 9 = .ok (.dup_x1, 1))
theorem ok_X0_tells_10 : ok_S 6 10 (sf_push (0, 1) 11) := ok_iconst (by decide +kernel : decode (mb_ 6) 10 = .ok (.iconst 1, 1)) ⟨by decide, by decide⟩
theorem ok_X0_tells_11 : ok_S 6 11 (sf_i2 mx_add 12) := ok_iadd (by decide +kernel : decode (mb_ 6) 11 = .ok (.iadd, 1))
theorem ok_X0_tells_12 : ok_S 6 12 (sf_pi 11 11 1 15) := ok_pi fd_11_1 (by decide +kernel : decode (mb_ 6) 12 = .ok (.putfield 40, 3)) tw_194 rfl (Or.inl ff_11_1) rfl
theorem ok_X0_tells_15 : ok_S 6 15 (sf_push (0, 31) 17) := ok_bipush (by decide +kernel : decode (mb_ 6) 15 = .ok (.bipush 31, 2)) ⟨by decide, by decide⟩ (by decide +kernel)
theorem ok_X0_tells_17 : ok_S 6 17 (sf_i2 mx_and 18) := ok_iand (by decide +kernel : decode (mb_ 6) 17 = .ok (.iand, 1))
theorem ok_X0_tells_18 : ok_S 6 18 (sf_push (0, 31) 20) := ok_bipush (by decide +kernel : decode (mb_ 6) 18 = .ok (.bipush 31, 2)) ⟨by decide, by decide⟩ (by decide +kernel)
theorem ok_X0_tells_20 : ok_S 6 20 (sf_iast 21) := ok_iast (by decide +kernel : decode (mb_ 6) 20 = .ok (.iastore, 1))
theorem ok_X0_tells_21 : ok_S 6 21 (sf_ld 2 0 22) := ok_aload_n (by decide +kernel : decode (mb_ 6) 21 = .ok (.aload_n 0, 1)) rfl
theorem ok_X0_tells_22 : ok_S 6 22 (sf_ld 0 1 23) := ok_iload_n (by decide +kernel : decode (mb_ 6) 22 = .ok (.iload_n 1, 1)) rfl
theorem ok_X0_tells_23 : ok_S 6 23 (sf_ld 2 2 24) := ok_aload_n (by decide +kernel : decode (mb_ 6) 23 = .ok (.aload_n 2, 1)) rfl
theorem ok_X0_tells_24 : ok_S 6 24 (sf_ci 1 6 [2, 0, 2] 51 27) := ok_csu (x := ⟨"RoomNumbers$Note", "tells", "(ILRoomNumbers$Trace;)I"⟩) (ow := "RoomNumbers$Note") mt_51 rfl (by decide +kernel : decode (mb_ 6) 24 = .ok (.invokespecial 47, 3)) tw_1076 tw_1072 tw_449 (Or.inl rfl) tw_1070 tw_14 (by decide) rfl (by decide +kernel) (by decide) (by decide) cl_16
theorem ok_X0_tells_27 : ok_S 6 27 (sf_ld 2 0 28) := ok_aload_n (by decide +kernel : decode (mb_ 6) 27 = .ok (.aload_n 0, 1)) rfl
theorem ok_X0_tells_28 : ok_S 6 28 (sf_ld 2 0 29) := ok_aload_n (by decide +kernel : decode (mb_ 6) 28 = .ok (.aload_n 0, 1)) rfl
theorem ok_X0_tells_29 : ok_S 6 29 (sf_gi 1 6 0 32) := ok_gi fd_1_0 (by decide +kernel : decode (mb_ 6) 29 = .ok (.getfield 50, 3)) tw_402 (Or.inr tw_403) rfl
theorem ok_X0_tells_32 : ok_S 6 32 (sf_ld 2 2 33) := ok_aload_n (by decide +kernel : decode (mb_ 6) 32 = .ok (.aload_n 2, 1)) rfl
theorem ok_X0_tells_33 : ok_S 6 33 (sf_cu [(3, 50), (4, 50)] [2, 0, 2] 36) := ok_cu (x := ⟨"RoomNumbers$Broken", "shares", "(ILRoomNumbers$Trace;)I"⟩) (ow := "RoomNumbers$Note") ⟨tw_1077, tw_1078, tw_1045, ⟨_, _, _, tw_1064⟩, mh_ok rfl, (by decide +kernel)⟩ (List.forall_mem_cons.mpr ⟨⟨"RoomNumbers$Broken", cl_3, mt_50, tw_1079, tw_1045, tw_14, by decide, by decide⟩, (List.forall_mem_cons.mpr ⟨⟨"RoomNumbers$Left", cl_4, mt_50, tw_1080, tw_1045, tw_14, by decide, by decide⟩, (fun _ h => absurd h List.not_mem_nil)⟩)⟩) (by decide +kernel : decode (mb_ 6) 33 = .ok (.invokevirtual 53, 3)) rfl
theorem ok_X0_tells_36 : ok_S 6 36 (sf_i2 mx_add 37) := ok_iadd (by decide +kernel : decode (mb_ 6) 36 = .ok (.iadd, 1))
theorem ok_X0_tells_37 : ok_S 6 37 (sf_ret 0) := ok_ret0 (by decide +kernel : decode (mb_ 6) 37 = .ok (.ireturn, 1)) rfl
theorem ok_X0_tells (pc : Nat) : ok_S 6 pc (cd_X0_tells pc) :=
  (ok_bf (ok_bf (ok_bf (ok_bf (ok_bf (ok_lf pc ok_X0_tells_37) (ok_lf pc ok_X0_tells_36)) (ok_lf pc ok_X0_tells_33)) (ok_bf (ok_bf (ok_lf pc ok_X0_tells_32) (ok_lf pc ok_X0_tells_29)) (ok_lf pc ok_X0_tells_28))) (ok_bf (ok_bf (ok_bf (ok_lf pc ok_X0_tells_27) (ok_lf pc ok_X0_tells_24)) (ok_lf pc ok_X0_tells_23)) (ok_bf (ok_bf (ok_lf pc ok_X0_tells_22) (ok_lf pc ok_X0_tells_21)) (ok_lf pc ok_X0_tells_20)))) (ok_bf (ok_bf (ok_bf (ok_bf (ok_lf pc ok_X0_tells_18) (ok_lf pc ok_X0_tells_17)) (ok_lf pc ok_X0_tells_15)) (ok_bf (ok_bf (ok_lf pc ok_X0_tells_12) (ok_lf pc ok_X0_tells_11)) (ok_lf pc ok_X0_tells_10))) (ok_bf (ok_bf (ok_bf (ok_lf pc ok_X0_tells_9) (ok_lf pc ok_X0_tells_6)) (ok_lf pc ok_X0_tells_5)) (ok_bf (ok_bf (ok_lf pc ok_X0_tells_4) (ok_lf pc ok_X0_tells_1)) (ok_lf pc ok_X0_tells_0)))))
theorem mo_X0_tells (pc : Nat) : mo_S (cd_X0_tells pc) :=
  (mo_bf (mo_bf (mo_bf (mo_bf (mo_bf (mo_bf mo_ret mo_no) (mo_bf mo_i2 mo_no)) (mo_bf mo_cu mo_no)) (mo_bf (mo_bf (mo_bf mo_ld mo_no) (mo_bf mo_gi mo_no)) (mo_bf mo_ld mo_no))) (mo_bf (mo_bf (mo_bf (mo_bf mo_ld mo_no) (mo_bf mo_ci mo_no)) (mo_bf mo_ld mo_no)) (mo_bf (mo_bf (mo_bf mo_ld mo_no) (mo_bf mo_ld mo_no)) (mo_bf mo_iast mo_no)))) (mo_bf (mo_bf (mo_bf (mo_bf (mo_bf mo_push mo_no) (mo_bf mo_i2 mo_no)) (mo_bf mo_push mo_no)) (mo_bf (mo_bf (mo_bf mo_pi mo_no) (mo_bf mo_i2 mo_no)) (mo_bf mo_push mo_no))) (mo_bf (mo_bf (mo_bf (mo_bf mo_dx1 mo_no) (mo_bf mo_gi mo_no)) (mo_bf mo_dup mo_no)) (mo_bf (mo_bf (mo_bf mo_ld mo_no) (mo_bf mo_gr mo_no)) (mo_bf mo_ld mo_no)))))
theorem ok_X1_init_0 : ok_S 7 0 (sf_ld 2 0 1) := ok_aload_n (by decide +kernel : decode (mb_ 7) 0 = .ok (.aload_n 0, 1)) rfl
theorem ok_X1_init_1 : ok_S 7 1 (sf_ld 0 1 2) := ok_iload_n (by decide +kernel : decode (mb_ 7) 1 = .ok (.iload_n 1, 1)) rfl
theorem ok_X1_init_2 : ok_S 7 2 (sf_ld 0 2 3) := ok_iload_n (by decide +kernel : decode (mb_ 7) 2 = .ok (.iload_n 2, 1)) rfl
theorem ok_X1_init_3 : ok_S 7 3 (sf_ld 0 3 4) := ok_iload_n (by decide +kernel : decode (mb_ 7) 3 = .ok (.iload_n 3, 1)) rfl
theorem ok_X1_init_4 : ok_S 7 4 (sf_ld 2 4 6) := ok_aload (by decide +kernel : decode (mb_ 7) 4 = .ok (.aload 4, 2))
theorem ok_X1_init_6 : ok_S 7 6 (sf_ci 1 6 [2, 0, 0, 0, 2] 54 9) := ok_ci mt_54 (by decide) (by decide) (by decide +kernel : decode (mb_ 7) 6 = .ok (.invokespecial 1, 3)) tw_477 tw_391 tw_15 rfl rfl rfl (by decide +kernel) (mh_ok rfl) (by decide) (by decide)
theorem ok_X1_init_9 : ok_S 7 9 (sf_retv) := ok_retv (by decide +kernel : decode (mb_ 7) 9 = .ok (.return_, 1)) rfl
theorem ok_X1_init (pc : Nat) : ok_S 7 pc (cd_X1_init pc) :=
  (ok_bf (ok_bf (ok_bf (ok_lf pc ok_X1_init_9) (ok_lf pc ok_X1_init_6)) (ok_bf (ok_lf pc ok_X1_init_4) (ok_lf pc ok_X1_init_3))) (ok_bf (ok_bf (ok_lf pc ok_X1_init_2) (ok_lf pc ok_X1_init_1)) (ok_lf pc ok_X1_init_0)))
theorem mo_X1_init (pc : Nat) : mo_S (cd_X1_init pc) :=
  (mo_bf (mo_bf (mo_bf (mo_bf mo_retv mo_no) (mo_bf mo_ci mo_no)) (mo_bf (mo_bf mo_ld mo_no) (mo_bf mo_ld mo_no))) (mo_bf (mo_bf (mo_bf mo_ld mo_no) (mo_bf mo_ld mo_no)) (mo_bf mo_ld mo_no)))
theorem ok_X1_kind_0 : ok_S 8 0 (sf_push (0, 5) 1) := ok_iconst (by decide +kernel : decode (mb_ 8) 0 = .ok (.iconst 5, 1)) ⟨by decide, by decide⟩
theorem ok_X1_kind_1 : ok_S 8 1 (sf_ret 0) := ok_ret0 (by decide +kernel : decode (mb_ 8) 1 = .ok (.ireturn, 1)) rfl
theorem ok_X1_kind (pc : Nat) : ok_S 8 pc (cd_X1_kind pc) :=
  (ok_bf (ok_lf pc ok_X1_kind_1) (ok_lf pc ok_X1_kind_0))
theorem mo_X1_kind (pc : Nat) : mo_S (cd_X1_kind pc) :=
  (mo_bf (mo_bf mo_ret mo_no) (mo_bf mo_push mo_no))
theorem ok_X1_worthBy_0 : ok_S 9 0 (sf_push (0, 0) 1) := ok_iconst (by decide +kernel : decode (mb_ 9) 0 = .ok (.iconst 0, 1)) ⟨by decide, by decide⟩
theorem ok_X1_worthBy_1 : ok_S 9 1 (sf_ld 2 0 2) := ok_aload_n (by decide +kernel : decode (mb_ 9) 1 = .ok (.aload_n 0, 1)) rfl
theorem ok_X1_worthBy_2 : ok_S 9 2 (sf_ld 0 1 3) := ok_iload_n (by decide +kernel : decode (mb_ 9) 2 = .ok (.iload_n 1, 1)) rfl
theorem ok_X1_worthBy_3 : ok_S 9 3 (sf_ci 1 6 [2, 0] 56 6) := ok_csu (x := ⟨"RoomNumbers$Strokes", "worthBy", "(I)I"⟩) (ow := "RoomNumbers$Strokes") mt_56 rfl (by decide +kernel : decode (mb_ 9) 3 = .ok (.invokespecial 7, 3)) tw_624 tw_1581 tw_482 (Or.inl rfl) tw_625 tw_15 (by decide) rfl (by decide +kernel) (by decide) (by decide) cl_16
theorem ok_X1_worthBy_6 : ok_S 9 6 (sf_i2 mx_sub 7) := ok_isub (by decide +kernel : decode (mb_ 9) 6 = .ok (.isub, 1))
theorem ok_X1_worthBy_7 : ok_S 9 7 (sf_ret 0) := ok_ret0 (by decide +kernel : decode (mb_ 9) 7 = .ok (.ireturn, 1)) rfl
theorem ok_X1_worthBy (pc : Nat) : ok_S 9 pc (cd_X1_worthBy pc) :=
  (ok_bf (ok_bf (ok_bf (ok_lf pc ok_X1_worthBy_7) (ok_lf pc ok_X1_worthBy_6)) (ok_lf pc ok_X1_worthBy_3)) (ok_bf (ok_bf (ok_lf pc ok_X1_worthBy_2) (ok_lf pc ok_X1_worthBy_1)) (ok_lf pc ok_X1_worthBy_0)))
theorem mo_X1_worthBy (pc : Nat) : mo_S (cd_X1_worthBy pc) :=
  (mo_bf (mo_bf (mo_bf (mo_bf mo_ret mo_no) (mo_bf mo_i2 mo_no)) (mo_bf mo_ci mo_no)) (mo_bf (mo_bf (mo_bf mo_ld mo_no) (mo_bf mo_ld mo_no)) (mo_bf mo_push mo_no)))
theorem ok_X1_shares_0 : ok_S 10 0 (sf_ld 2 2 1) := ok_aload_n (by decide +kernel : decode (mb_ 10) 0 = .ok (.aload_n 2, 1)) rfl
theorem ok_X1_shares_1 : ok_S 10 1 (sf_gr 11 11 0 4) := ok_gr fd_11_0 (by decide +kernel : decode (mb_ 10) 1 = .ok (.getfield 11, 3)) tw_183 (Or.inl rfl) rfl
theorem ok_X1_shares_4 : ok_S 10 4 (sf_ld 2 2 5) := ok_aload_n (by decide +kernel : decode (mb_ 10) 4 = .ok (.aload_n 2, 1)) rfl
theorem ok_X1_shares_5 : ok_S 10 5 (sf_dup 6) := ok_dup (by decide +kernel : decode (mb_ 10) 5 = .ok (.dup, 1))
theorem ok_X1_shares_6 : ok_S 10 6 (sf_gi 11 11 1 9) := ok_gi fd_11_1 (by decide +kernel : decode (mb_ 10) 6 = .ok (.getfield 17, 3)) tw_191 (Or.inl rfl) rfl
theorem ok_X1_shares_9 : ok_S 10 9 (sf_dx1 10) := ok_dx1 (by decide +kernel : decode (mb_ 10) 9 = .ok (.dup_x1, 1))
theorem ok_X1_shares_10 : ok_S 10 10 (sf_push (0, 1) 11) := ok_iconst (by decide +kernel : decode (mb_ 10) 10 = .ok (.iconst 1, 1)) ⟨by decide, by decide⟩
theorem ok_X1_shares_11 : ok_S 10 11 (sf_i2 mx_add 12) := ok_iadd (by decide +kernel : decode (mb_ 10) 11 = .ok (.iadd, 1))
theorem ok_X1_shares_12 : ok_S 10 12 (sf_pi 11 11 1 15) := ok_pi fd_11_1 (by decide +kernel : decode (mb_ 10) 12 = .ok (.putfield 17, 3)) tw_191 rfl (Or.inl ff_11_1) rfl
theorem ok_X1_shares_15 : ok_S 10 15 (sf_push (0, 31) 17) := ok_bipush (by decide +kernel : decode (mb_ 10) 15 = .ok (.bipush 31, 2)) ⟨by decide, by decide⟩ (by decide +kernel)
theorem ok_X1_shares_17 : ok_S 10 17 (sf_i2 mx_and 18) := ok_iand (by decide +kernel : decode (mb_ 10) 17 = .ok (.iand, 1))
theorem ok_X1_shares_18 : ok_S 10 18 (sf_push (0, 50) 20) := ok_bipush (by decide +kernel : decode (mb_ 10) 18 = .ok (.bipush 50, 2)) ⟨by decide, by decide⟩ (by decide +kernel)
theorem ok_X1_shares_20 : ok_S 10 20 (sf_iast 21) := ok_iast (by decide +kernel : decode (mb_ 10) 20 = .ok (.iastore, 1))
theorem ok_X1_shares_21 : ok_S 10 21 (sf_ld 2 0 22) := ok_aload_n (by decide +kernel : decode (mb_ 10) 21 = .ok (.aload_n 0, 1)) rfl
theorem ok_X1_shares_22 : ok_S 10 22 (sf_ld 0 1 23) := ok_iload_n (by decide +kernel : decode (mb_ 10) 22 = .ok (.iload_n 1, 1)) rfl
theorem ok_X1_shares_23 : ok_S 10 23 (sf_push (0, 2) 24) := ok_iconst (by decide +kernel : decode (mb_ 10) 23 = .ok (.iconst 2, 1)) ⟨by decide, by decide⟩
theorem ok_X1_shares_24 : ok_S 10 24 (sf_i2 mx_add 25) := ok_iadd (by decide +kernel : decode (mb_ 10) 24 = .ok (.iadd, 1))
theorem ok_X1_shares_25 : ok_S 10 25 (sf_ld 2 2 26) := ok_aload_n (by decide +kernel : decode (mb_ 10) 25 = .ok (.aload_n 2, 1)) rfl
theorem ok_X1_shares_26 : ok_S 10 26 (sf_ci 1 6 [2, 0, 2] 50 29) := ok_csu (x := ⟨"RoomNumbers$Strokes", "shares", "(ILRoomNumbers$Trace;)I"⟩) (ow := "RoomNumbers$Note") mt_50 rfl (by decide +kernel : decode (mb_ 10) 26 = .ok (.invokespecial 21, 3)) tw_1052 tw_1053 tw_482 (Or.inr tw_437) tw_1045 tw_14 (by decide) rfl (by decide +kernel) (by decide) (by decide) cl_16
theorem ok_X1_shares_29 : ok_S 10 29 (sf_push (0, 1) 30) := ok_iconst (by decide +kernel : decode (mb_ 10) 29 = .ok (.iconst 1, 1)) ⟨by decide, by decide⟩
theorem ok_X1_shares_30 : ok_S 10 30 (sf_i2 mx_xor 31) := ok_ixor (by decide +kernel : decode (mb_ 10) 30 = .ok (.ixor, 1))
theorem ok_X1_shares_31 : ok_S 10 31 (sf_ret 0) := ok_ret0 (by decide +kernel : decode (mb_ 10) 31 = .ok (.ireturn, 1)) rfl
theorem ok_X1_shares (pc : Nat) : ok_S 10 pc (cd_X1_shares pc) :=
  (ok_bf (ok_bf (ok_bf (ok_bf (ok_bf (ok_lf pc ok_X1_shares_31) (ok_lf pc ok_X1_shares_30)) (ok_lf pc ok_X1_shares_29)) (ok_bf (ok_bf (ok_lf pc ok_X1_shares_26) (ok_lf pc ok_X1_shares_25)) (ok_lf pc ok_X1_shares_24))) (ok_bf (ok_bf (ok_bf (ok_lf pc ok_X1_shares_23) (ok_lf pc ok_X1_shares_22)) (ok_lf pc ok_X1_shares_21)) (ok_bf (ok_lf pc ok_X1_shares_20) (ok_lf pc ok_X1_shares_18)))) (ok_bf (ok_bf (ok_bf (ok_bf (ok_lf pc ok_X1_shares_17) (ok_lf pc ok_X1_shares_15)) (ok_lf pc ok_X1_shares_12)) (ok_bf (ok_bf (ok_lf pc ok_X1_shares_11) (ok_lf pc ok_X1_shares_10)) (ok_lf pc ok_X1_shares_9))) (ok_bf (ok_bf (ok_bf (ok_lf pc ok_X1_shares_6) (ok_lf pc ok_X1_shares_5)) (ok_lf pc ok_X1_shares_4)) (ok_bf (ok_lf pc ok_X1_shares_1) (ok_lf pc ok_X1_shares_0)))))
theorem mo_X1_shares (pc : Nat) : mo_S (cd_X1_shares pc) :=
  (mo_bf (mo_bf (mo_bf (mo_bf (mo_bf (mo_bf mo_ret mo_no) (mo_bf mo_i2 mo_no)) (mo_bf mo_push mo_no)) (mo_bf (mo_bf (mo_bf mo_ci mo_no) (mo_bf mo_ld mo_no)) (mo_bf mo_i2 mo_no))) (mo_bf (mo_bf (mo_bf (mo_bf mo_push mo_no) (mo_bf mo_ld mo_no)) (mo_bf mo_ld mo_no)) (mo_bf (mo_bf mo_iast mo_no) (mo_bf mo_push mo_no)))) (mo_bf (mo_bf (mo_bf (mo_bf (mo_bf mo_i2 mo_no) (mo_bf mo_push mo_no)) (mo_bf mo_pi mo_no)) (mo_bf (mo_bf (mo_bf mo_i2 mo_no) (mo_bf mo_push mo_no)) (mo_bf mo_dx1 mo_no))) (mo_bf (mo_bf (mo_bf (mo_bf mo_gi mo_no) (mo_bf mo_dup mo_no)) (mo_bf mo_ld mo_no)) (mo_bf (mo_bf mo_gr mo_no) (mo_bf mo_ld mo_no)))))
theorem ok_X1_reads_0 : ok_S 11 0 (sf_ld 2 2 1) := ok_aload_n (by decide +kernel : decode (mb_ 11) 0 = .ok (.aload_n 2, 1)) rfl
theorem ok_X1_reads_1 : ok_S 11 1 (sf_gr 11 11 0 4) := ok_gr fd_11_0 (by decide +kernel : decode (mb_ 11) 1 = .ok (.getfield 11, 3)) tw_183 (Or.inl rfl) rfl
theorem ok_X1_reads_4 : ok_S 11 4 (sf_ld 2 2 5) := ok_aload_n (by decide +kernel : decode (mb_ 11) 4 = .ok (.aload_n 2, 1)) rfl
theorem ok_X1_reads_5 : ok_S 11 5 (sf_dup 6) := ok_dup (by decide +kernel : decode (mb_ 11) 5 = .ok (.dup, 1))
theorem ok_X1_reads_6 : ok_S 11 6 (sf_gi 11 11 1 9) := ok_gi fd_11_1 (by decide +kernel : decode (mb_ 11) 6 = .ok (.getfield 17, 3)) tw_191 (Or.inl rfl) rfl
theorem ok_X1_reads_9 : ok_S 11 9 (sf_dx1 10) := ok_dx1 (by decide +kernel : decode (mb_ 11) 9 = .ok (.dup_x1, 1))
theorem ok_X1_reads_10 : ok_S 11 10 (sf_push (0, 1) 11) := ok_iconst (by decide +kernel : decode (mb_ 11) 10 = .ok (.iconst 1, 1)) ⟨by decide, by decide⟩
theorem ok_X1_reads_11 : ok_S 11 11 (sf_i2 mx_add 12) := ok_iadd (by decide +kernel : decode (mb_ 11) 11 = .ok (.iadd, 1))
theorem ok_X1_reads_12 : ok_S 11 12 (sf_pi 11 11 1 15) := ok_pi fd_11_1 (by decide +kernel : decode (mb_ 11) 12 = .ok (.putfield 17, 3)) tw_191 rfl (Or.inl ff_11_1) rfl
theorem ok_X1_reads_15 : ok_S 11 15 (sf_push (0, 31) 17) := ok_bipush (by decide +kernel : decode (mb_ 11) 15 = .ok (.bipush 31, 2)) ⟨by decide, by decide⟩ (by decide +kernel)
theorem ok_X1_reads_17 : ok_S 11 17 (sf_i2 mx_and 18) := ok_iand (by decide +kernel : decode (mb_ 11) 17 = .ok (.iand, 1))
theorem ok_X1_reads_18 : ok_S 11 18 (sf_push (0, 51) 20) := ok_bipush (by decide +kernel : decode (mb_ 11) 18 = .ok (.bipush 51, 2)) ⟨by decide, by decide⟩ (by decide +kernel)
theorem ok_X1_reads_20 : ok_S 11 20 (sf_iast 21) := ok_iast (by decide +kernel : decode (mb_ 11) 20 = .ok (.iastore, 1))
theorem ok_X1_reads_21 : ok_S 11 21 (sf_ld 2 0 22) := ok_aload_n (by decide +kernel : decode (mb_ 11) 21 = .ok (.aload_n 0, 1)) rfl
theorem ok_X1_reads_22 : ok_S 11 22 (sf_ld 0 1 23) := ok_iload_n (by decide +kernel : decode (mb_ 11) 22 = .ok (.iload_n 1, 1)) rfl
theorem ok_X1_reads_23 : ok_S 11 23 (sf_ld 2 2 24) := ok_aload_n (by decide +kernel : decode (mb_ 11) 23 = .ok (.aload_n 2, 1)) rfl
theorem ok_X1_reads_24 : ok_S 11 24 (sf_ci 1 6 [2, 0, 2] 48 27) := ok_csu (x := ⟨"RoomNumbers$Strokes", "reads", "(ILRoomNumbers$Trace;)I"⟩) (ow := "RoomNumbers$Note") mt_48 rfl (by decide +kernel : decode (mb_ 11) 24 = .ok (.invokespecial 25, 3)) tw_1014 tw_1015 tw_482 (Or.inr tw_437) tw_1004 tw_14 (by decide) rfl (by decide +kernel) (by decide) (by decide) cl_16
theorem ok_X1_reads_27 : ok_S 11 27 (sf_ld 2 0 28) := ok_aload_n (by decide +kernel : decode (mb_ 11) 27 = .ok (.aload_n 0, 1)) rfl
theorem ok_X1_reads_28 : ok_S 11 28 (sf_gi 1 6 0 31) := ok_gi fd_1_0 (by decide +kernel : decode (mb_ 11) 28 = .ok (.getfield 28, 3)) tw_398 (Or.inr tw_399) rfl
theorem ok_X1_reads_31 : ok_S 11 31 (sf_i2 mx_sub 32) := ok_isub (by decide +kernel : decode (mb_ 11) 31 = .ok (.isub, 1))
theorem ok_X1_reads_32 : ok_S 11 32 (sf_ret 0) := ok_ret0 (by decide +kernel : decode (mb_ 11) 32 = .ok (.ireturn, 1)) rfl
theorem ok_X1_reads (pc : Nat) : ok_S 11 pc (cd_X1_reads pc) :=
  (ok_bf (ok_bf (ok_bf (ok_bf (ok_bf (ok_lf pc ok_X1_reads_32) (ok_lf pc ok_X1_reads_31)) (ok_lf pc ok_X1_reads_28)) (ok_bf (ok_bf (ok_lf pc ok_X1_reads_27) (ok_lf pc ok_X1_reads_24)) (ok_lf pc ok_X1_reads_23))) (ok_bf (ok_bf (ok_bf (ok_lf pc ok_X1_reads_22) (ok_lf pc ok_X1_reads_21)) (ok_lf pc ok_X1_reads_20)) (ok_bf (ok_lf pc ok_X1_reads_18) (ok_lf pc ok_X1_reads_17)))) (ok_bf (ok_bf (ok_bf (ok_bf (ok_lf pc ok_X1_reads_15) (ok_lf pc ok_X1_reads_12)) (ok_lf pc ok_X1_reads_11)) (ok_bf (ok_lf pc ok_X1_reads_10) (ok_lf pc ok_X1_reads_9))) (ok_bf (ok_bf (ok_bf (ok_lf pc ok_X1_reads_6) (ok_lf pc ok_X1_reads_5)) (ok_lf pc ok_X1_reads_4)) (ok_bf (ok_lf pc ok_X1_reads_1) (ok_lf pc ok_X1_reads_0)))))
theorem mo_X1_reads (pc : Nat) : mo_S (cd_X1_reads pc) :=
  (mo_bf (mo_bf (mo_bf (mo_bf (mo_bf (mo_bf mo_ret mo_no) (mo_bf mo_i2 mo_no)) (mo_bf mo_gi mo_no)) (mo_bf (mo_bf (mo_bf mo_ld mo_no) (mo_bf mo_ci mo_no)) (mo_bf mo_ld mo_no))) (mo_bf (mo_bf (mo_bf (mo_bf mo_ld mo_no) (mo_bf mo_ld mo_no)) (mo_bf mo_iast mo_no)) (mo_bf (mo_bf mo_push mo_no) (mo_bf mo_i2 mo_no)))) (mo_bf (mo_bf (mo_bf (mo_bf (mo_bf mo_push mo_no) (mo_bf mo_pi mo_no)) (mo_bf mo_i2 mo_no)) (mo_bf (mo_bf mo_push mo_no) (mo_bf mo_dx1 mo_no))) (mo_bf (mo_bf (mo_bf (mo_bf mo_gi mo_no) (mo_bf mo_dup mo_no)) (mo_bf mo_ld mo_no)) (mo_bf (mo_bf mo_gr mo_no) (mo_bf mo_ld mo_no)))))
theorem ok_X3_init_0 : ok_S 33 0 (sf_ld 2 0 1) := ok_aload_n (by decide +kernel : decode (mb_ 33) 0 = .ok (.aload_n 0, 1)) rfl
theorem ok_X3_init_1 : ok_S 33 1 (sf_ld 0 1 2) := ok_iload_n (by decide +kernel : decode (mb_ 33) 1 = .ok (.iload_n 1, 1)) rfl
theorem ok_X3_init_2 : ok_S 33 2 (sf_ld 0 2 3) := ok_iload_n (by decide +kernel : decode (mb_ 33) 2 = .ok (.iload_n 2, 1)) rfl
theorem ok_X3_init_3 : ok_S 33 3 (sf_ld 0 3 4) := ok_iload_n (by decide +kernel : decode (mb_ 33) 3 = .ok (.iload_n 3, 1)) rfl
theorem ok_X3_init_4 : ok_S 33 4 (sf_ld 2 4 6) := ok_aload (by decide +kernel : decode (mb_ 33) 4 = .ok (.aload 4, 2))
theorem ok_X3_init_6 : ok_S 33 6 (sf_ci 1 6 [2, 0, 0, 0, 2] 0 9) := ok_ci mt_0 (by decide) (by decide) (by decide +kernel : decode (mb_ 33) 6 = .ok (.invokespecial 1, 3)) tw_455 tw_442 tw_16 rfl rfl rfl (by decide +kernel) (mh_ok rfl) (by decide) (by decide)
theorem ok_X3_init_9 : ok_S 33 9 (sf_retv) := ok_retv (by decide +kernel : decode (mb_ 33) 9 = .ok (.return_, 1)) rfl
theorem ok_X3_init (pc : Nat) : ok_S 33 pc (cd_X3_init pc) :=
  (ok_bf (ok_bf (ok_bf (ok_lf pc ok_X3_init_9) (ok_lf pc ok_X3_init_6)) (ok_bf (ok_lf pc ok_X3_init_4) (ok_lf pc ok_X3_init_3))) (ok_bf (ok_bf (ok_lf pc ok_X3_init_2) (ok_lf pc ok_X3_init_1)) (ok_lf pc ok_X3_init_0)))
theorem mo_X3_init (pc : Nat) : mo_S (cd_X3_init pc) :=
  (mo_bf (mo_bf (mo_bf (mo_bf mo_retv mo_no) (mo_bf mo_ci mo_no)) (mo_bf (mo_bf mo_ld mo_no) (mo_bf mo_ld mo_no))) (mo_bf (mo_bf (mo_bf mo_ld mo_no) (mo_bf mo_ld mo_no)) (mo_bf mo_ld mo_no)))
theorem ok_X3_kind_0 : ok_S 34 0 (sf_push (0, 3) 1) := ok_iconst (by decide +kernel : decode (mb_ 34) 0 = .ok (.iconst 3, 1)) ⟨by decide, by decide⟩
theorem ok_X3_kind_1 : ok_S 34 1 (sf_ret 0) := ok_ret0 (by decide +kernel : decode (mb_ 34) 1 = .ok (.ireturn, 1)) rfl
theorem ok_X3_kind (pc : Nat) : ok_S 34 pc (cd_X3_kind pc) :=
  (ok_bf (ok_lf pc ok_X3_kind_1) (ok_lf pc ok_X3_kind_0))
theorem mo_X3_kind (pc : Nat) : mo_S (cd_X3_kind pc) :=
  (mo_bf (mo_bf mo_ret mo_no) (mo_bf mo_push mo_no))
theorem ok_X3_baseBehind_0 : ok_S 35 0 (sf_ld 0 1 1) := ok_iload_n (by decide +kernel : decode (mb_ 35) 0 = .ok (.iload_n 1, 1)) rfl
theorem ok_X3_baseBehind_1 : ok_S 35 1 (sf_push (0, 1) 2) := ok_iconst (by decide +kernel : decode (mb_ 35) 1 = .ok (.iconst 1, 1)) ⟨by decide, by decide⟩
theorem ok_X3_baseBehind_2 : ok_S 35 2 (sf_i2 mx_sub 3) := ok_isub (by decide +kernel : decode (mb_ 35) 2 = .ok (.isub, 1))
theorem ok_X3_baseBehind_3 : ok_S 35 3 (sf_ret 0) := ok_ret0 (by decide +kernel : decode (mb_ 35) 3 = .ok (.ireturn, 1)) rfl
theorem ok_X3_baseBehind (pc : Nat) : ok_S 35 pc (cd_X3_baseBehind pc) :=
  (ok_bf (ok_bf (ok_lf pc ok_X3_baseBehind_3) (ok_lf pc ok_X3_baseBehind_2)) (ok_bf (ok_lf pc ok_X3_baseBehind_1) (ok_lf pc ok_X3_baseBehind_0)))
theorem mo_X3_baseBehind (pc : Nat) : mo_S (cd_X3_baseBehind pc) :=
  (mo_bf (mo_bf (mo_bf mo_ret mo_no) (mo_bf mo_i2 mo_no)) (mo_bf (mo_bf mo_push mo_no) (mo_bf mo_ld mo_no)))
theorem ok_X3_reads_0 : ok_S 36 0 (sf_ld 2 2 1) := ok_aload_n (by decide +kernel : decode (mb_ 36) 0 = .ok (.aload_n 2, 1)) rfl
theorem ok_X3_reads_1 : ok_S 36 1 (sf_gr 11 11 0 4) := ok_gr fd_11_0 (by decide +kernel : decode (mb_ 36) 1 = .ok (.getfield 7, 3)) tw_182 (Or.inl rfl) rfl
theorem ok_X3_reads_4 : ok_S 36 4 (sf_ld 2 2 5) := ok_aload_n (by decide +kernel : decode (mb_ 36) 4 = .ok (.aload_n 2, 1)) rfl
theorem ok_X3_reads_5 : ok_S 36 5 (sf_dup 6) := ok_dup (by decide +kernel : decode (mb_ 36) 5 = .ok (.dup, 1))
theorem ok_X3_reads_6 : ok_S 36 6 (sf_gi 11 11 1 9) := ok_gi fd_11_1 (by decide +kernel : decode (mb_ 36) 6 = .ok (.getfield 13, 3)) tw_190 (Or.inl rfl) rfl
theorem ok_X3_reads_9 : ok_S 36 9 (sf_dx1 10) := ok_dx1 (by decide +kernel : decode (mb_ 36) 9 = .ok (.dup_x1, 1))
theorem ok_X3_reads_10 : ok_S 36 10 (sf_push (0, 1) 11) := ok_iconst (by decide +kernel : decode (mb_ 36) 10 = .ok (.iconst 1, 1)) ⟨by decide, by decide⟩
theorem ok_X3_reads_11 : ok_S 36 11 (sf_i2 mx_add 12) := ok_iadd (by decide +kernel : decode (mb_ 36) 11 = .ok (.iadd, 1))
theorem ok_X3_reads_12 : ok_S 36 12 (sf_pi 11 11 1 15) := ok_pi fd_11_1 (by decide +kernel : decode (mb_ 36) 12 = .ok (.putfield 13, 3)) tw_190 rfl (Or.inl ff_11_1) rfl
theorem ok_X3_reads_15 : ok_S 36 15 (sf_push (0, 31) 17) := ok_bipush (by decide +kernel : decode (mb_ 36) 15 = .ok (.bipush 31, 2)) ⟨by decide, by decide⟩ (by decide +kernel)
theorem ok_X3_reads_17 : ok_S 36 17 (sf_i2 mx_and 18) := ok_iand (by decide +kernel : decode (mb_ 36) 17 = .ok (.iand, 1))
theorem ok_X3_reads_18 : ok_S 36 18 (sf_push (0, 40) 20) := ok_bipush (by decide +kernel : decode (mb_ 36) 18 = .ok (.bipush 40, 2)) ⟨by decide, by decide⟩ (by decide +kernel)
theorem ok_X3_reads_20 : ok_S 36 20 (sf_iast 21) := ok_iast (by decide +kernel : decode (mb_ 36) 20 = .ok (.iastore, 1))
theorem ok_X3_reads_21 : ok_S 36 21 (sf_push (0, 0) 22) := ok_iconst (by decide +kernel : decode (mb_ 36) 21 = .ok (.iconst 0, 1)) ⟨by decide, by decide⟩
theorem ok_X3_reads_22 : ok_S 36 22 (sf_ld 2 0 23) := ok_aload_n (by decide +kernel : decode (mb_ 36) 22 = .ok (.aload_n 0, 1)) rfl
theorem ok_X3_reads_23 : ok_S 36 23 (sf_ld 0 1 24) := ok_iload_n (by decide +kernel : decode (mb_ 36) 23 = .ok (.iload_n 1, 1)) rfl
theorem ok_X3_reads_24 : ok_S 36 24 (sf_ld 2 2 25) := ok_aload_n (by decide +kernel : decode (mb_ 36) 24 = .ok (.aload_n 2, 1)) rfl
theorem ok_X3_reads_25 : ok_S 36 25 (sf_ci 1 6 [2, 0, 2] 5 28) := ok_csu (x := ⟨"RoomNumbers$Broken", "reads", "(ILRoomNumbers$Trace;)I"⟩) (ow := "RoomNumbers$Broken") mt_5 rfl (by decide +kernel : decode (mb_ 36) 25 = .ok (.invokespecial 17, 3)) tw_1020 tw_1596 tw_460 (Or.inl rfl) tw_1008 tw_16 (by decide) rfl (by decide +kernel) (by decide) (by decide) cl_16
theorem ok_X3_reads_28 : ok_S 36 28 (sf_i2 mx_sub 29) := ok_isub (by decide +kernel : decode (mb_ 36) 28 = .ok (.isub, 1))
theorem ok_X3_reads_29 : ok_S 36 29 (sf_ret 0) := ok_ret0 (by decide +kernel : decode (mb_ 36) 29 = .ok (.ireturn, 1)) rfl
theorem ok_X3_reads (pc : Nat) : ok_S 36 pc (cd_X3_reads pc) :=
  (ok_bf (ok_bf (ok_bf (ok_bf (ok_bf (ok_lf pc ok_X3_reads_29) (ok_lf pc ok_X3_reads_28)) (ok_lf pc ok_X3_reads_25)) (ok_bf (ok_lf pc ok_X3_reads_24) (ok_lf pc ok_X3_reads_23))) (ok_bf (ok_bf (ok_bf (ok_lf pc ok_X3_reads_22) (ok_lf pc ok_X3_reads_21)) (ok_lf pc ok_X3_reads_20)) (ok_bf (ok_lf pc ok_X3_reads_18) (ok_lf pc ok_X3_reads_17)))) (ok_bf (ok_bf (ok_bf (ok_bf (ok_lf pc ok_X3_reads_15) (ok_lf pc ok_X3_reads_12)) (ok_lf pc ok_X3_reads_11)) (ok_bf (ok_lf pc ok_X3_reads_10) (ok_lf pc ok_X3_reads_9))) (ok_bf (ok_bf (ok_bf (ok_lf pc ok_X3_reads_6) (ok_lf pc ok_X3_reads_5)) (ok_lf pc ok_X3_reads_4)) (ok_bf (ok_lf pc ok_X3_reads_1) (ok_lf pc ok_X3_reads_0)))))
theorem mo_X3_reads (pc : Nat) : mo_S (cd_X3_reads pc) :=
  (mo_bf (mo_bf (mo_bf (mo_bf (mo_bf (mo_bf mo_ret mo_no) (mo_bf mo_i2 mo_no)) (mo_bf mo_ci mo_no)) (mo_bf (mo_bf mo_ld mo_no) (mo_bf mo_ld mo_no))) (mo_bf (mo_bf (mo_bf (mo_bf mo_ld mo_no) (mo_bf mo_push mo_no)) (mo_bf mo_iast mo_no)) (mo_bf (mo_bf mo_push mo_no) (mo_bf mo_i2 mo_no)))) (mo_bf (mo_bf (mo_bf (mo_bf (mo_bf mo_push mo_no) (mo_bf mo_pi mo_no)) (mo_bf mo_i2 mo_no)) (mo_bf (mo_bf mo_push mo_no) (mo_bf mo_dx1 mo_no))) (mo_bf (mo_bf (mo_bf (mo_bf mo_gi mo_no) (mo_bf mo_dup mo_no)) (mo_bf mo_ld mo_no)) (mo_bf (mo_bf mo_gr mo_no) (mo_bf mo_ld mo_no)))))
theorem ok_X3_writes_0 : ok_S 37 0 (sf_ld 2 2 1) := ok_aload_n (by decide +kernel : decode (mb_ 37) 0 = .ok (.aload_n 2, 1)) rfl
theorem ok_X3_writes_1 : ok_S 37 1 (sf_gr 11 11 0 4) := ok_gr fd_11_0 (by decide +kernel : decode (mb_ 37) 1 = .ok (.getfield 7, 3)) tw_182 (Or.inl rfl) rfl
theorem ok_X3_writes_4 : ok_S 37 4 (sf_ld 2 2 5) := ok_aload_n (by decide +kernel : decode (mb_ 37) 4 = .ok (.aload_n 2, 1)) rfl
theorem ok_X3_writes_5 : ok_S 37 5 (sf_dup 6) := ok_dup (by decide +kernel : decode (mb_ 37) 5 = .ok (.dup, 1))
theorem ok_X3_writes_6 : ok_S 37 6 (sf_gi 11 11 1 9) := ok_gi fd_11_1 (by decide +kernel : decode (mb_ 37) 6 = .ok (.getfield 13, 3)) tw_190 (Or.inl rfl) rfl
theorem ok_X3_writes_9 : ok_S 37 9 (sf_dx1 10) := ok_dx1 (by decide +kernel : decode (mb_ 37) 9 = .ok (.dup_x1, 1))
theorem ok_X3_writes_10 : ok_S 37 10 (sf_push (0, 1) 11) := ok_iconst (by decide +kernel : decode (mb_ 37) 10 = .ok (.iconst 1, 1)) ⟨by decide, by decide⟩
theorem ok_X3_writes_11 : ok_S 37 11 (sf_i2 mx_add 12) := ok_iadd (by decide +kernel : decode (mb_ 37) 11 = .ok (.iadd, 1))
theorem ok_X3_writes_12 : ok_S 37 12 (sf_pi 11 11 1 15) := ok_pi fd_11_1 (by decide +kernel : decode (mb_ 37) 12 = .ok (.putfield 13, 3)) tw_190 rfl (Or.inl ff_11_1) rfl
theorem ok_X3_writes_15 : ok_S 37 15 (sf_push (0, 31) 17) := ok_bipush (by decide +kernel : decode (mb_ 37) 15 = .ok (.bipush 31, 2)) ⟨by decide, by decide⟩ (by decide +kernel)
theorem ok_X3_writes_17 : ok_S 37 17 (sf_i2 mx_and 18) := ok_iand (by decide +kernel : decode (mb_ 37) 17 = .ok (.iand, 1))
theorem ok_X3_writes_18 : ok_S 37 18 (sf_push (0, 41) 20) := ok_bipush (by decide +kernel : decode (mb_ 37) 18 = .ok (.bipush 41, 2)) ⟨by decide, by decide⟩ (by decide +kernel)
theorem ok_X3_writes_20 : ok_S 37 20 (sf_iast 21) := ok_iast (by decide +kernel : decode (mb_ 37) 20 = .ok (.iastore, 1))
theorem ok_X3_writes_21 : ok_S 37 21 (sf_ld 2 0 22) := ok_aload_n (by decide +kernel : decode (mb_ 37) 21 = .ok (.aload_n 0, 1)) rfl
theorem ok_X3_writes_22 : ok_S 37 22 (sf_ld 0 1 23) := ok_iload_n (by decide +kernel : decode (mb_ 37) 22 = .ok (.iload_n 1, 1)) rfl
theorem ok_X3_writes_23 : ok_S 37 23 (sf_ld 2 2 24) := ok_aload_n (by decide +kernel : decode (mb_ 37) 23 = .ok (.aload_n 2, 1)) rfl
theorem ok_X3_writes_24 : ok_S 37 24 (sf_ci 1 6 [2, 0, 2] 49 27) := ok_csu (x := ⟨"RoomNumbers$Broken", "writes", "(ILRoomNumbers$Trace;)I"⟩) (ow := "RoomNumbers$Note") mt_49 rfl (by decide +kernel : decode (mb_ 37) 24 = .ok (.invokespecial 21, 3)) tw_1036 tw_1037 tw_460 (Or.inr tw_449) tw_1025 tw_14 (by decide) rfl (by decide +kernel) (by decide) (by decide) cl_16
theorem ok_X3_writes_27 : ok_S 37 27 (sf_ld 2 0 28) := ok_aload_n (by decide +kernel : decode (mb_ 37) 27 = .ok (.aload_n 0, 1)) rfl
theorem ok_X3_writes_28 : ok_S 37 28 (sf_ld 2 0 29) := ok_aload_n (by decide +kernel : decode (mb_ 37) 28 = .ok (.aload_n 0, 1)) rfl
theorem ok_X3_writes_29 : ok_S 37 29 (sf_gi 1 6 0 32) := ok_gi fd_1_0 (by decide +kernel : decode (mb_ 37) 29 = .ok (.getfield 24, 3)) tw_400 (Or.inr tw_401) rfl
theorem ok_X3_writes_32 : ok_S 37 32 (sf_ld 2 2 33) := ok_aload_n (by decide +kernel : decode (mb_ 37) 32 = .ok (.aload_n 2, 1)) rfl
theorem ok_X3_writes_33 : ok_S 37 33 (sf_cv 4 [2, 0, 2] 36 36) := ok_cv mt_36 cl_4 (by decide +kernel : decode (mb_ 37) 33 = .ok (.invokevirtual 29, 3)) tw_1039 tw_1018 tw_1597 tw_17 rfl (by decide +kernel) (mh_ok rfl) (by decide) (by decide)
theorem ok_X3_writes_36 : ok_S 37 36 (sf_i2 mx_add 37) := ok_iadd (by decide +kernel : decode (mb_ 37) 36 = .ok (.iadd, 1))
theorem ok_X3_writes_37 : ok_S 37 37 (sf_ret 0) := ok_ret0 (by decide +kernel : decode (mb_ 37) 37 = .ok (.ireturn, 1)) rfl
theorem ok_X3_writes (pc : Nat) : ok_S 37 pc (cd_X3_writes pc) :=
  (ok_bf (ok_bf (ok_bf (ok_bf (ok_bf (ok_lf pc ok_X3_writes_37) (ok_lf pc ok_X3_writes_36)) (ok_lf pc ok_X3_writes_33)) (ok_bf (ok_bf (ok_lf pc ok_X3_writes_32) (ok_lf pc ok_X3_writes_29)) (ok_lf pc ok_X3_writes_28))) (ok_bf (ok_bf (ok_bf (ok_lf pc ok_X3_writes_27) (ok_lf pc ok_X3_writes_24)) (ok_lf pc ok_X3_writes_23)) (ok_bf (ok_bf (ok_lf pc ok_X3_writes_22) (ok_lf pc ok_X3_writes_21)) (ok_lf pc ok_X3_writes_20)))) (ok_bf (ok_bf (ok_bf (ok_bf (ok_lf pc ok_X3_writes_18) (ok_lf pc ok_X3_writes_17)) (ok_lf pc ok_X3_writes_15)) (ok_bf (ok_bf (ok_lf pc ok_X3_writes_12) (ok_lf pc ok_X3_writes_11)) (ok_lf pc ok_X3_writes_10))) (ok_bf (ok_bf (ok_bf (ok_lf pc ok_X3_writes_9) (ok_lf pc ok_X3_writes_6)) (ok_lf pc ok_X3_writes_5)) (ok_bf (ok_bf (ok_lf pc ok_X3_writes_4) (ok_lf pc ok_X3_writes_1)) (ok_lf pc ok_X3_writes_0)))))
theorem mo_X3_writes (pc : Nat) : mo_S (cd_X3_writes pc) :=
  (mo_bf (mo_bf (mo_bf (mo_bf (mo_bf (mo_bf mo_ret mo_no) (mo_bf mo_i2 mo_no)) (mo_bf mo_cv mo_no)) (mo_bf (mo_bf (mo_bf mo_ld mo_no) (mo_bf mo_gi mo_no)) (mo_bf mo_ld mo_no))) (mo_bf (mo_bf (mo_bf (mo_bf mo_ld mo_no) (mo_bf mo_ci mo_no)) (mo_bf mo_ld mo_no)) (mo_bf (mo_bf (mo_bf mo_ld mo_no) (mo_bf mo_ld mo_no)) (mo_bf mo_iast mo_no)))) (mo_bf (mo_bf (mo_bf (mo_bf (mo_bf mo_push mo_no) (mo_bf mo_i2 mo_no)) (mo_bf mo_push mo_no)) (mo_bf (mo_bf (mo_bf mo_pi mo_no) (mo_bf mo_i2 mo_no)) (mo_bf mo_push mo_no))) (mo_bf (mo_bf (mo_bf (mo_bf mo_dx1 mo_no) (mo_bf mo_gi mo_no)) (mo_bf mo_dup mo_no)) (mo_bf (mo_bf (mo_bf mo_ld mo_no) (mo_bf mo_gr mo_no)) (mo_bf mo_ld mo_no)))))
theorem ok_X4_init_0 : ok_S 38 0 (sf_ld 2 0 1) := ok_aload_n (by decide +kernel : decode (mb_ 38) 0 = .ok (.aload_n 0, 1)) rfl
theorem ok_X4_init_1 : ok_S 38 1 (sf_oini 4) := ok_oini (by decide +kernel : decode (mb_ 38) 1 = .ok (.invokespecial 3, 3)) tw_396 tw_28 tw_29
theorem ok_X4_init_4 : ok_S 38 4 (sf_ld 2 0 5) := ok_aload_n (by decide +kernel : decode (mb_ 38) 4 = .ok (.aload_n 0, 1)) rfl
theorem ok_X4_init_5 : ok_S 38 5 (sf_ld 0 1 6) := ok_iload_n (by decide +kernel : decode (mb_ 38) 5 = .ok (.iload_n 1, 1)) rfl
theorem ok_X4_init_6 : ok_S 38 6 (sf_pi 1 6 0 9) := ok_pi fd_1_0 (by decide +kernel : decode (mb_ 38) 6 = .ok (.putfield 9, 3)) tw_397 rfl (Or.inr ⟨ff_1_0, rfl, rfl⟩) rfl
theorem ok_X4_init_9 : ok_S 38 9 (sf_ld 2 0 10) := ok_aload_n (by decide +kernel : decode (mb_ 38) 9 = .ok (.aload_n 0, 1)) rfl
theorem ok_X4_init_10 : ok_S 38 10 (sf_ld 0 2 11) := ok_iload_n (by decide +kernel : decode (mb_ 38) 10 = .ok (.iload_n 2, 1)) rfl
theorem ok_X4_init_11 : ok_S 38 11 (sf_pi 1 6 3 14) := ok_pi fd_1_3 (by decide +kernel : decode (mb_ 38) 11 = .ok (.putfield 15, 3)) tw_425 rfl (Or.inl ff_1_3) rfl
theorem ok_X4_init_14 : ok_S 38 14 (sf_ld 2 0 15) := ok_aload_n (by decide +kernel : decode (mb_ 38) 14 = .ok (.aload_n 0, 1)) rfl
theorem ok_X4_init_15 : ok_S 38 15 (sf_ld 0 3 16) := ok_iload_n (by decide +kernel : decode (mb_ 38) 15 = .ok (.iload_n 3, 1)) rfl
theorem ok_X4_init_16 : ok_S 38 16 (sf_pi 1 6 1 19) := ok_pi fd_1_1 (by decide +kernel : decode (mb_ 38) 16 = .ok (.putfield 18, 3)) tw_406 rfl (Or.inr ⟨ff_1_1, rfl, rfl⟩) rfl
theorem ok_X4_init_19 : ok_S 38 19 (sf_ld 2 0 20) := ok_aload_n (by decide +kernel : decode (mb_ 38) 19 = .ok (.aload_n 0, 1)) rfl
theorem ok_X4_init_20 : ok_S 38 20 (sf_ld 2 4 22) := ok_aload (by decide +kernel : decode (mb_ 38) 20 = .ok (.aload 4, 2))
theorem ok_X4_init_22 : ok_S 38 22 (sf_pr 1 6 2 25) := ok_pr fd_1_2 (by decide +kernel : decode (mb_ 38) 22 = .ok (.putfield 21, 3)) tw_415 rfl (Or.inr ⟨ff_1_2, rfl, rfl⟩) rfl (by decide +kernel : parseFieldDescriptor "[I" = some (.array .int)) (Or.inr ⟨_, rfl⟩)
theorem ok_X4_init_25 : ok_S 38 25 (sf_retv) := ok_retv (by decide +kernel : decode (mb_ 38) 25 = .ok (.return_, 1)) rfl
theorem ok_X4_init (pc : Nat) : ok_S 38 pc (cd_X4_init pc) :=
  (ok_bf (ok_bf (ok_bf (ok_bf (ok_lf pc ok_X4_init_25) (ok_lf pc ok_X4_init_22)) (ok_bf (ok_lf pc ok_X4_init_20) (ok_lf pc ok_X4_init_19))) (ok_bf (ok_bf (ok_lf pc ok_X4_init_16) (ok_lf pc ok_X4_init_15)) (ok_bf (ok_lf pc ok_X4_init_14) (ok_lf pc ok_X4_init_11)))) (ok_bf (ok_bf (ok_bf (ok_lf pc ok_X4_init_10) (ok_lf pc ok_X4_init_9)) (ok_bf (ok_lf pc ok_X4_init_6) (ok_lf pc ok_X4_init_5))) (ok_bf (ok_bf (ok_lf pc ok_X4_init_4) (ok_lf pc ok_X4_init_1)) (ok_lf pc ok_X4_init_0))))
theorem mo_X4_init (pc : Nat) : mo_S (cd_X4_init pc) :=
  (mo_bf (mo_bf (mo_bf (mo_bf (mo_bf mo_retv mo_no) (mo_bf mo_pr mo_no)) (mo_bf (mo_bf mo_ld mo_no) (mo_bf mo_ld mo_no))) (mo_bf (mo_bf (mo_bf mo_pi mo_no) (mo_bf mo_ld mo_no)) (mo_bf (mo_bf mo_ld mo_no) (mo_bf mo_pi mo_no)))) (mo_bf (mo_bf (mo_bf (mo_bf mo_ld mo_no) (mo_bf mo_ld mo_no)) (mo_bf (mo_bf mo_pi mo_no) (mo_bf mo_ld mo_no))) (mo_bf (mo_bf (mo_bf mo_ld mo_no) (mo_bf mo_oini mo_no)) (mo_bf mo_ld mo_no))))
theorem ok_X4_kind_0 : ok_S 39 0 (sf_push (0, 0) 1) := ok_iconst (by decide +kernel : decode (mb_ 39) 0 = .ok (.iconst 0, 1)) ⟨by decide, by decide⟩
theorem ok_X4_kind_1 : ok_S 39 1 (sf_ret 0) := ok_ret0 (by decide +kernel : decode (mb_ 39) 1 = .ok (.ireturn, 1)) rfl
theorem ok_X4_kind (pc : Nat) : ok_S 39 pc (cd_X4_kind pc) :=
  (ok_bf (ok_lf pc ok_X4_kind_1) (ok_lf pc ok_X4_kind_0))
theorem mo_X4_kind (pc : Nat) : mo_S (cd_X4_kind pc) :=
  (mo_bf (mo_bf mo_ret mo_no) (mo_bf mo_push mo_no))
theorem ok_X4_hasPlace_0 : ok_S 40 0 (sf_ld 0 1 1) := ok_iload_n (by decide +kernel : decode (mb_ 40) 0 = .ok (.iload_n 1, 1)) rfl
theorem ok_X4_hasPlace_1 : ok_S 40 1 (sf_if 2 17 4) := ok_if2 (by decide +kernel : decode (mb_ 40) 1 = .ok (.ifCond .lt 16, 3)) (by decide)
theorem ok_X4_hasPlace_4 : ok_S 40 4 (sf_ld 0 1 5) := ok_iload_n (by decide +kernel : decode (mb_ 40) 4 = .ok (.iload_n 1, 1)) rfl
theorem ok_X4_hasPlace_5 : ok_S 40 5 (sf_ld 2 0 6) := ok_aload_n (by decide +kernel : decode (mb_ 40) 5 = .ok (.aload_n 0, 1)) rfl
theorem ok_X4_hasPlace_6 : ok_S 40 6 (sf_gr 1 6 2 9) := ok_gr fd_1_2 (by decide +kernel : decode (mb_ 40) 6 = .ok (.getfield 21, 3)) tw_415 (Or.inl rfl) rfl
theorem ok_X4_hasPlace_9 : ok_S 40 9 (sf_alen 10) := ok_alen (by decide +kernel : decode (mb_ 40) 9 = .ok (.arraylength, 1))
theorem ok_X4_hasPlace_10 : ok_S 40 10 (sf_ic 3 17 13) := ok_ic3 (by decide +kernel : decode (mb_ 40) 10 = .ok (.if_icmp .ge 7, 3)) (by decide)
theorem ok_X4_hasPlace_13 : ok_S 40 13 (sf_push (0, 1) 14) := ok_iconst (by decide +kernel : decode (mb_ 40) 13 = .ok (.iconst 1, 1)) ⟨by decide, by decide⟩
theorem ok_X4_hasPlace_14 : ok_S 40 14 (sf_go 18) := ok_goto (by decide +kernel : decode (mb_ 40) 14 = .ok (.goto 4, 3)) (by decide)
theorem ok_X4_hasPlace_17 : ok_S 40 17 (sf_push (0, 0) 18) := ok_iconst (by decide +kernel : decode (mb_ 40) 17 = .ok (.iconst 0, 1)) ⟨by decide, by decide⟩
theorem ok_X4_hasPlace_18 : ok_S 40 18 (sf_rr 0 1) := ok_rr (by decide +kernel : decode (mb_ 40) 18 = .ok (.ireturn, 1)) rfl (so_nz .boolean rfl rfl)
theorem ok_X4_hasPlace (pc : Nat) : ok_S 40 pc (cd_X4_hasPlace pc) :=
  (ok_bf (ok_bf (ok_bf (ok_bf (ok_lf pc ok_X4_hasPlace_18) (ok_lf pc ok_X4_hasPlace_17)) (ok_lf pc ok_X4_hasPlace_14)) (ok_bf (ok_bf (ok_lf pc ok_X4_hasPlace_13) (ok_lf pc ok_X4_hasPlace_10)) (ok_lf pc ok_X4_hasPlace_9))) (ok_bf (ok_bf (ok_bf (ok_lf pc ok_X4_hasPlace_6) (ok_lf pc ok_X4_hasPlace_5)) (ok_lf pc ok_X4_hasPlace_4)) (ok_bf (ok_lf pc ok_X4_hasPlace_1) (ok_lf pc ok_X4_hasPlace_0))))
theorem mo_X4_hasPlace (pc : Nat) : mo_S (cd_X4_hasPlace pc) :=
  (mo_bf (mo_bf (mo_bf (mo_bf (mo_bf mo_rr mo_no) (mo_bf mo_push mo_no)) (mo_bf mo_go mo_no)) (mo_bf (mo_bf (mo_bf mo_push mo_no) (mo_bf mo_ic mo_no)) (mo_bf mo_alen mo_no))) (mo_bf (mo_bf (mo_bf (mo_bf mo_gr mo_no) (mo_bf mo_ld mo_no)) (mo_bf mo_ld mo_no)) (mo_bf (mo_bf mo_if mo_no) (mo_bf mo_ld mo_no))))
theorem ok_X4_markFromLast_0 : ok_S 41 0 (sf_ld 2 0 1) := ok_aload_n (by decide +kernel : decode (mb_ 41) 0 = .ok (.aload_n 0, 1)) rfl
theorem ok_X4_markFromLast_1 : ok_S 41 1 (sf_gr 1 6 2 4) := ok_gr fd_1_2 (by decide +kernel : decode (mb_ 41) 1 = .ok (.getfield 21, 3)) tw_415 (Or.inl rfl) rfl
theorem ok_X4_markFromLast_4 : ok_S 41 4 (sf_alen 5) := ok_alen (by decide +kernel : decode (mb_ 41) 4 = .ok (.arraylength, 1))
theorem ok_X4_markFromLast_5 : ok_S 41 5 (sf_push (0, 1) 6) := ok_iconst (by decide +kernel : decode (mb_ 41) 5 = .ok (.iconst 1, 1)) ⟨by decide, by decide⟩
theorem ok_X4_markFromLast_6 : ok_S 41 6 (sf_i2 mx_sub 7) := ok_isub (by decide +kernel : decode (mb_ 41) 6 = .ok (.isub, 1))
theorem ok_X4_markFromLast_7 : ok_S 41 7 (sf_ld 0 1 8) := ok_iload_n (by decide +kernel : decode (mb_ 41) 7 = .ok (.iload_n 1, 1)) rfl
theorem ok_X4_markFromLast_8 : ok_S 41 8 (sf_i2 mx_sub 9) := ok_isub (by decide +kernel : decode (mb_ 41) 8 = .ok (.isub, 1))
theorem ok_X4_markFromLast_9 : ok_S 41 9 (sf_st 0 2 10) := ok_istore_n (by decide +kernel : decode (mb_ 41) 9 = .ok (.istore_n 2, 1)) rfl
theorem ok_X4_markFromLast_10 : ok_S 41 10 (sf_ld 2 0 11) := ok_aload_n (by decide +kernel : decode (mb_ 41) 10 = .ok (.aload_n 0, 1)) rfl
theorem ok_X4_markFromLast_11 : ok_S 41 11 (sf_ld 0 2 12) := ok_iload_n (by decide +kernel : decode (mb_ 41) 11 = .ok (.iload_n 2, 1)) rfl
theorem ok_X4_markFromLast_12 : ok_S 41 12 (sf_ci 1 6 [2, 0] 40 15) := ok_cu1 (x := ⟨"RoomNumbers$Note", "hasPlace", "(I)Z"⟩) (ow := "RoomNumbers$Note") ⟨tw_885, tw_578, tw_576, ⟨_, _, _, tw_584⟩, mh_ok rfl, (by decide +kernel)⟩ (by
    intro t h1 h2
    rcases (by omega : t = 1 ∨ t = 2 ∨ t = 3 ∨ t = 4 ∨ t = 5 ∨ t = 6) with e | e | e | e | e | e <;> subst e
    · exact ⟨"RoomNumbers$Note", cl_1, mt_40, tw_577, tw_576, tw_14, by decide, by decide⟩
    · exact ⟨"RoomNumbers$Strokes", cl_2, mt_40, tw_582, tw_576, tw_14, by decide, by decide⟩
    · exact ⟨"RoomNumbers$Broken", cl_3, mt_40, tw_579, tw_576, tw_14, by decide, by decide⟩
    · exact ⟨"RoomNumbers$Left", cl_4, mt_40, tw_581, tw_576, tw_14, by decide, by decide⟩
    · exact ⟨"RoomNumbers$Turned", cl_5, mt_40, tw_583, tw_576, tw_14, by decide, by decide⟩
    · exact ⟨"RoomNumbers$Debt", cl_6, mt_40, tw_580, tw_576, tw_14, by decide, by decide⟩) mt_40 (by decide) (by decide +kernel : decode (mb_ 41) 12 = .ok (.invokevirtual 25, 3)) rfl
theorem ok_X4_markFromLast_15 : ok_S 41 15 (sf_if 0 27 18) := ok_if0 (by decide +kernel : decode (mb_ 41) 15 = .ok (.ifCond .eq 12, 3)) (by decide)
theorem ok_X4_markFromLast_18 : ok_S 41 18 (sf_ld 2 0 19) := ok_aload_n (by decide +kernel : decode (mb_ 41) 18 = .ok (.aload_n 0, 1)) rfl
theorem ok_X4_markFromLast_19 : ok_S 41 19 (sf_gr 1 6 2 22) := ok_gr fd_1_2 (by decide +kernel : decode (mb_ 41) 19 = .ok (.getfield 21, 3)) tw_415 (Or.inl rfl) rfl
theorem ok_X4_markFromLast_22 : ok_S 41 22 (sf_ld 0 2 23) := ok_iload_n (by decide +kernel : decode (mb_ 41) 22 = .ok (.iload_n 2, 1)) rfl
theorem ok_X4_markFromLast_23 : ok_S 41 23 (sf_iald 24) := ok_iald (by decide +kernel : decode (mb_ 41) 23 = .ok (.iaload, 1))
theorem ok_X4_markFromLast_24 : ok_S 41 24 (sf_go 28) := ok_goto (by decide +kernel : decode (mb_ 41) 24 = .ok (.goto 4, 3)) (by decide)
theorem ok_X4_markFromLast_27 : ok_S 41 27 (sf_push (0, 0) 28) := ok_iconst (by decide +kernel : decode (mb_ 41) 27 = .ok (.iconst 0, 1)) ⟨by decide, by decide⟩
theorem ok_X4_markFromLast_28 : ok_S 41 28 (sf_ret 0) := ok_ret0 (by decide +kernel : decode (mb_ 41) 28 = .ok (.ireturn, 1)) rfl
theorem ok_X4_markFromLast (pc : Nat) : ok_S 41 pc (cd_X4_markFromLast pc) :=
  (ok_bf (ok_bf (ok_bf (ok_bf (ok_bf (ok_lf pc ok_X4_markFromLast_28) (ok_lf pc ok_X4_markFromLast_27)) (ok_lf pc ok_X4_markFromLast_24)) (ok_bf (ok_lf pc ok_X4_markFromLast_23) (ok_lf pc ok_X4_markFromLast_22))) (ok_bf (ok_bf (ok_bf (ok_lf pc ok_X4_markFromLast_19) (ok_lf pc ok_X4_markFromLast_18)) (ok_lf pc ok_X4_markFromLast_15)) (ok_bf (ok_lf pc ok_X4_markFromLast_12) (ok_lf pc ok_X4_markFromLast_11)))) (ok_bf (ok_bf (ok_bf (ok_bf (ok_lf pc ok_X4_markFromLast_10) (ok_lf pc ok_X4_markFromLast_9)) (ok_lf pc ok_X4_markFromLast_8)) (ok_bf (ok_lf pc ok_X4_markFromLast_7) (ok_lf pc ok_X4_markFromLast_6))) (ok_bf (ok_bf (ok_lf pc ok_X4_markFromLast_5) (ok_lf pc ok_X4_markFromLast_4)) (ok_bf (ok_lf pc ok_X4_markFromLast_1) (ok_lf pc ok_X4_markFromLast_0)))))
theorem mo_X4_markFromLast (pc : Nat) : mo_S (cd_X4_markFromLast pc) :=
  (mo_bf (mo_bf (mo_bf (mo_bf (mo_bf (mo_bf mo_ret mo_no) (mo_bf mo_push mo_no)) (mo_bf mo_go mo_no)) (mo_bf (mo_bf mo_iald mo_no) (mo_bf mo_ld mo_no))) (mo_bf (mo_bf (mo_bf (mo_bf mo_gr mo_no) (mo_bf mo_ld mo_no)) (mo_bf mo_if mo_no)) (mo_bf (mo_bf mo_ci mo_no) (mo_bf mo_ld mo_no)))) (mo_bf (mo_bf (mo_bf (mo_bf (mo_bf mo_ld mo_no) (mo_bf mo_st mo_no)) (mo_bf mo_i2 mo_no)) (mo_bf (mo_bf mo_ld mo_no) (mo_bf mo_i2 mo_no))) (mo_bf (mo_bf (mo_bf mo_push mo_no) (mo_bf mo_alen mo_no)) (mo_bf (mo_bf mo_gr mo_no) (mo_bf mo_ld mo_no)))))
theorem ok_X4_isOfKind_0 : ok_S 42 0 (sf_ld 0 1 1) := ok_iload_n (by decide +kernel : decode (mb_ 42) 0 = .ok (.iload_n 1, 1)) rfl
theorem ok_X4_isOfKind_1 : ok_S 42 1 (sf_sw [(0, 40), (1, 42), (2, 47), (3, 52), (4, 57), (5, 62)] 67) := ok_tsw (by decide +kernel : decode (mb_ 42) 1 = .ok (.tableswitch 66 0 5 #[39, 41, 46, 51, 56, 61], 39)) (by decide) (by decide) (by decide) (by decide)
theorem ok_X4_isOfKind_40 : ok_S 42 40 (sf_push (0, 1) 41) := ok_iconst (by decide +kernel : decode (mb_ 42) 40 = .ok (.iconst 1, 1)) ⟨by decide, by decide⟩
theorem ok_X4_isOfKind_41 : ok_S 42 41 (sf_rr 0 1) := ok_rr (by decide +kernel : decode (mb_ 42) 41 = .ok (.ireturn, 1)) rfl (so_nz .boolean rfl rfl)
theorem ok_X4_isOfKind_42 : ok_S 42 42 (sf_ld 2 0 43) := ok_aload_n (by decide +kernel : decode (mb_ 42) 42 = .ok (.aload_n 0, 1)) rfl
theorem ok_X4_isOfKind_43 : ok_S 42 43 (sf_inst 2 6 46) := ok_inst ki_2 (by decide +kernel : decode (mb_ 42) 43 = .ok (.instanceof 29, 3)) tw_990
theorem ok_X4_isOfKind_46 : ok_S 42 46 (sf_rr 0 1) := ok_rr (by decide +kernel : decode (mb_ 42) 46 = .ok (.ireturn, 1)) rfl (so_nz .boolean rfl rfl)
theorem ok_X4_isOfKind_47 : ok_S 42 47 (sf_ld 2 0 48) := ok_aload_n (by decide +kernel : decode (mb_ 42) 47 = .ok (.aload_n 0, 1)) rfl
theorem ok_X4_isOfKind_48 : ok_S 42 48 (sf_inst 3 4 51) := ok_inst ki_3 (by decide +kernel : decode (mb_ 42) 48 = .ok (.instanceof 31, 3)) tw_991
theorem ok_X4_isOfKind_51 : ok_S 42 51 (sf_rr 0 1) := ok_rr (by decide +kernel : decode (mb_ 42) 51 = .ok (.ireturn, 1)) rfl (so_nz .boolean rfl rfl)
theorem ok_X4_isOfKind_52 : ok_S 42 52 (sf_ld 2 0 53) := ok_aload_n (by decide +kernel : decode (mb_ 42) 52 = .ok (.aload_n 0, 1)) rfl
theorem ok_X4_isOfKind_53 : ok_S 42 53 (sf_inst 4 4 56) := ok_inst ki_4 (by decide +kernel : decode (mb_ 42) 53 = .ok (.instanceof 33, 3)) tw_992
theorem ok_X4_isOfKind_56 : ok_S 42 56 (sf_rr 0 1) := ok_rr (by decide +kernel : decode (mb_ 42) 56 = .ok (.ireturn, 1)) rfl (so_nz .boolean rfl rfl)
theorem ok_X4_isOfKind_57 : ok_S 42 57 (sf_ld 2 0 58) := ok_aload_n (by decide +kernel : decode (mb_ 42) 57 = .ok (.aload_n 0, 1)) rfl
theorem ok_X4_isOfKind_58 : ok_S 42 58 (sf_inst 5 5 61) := ok_inst ki_5 (by decide +kernel : decode (mb_ 42) 58 = .ok (.instanceof 35, 3)) tw_993
theorem ok_X4_isOfKind_61 : ok_S 42 61 (sf_rr 0 1) := ok_rr (by decide +kernel : decode (mb_ 42) 61 = .ok (.ireturn, 1)) rfl (so_nz .boolean rfl rfl)
theorem ok_X4_isOfKind_62 : ok_S 42 62 (sf_ld 2 0 63) := ok_aload_n (by decide +kernel : decode (mb_ 42) 62 = .ok (.aload_n 0, 1)) rfl
theorem ok_X4_isOfKind_63 : ok_S 42 63 (sf_inst 6 6 66) := ok_inst ki_6 (by decide +kernel : decode (mb_ 42) 63 = .ok (.instanceof 37, 3)) tw_994
theorem ok_X4_isOfKind_66 : ok_S 42 66 (sf_rr 0 1) := ok_rr (by decide +kernel : decode (mb_ 42) 66 = .ok (.ireturn, 1)) rfl (so_nz .boolean rfl rfl)
theorem ok_X4_isOfKind_67 : ok_S 42 67 (sf_push (0, 0) 68) := ok_iconst (by decide +kernel : decode (mb_ 42) 67 = .ok (.iconst 0, 1)) ⟨by decide, by decide⟩
theorem ok_X4_isOfKind_68 : ok_S 42 68 (sf_rr 0 1) := ok_rr (by decide +kernel : decode (mb_ 42) 68 = .ok (.ireturn, 1)) rfl (so_nz .boolean rfl rfl)
theorem ok_X4_isOfKind (pc : Nat) : ok_S 42 pc (cd_X4_isOfKind pc) :=
  (ok_bf (ok_bf (ok_bf (ok_bf (ok_bf (ok_lf pc ok_X4_isOfKind_68) (ok_lf pc ok_X4_isOfKind_67)) (ok_lf pc ok_X4_isOfKind_66)) (ok_bf (ok_bf (ok_lf pc ok_X4_isOfKind_63) (ok_lf pc ok_X4_isOfKind_62)) (ok_lf pc ok_X4_isOfKind_61))) (ok_bf (ok_bf (ok_bf (ok_lf pc ok_X4_isOfKind_58) (ok_lf pc ok_X4_isOfKind_57)) (ok_lf pc ok_X4_isOfKind_56)) (ok_bf (ok_lf pc ok_X4_isOfKind_53) (ok_lf pc ok_X4_isOfKind_52)))) (ok_bf (ok_bf (ok_bf (ok_bf (ok_lf pc ok_X4_isOfKind_51) (ok_lf pc ok_X4_isOfKind_48)) (ok_lf pc ok_X4_isOfKind_47)) (ok_bf (ok_lf pc ok_X4_isOfKind_46) (ok_lf pc ok_X4_isOfKind_43))) (ok_bf (ok_bf (ok_bf (ok_lf pc ok_X4_isOfKind_42) (ok_lf pc ok_X4_isOfKind_41)) (ok_lf pc ok_X4_isOfKind_40)) (ok_bf (ok_lf pc ok_X4_isOfKind_1) (ok_lf pc ok_X4_isOfKind_0)))))
theorem mo_X4_isOfKind (pc : Nat) : mo_S (cd_X4_isOfKind pc) :=
  (mo_bf (mo_bf (mo_bf (mo_bf (mo_bf (mo_bf mo_rr mo_no) (mo_bf mo_push mo_no)) (mo_bf mo_rr mo_no)) (mo_bf (mo_bf (mo_bf mo_inst mo_no) (mo_bf mo_ld mo_no)) (mo_bf mo_rr mo_no))) (mo_bf (mo_bf (mo_bf (mo_bf mo_inst mo_no) (mo_bf mo_ld mo_no)) (mo_bf mo_rr mo_no)) (mo_bf (mo_bf mo_inst mo_no) (mo_bf mo_ld mo_no)))) (mo_bf (mo_bf (mo_bf (mo_bf (mo_bf mo_rr mo_no) (mo_bf mo_inst mo_no)) (mo_bf mo_ld mo_no)) (mo_bf (mo_bf mo_rr mo_no) (mo_bf mo_inst mo_no))) (mo_bf (mo_bf (mo_bf (mo_bf mo_ld mo_no) (mo_bf mo_rr mo_no)) (mo_bf mo_push mo_no)) (mo_bf (mo_bf mo_sw mo_no) (mo_bf mo_ld mo_no)))))
theorem ok_X4_worthBy_0 : ok_S 43 0 (sf_ld 2 0 1) := ok_aload_n (by decide +kernel : decode (mb_ 43) 0 = .ok (.aload_n 0, 1)) rfl
theorem ok_X4_worthBy_1 : ok_S 43 1 (sf_push (0, 0) 2) := ok_iconst (by decide +kernel : decode (mb_ 43) 1 = .ok (.iconst 0, 1)) ⟨by decide, by decide⟩
theorem ok_X4_worthBy_2 : ok_S 43 2 (sf_ld 0 1 3) := ok_iload_n (by decide +kernel : decode (mb_ 43) 2 = .ok (.iload_n 1, 1)) rfl
theorem ok_X4_worthBy_3 : ok_S 43 3 (sf_push (0, 0) 4) := ok_iconst (by decide +kernel : decode (mb_ 43) 3 = .ok (.iconst 0, 1)) ⟨by decide, by decide⟩
theorem ok_X4_worthBy_4 : ok_S 43 4 (sf_ld 2 0 5) := ok_aload_n (by decide +kernel : decode (mb_ 43) 4 = .ok (.aload_n 0, 1)) rfl
theorem ok_X4_worthBy_5 : ok_S 43 5 (sf_gr 1 6 2 8) := ok_gr fd_1_2 (by decide +kernel : decode (mb_ 43) 5 = .ok (.getfield 21, 3)) tw_415 (Or.inl rfl) rfl
theorem ok_X4_worthBy_8 : ok_S 43 8 (sf_alen 9) := ok_alen (by decide +kernel : decode (mb_ 43) 8 = .ok (.arraylength, 1))
theorem ok_X4_worthBy_9 : ok_S 43 9 (sf_ci 1 6 [2, 0, 0, 0, 0] 46 12) := ok_cu1 (x := ⟨"RoomNumbers$Note", "grown", "(IIII)I"⟩) (ow := "RoomNumbers$Note") ⟨tw_633, tw_1582, tw_611, ⟨_, _, _, tw_612⟩, mh_ok rfl, (by decide +kernel)⟩ (by
    intro t h1 h2
    rcases (by omega : t = 1 ∨ t = 2 ∨ t = 3 ∨ t = 4 ∨ t = 5 ∨ t = 6) with e | e | e | e | e | e <;> subst e
    · exact ⟨"RoomNumbers$Note", cl_1, mt_46, tw_1586, tw_611, tw_14, by decide, by decide⟩
    · exact ⟨"RoomNumbers$Strokes", cl_2, mt_46, tw_1587, tw_611, tw_14, by decide, by decide⟩
    · exact ⟨"RoomNumbers$Broken", cl_3, mt_46, tw_1583, tw_611, tw_14, by decide, by decide⟩
    · exact ⟨"RoomNumbers$Left", cl_4, mt_46, tw_1585, tw_611, tw_14, by decide, by decide⟩
    · exact ⟨"RoomNumbers$Turned", cl_5, mt_46, tw_1588, tw_611, tw_14, by decide, by decide⟩
    · exact ⟨"RoomNumbers$Debt", cl_6, mt_46, tw_1584, tw_611, tw_14, by decide, by decide⟩) mt_46 (by decide) (by decide +kernel : decode (mb_ 43) 9 = .ok (.invokevirtual 39, 3)) rfl
theorem ok_X4_worthBy_12 : ok_S 43 12 (sf_ret 0) := ok_ret0 (by decide +kernel : decode (mb_ 43) 12 = .ok (.ireturn, 1)) rfl
theorem ok_X4_worthBy (pc : Nat) : ok_S 43 pc (cd_X4_worthBy pc) :=
  (ok_bf (ok_bf (ok_bf (ok_bf (ok_lf pc ok_X4_worthBy_12) (ok_lf pc ok_X4_worthBy_9)) (ok_lf pc ok_X4_worthBy_8)) (ok_bf (ok_lf pc ok_X4_worthBy_5) (ok_lf pc ok_X4_worthBy_4))) (ok_bf (ok_bf (ok_lf pc ok_X4_worthBy_3) (ok_lf pc ok_X4_worthBy_2)) (ok_bf (ok_lf pc ok_X4_worthBy_1) (ok_lf pc ok_X4_worthBy_0))))
theorem mo_X4_worthBy (pc : Nat) : mo_S (cd_X4_worthBy pc) :=
  (mo_bf (mo_bf (mo_bf (mo_bf (mo_bf mo_ret mo_no) (mo_bf mo_ci mo_no)) (mo_bf mo_alen mo_no)) (mo_bf (mo_bf mo_gr mo_no) (mo_bf mo_ld mo_no))) (mo_bf (mo_bf (mo_bf mo_push mo_no) (mo_bf mo_ld mo_no)) (mo_bf (mo_bf mo_push mo_no) (mo_bf mo_ld mo_no))))
theorem ok_X4_canBeIn_0 : ok_S 44 0 (sf_ld 2 0 1) := ok_aload_n (by decide +kernel : decode (mb_ 44) 0 = .ok (.aload_n 0, 1)) rfl
theorem ok_X4_canBeIn_1 : ok_S 44 1 (sf_ld 0 1 2) := ok_iload_n (by decide +kernel : decode (mb_ 44) 1 = .ok (.iload_n 1, 1)) rfl
theorem ok_X4_canBeIn_2 : ok_S 44 2 (sf_push (0, 0) 3) := ok_iconst (by decide +kernel : decode (mb_ 44) 2 = .ok (.iconst 0, 1)) ⟨by decide, by decide⟩
theorem ok_X4_canBeIn_3 : ok_S 44 3 (sf_ld 2 0 4) := ok_aload_n (by decide +kernel : decode (mb_ 44) 3 = .ok (.aload_n 0, 1)) rfl
theorem ok_X4_canBeIn_4 : ok_S 44 4 (sf_gr 1 6 2 7) := ok_gr fd_1_2 (by decide +kernel : decode (mb_ 44) 4 = .ok (.getfield 21, 3)) tw_415 (Or.inl rfl) rfl
theorem ok_X4_canBeIn_7 : ok_S 44 7 (sf_alen 8) := ok_alen (by decide +kernel : decode (mb_ 44) 7 = .ok (.arraylength, 1))
theorem ok_X4_canBeIn_8 : ok_S 44 8 (sf_ci 1 6 [2, 0, 0, 0] 47 11) := ok_cu1 (x := ⟨"RoomNumbers$Note", "allBelow", "(III)Z"⟩) (ow := "RoomNumbers$Note") ⟨tw_669, tw_1589, tw_660, ⟨_, _, _, tw_661⟩, mh_ok rfl, (by decide +kernel)⟩ (by
    intro t h1 h2
    rcases (by omega : t = 1 ∨ t = 2 ∨ t = 3 ∨ t = 4 ∨ t = 5 ∨ t = 6) with e | e | e | e | e | e <;> subst e
    · exact ⟨"RoomNumbers$Note", cl_1, mt_47, tw_1593, tw_660, tw_14, by decide, by decide⟩
    · exact ⟨"RoomNumbers$Strokes", cl_2, mt_47, tw_1594, tw_660, tw_14, by decide, by decide⟩
    · exact ⟨"RoomNumbers$Broken", cl_3, mt_47, tw_1590, tw_660, tw_14, by decide, by decide⟩
    · exact ⟨"RoomNumbers$Left", cl_4, mt_47, tw_1592, tw_660, tw_14, by decide, by decide⟩
    · exact ⟨"RoomNumbers$Turned", cl_5, mt_47, tw_1595, tw_660, tw_14, by decide, by decide⟩
    · exact ⟨"RoomNumbers$Debt", cl_6, mt_47, tw_1591, tw_660, tw_14, by decide, by decide⟩) mt_47 (by decide) (by decide +kernel : decode (mb_ 44) 8 = .ok (.invokevirtual 43, 3)) rfl
theorem ok_X4_canBeIn_11 : ok_S 44 11 (sf_rr 0 1) := ok_rr (by decide +kernel : decode (mb_ 44) 11 = .ok (.ireturn, 1)) rfl (so_nz .boolean rfl rfl)
theorem ok_X4_canBeIn (pc : Nat) : ok_S 44 pc (cd_X4_canBeIn pc) :=
  (ok_bf (ok_bf (ok_bf (ok_lf pc ok_X4_canBeIn_11) (ok_lf pc ok_X4_canBeIn_8)) (ok_bf (ok_lf pc ok_X4_canBeIn_7) (ok_lf pc ok_X4_canBeIn_4))) (ok_bf (ok_bf (ok_lf pc ok_X4_canBeIn_3) (ok_lf pc ok_X4_canBeIn_2)) (ok_bf (ok_lf pc ok_X4_canBeIn_1) (ok_lf pc ok_X4_canBeIn_0))))
theorem mo_X4_canBeIn (pc : Nat) : mo_S (cd_X4_canBeIn pc) :=
  (mo_bf (mo_bf (mo_bf (mo_bf mo_rr mo_no) (mo_bf mo_ci mo_no)) (mo_bf (mo_bf mo_alen mo_no) (mo_bf mo_gr mo_no))) (mo_bf (mo_bf (mo_bf mo_ld mo_no) (mo_bf mo_push mo_no)) (mo_bf (mo_bf mo_ld mo_no) (mo_bf mo_ld mo_no))))
theorem ok_X4_basesItCanBeIn_0 : ok_S 45 0 (sf_push (0, 0) 1) := ok_iconst (by decide +kernel : decode (mb_ 45) 0 = .ok (.iconst 0, 1)) ⟨by decide, by decide⟩
theorem ok_X4_basesItCanBeIn_1 : ok_S 45 1 (sf_st 0 1 2) := ok_istore_n (by decide +kernel : decode (mb_ 45) 1 = .ok (.istore_n 1, 1)) rfl
theorem ok_X4_basesItCanBeIn_2 : ok_S 45 2 (sf_push (0, 2) 3) := ok_iconst (by decide +kernel : decode (mb_ 45) 2 = .ok (.iconst 2, 1)) ⟨by decide, by decide⟩
theorem ok_X4_basesItCanBeIn_3 : ok_S 45 3 (sf_st 0 2 4) := ok_istore_n (by decide +kernel : decode (mb_ 45) 3 = .ok (.istore_n 2, 1)) rfl
theorem ok_X4_basesItCanBeIn_4 : ok_S 45 4 (sf_ld 0 2 5) := ok_iload_n (by decide +kernel : decode (mb_ 45) 4 = .ok (.iload_n 2, 1)) rfl
theorem ok_X4_basesItCanBeIn_5 : ok_S 45 5 (sf_push (0, 16) 7) := ok_bipush (by decide +kernel : decode (mb_ 45) 5 = .ok (.bipush 16, 2)) ⟨by decide, by decide⟩ (by decide +kernel)
theorem ok_X4_basesItCanBeIn_7 : ok_S 45 7 (sf_ic 4 30 10) := ok_ic4 (by decide +kernel : decode (mb_ 45) 7 = .ok (.if_icmp .gt 23, 3)) (by decide)
theorem ok_X4_basesItCanBeIn_10 : ok_S 45 10 (sf_ld 2 0 11) := ok_aload_n (by decide +kernel : decode (mb_ 45) 10 = .ok (.aload_n 0, 1)) rfl
theorem ok_X4_basesItCanBeIn_11 : ok_S 45 11 (sf_ld 0 2 12) := ok_iload_n (by decide +kernel : decode (mb_ 45) 11 = .ok (.iload_n 2, 1)) rfl
theorem ok_X4_basesItCanBeIn_12 : ok_S 45 12 (sf_cu [(1, 44), (2, 57), (3, 4), (4, 4), (5, 44), (6, 57)] [2, 0] 15) := ok_cu (x := ⟨"RoomNumbers$Note", "canBeIn", "(I)Z"⟩) (ow := "RoomNumbers$Note") ⟨tw_648, tw_651, tw_649, ⟨_, _, _, tw_668⟩, mh_ok rfl, (by decide +kernel)⟩ (List.forall_mem_cons.mpr ⟨⟨"RoomNumbers$Note", cl_1, mt_44, tw_650, tw_649, tw_14, by decide, by decide⟩, (List.forall_mem_cons.mpr ⟨⟨"RoomNumbers$Strokes", cl_2, mt_57, tw_666, tw_663, tw_15, by decide, by decide⟩, (List.forall_mem_cons.mpr ⟨⟨"RoomNumbers$Broken", cl_3, mt_4, tw_652, tw_653, tw_16, by decide, by decide⟩, (List.forall_mem_cons.mpr ⟨⟨"RoomNumbers$Left", cl_4, mt_4, tw_665, tw_653, tw_16, by decide, by decide⟩, (List.forall_mem_cons.mpr ⟨⟨"RoomNumbers$Turned", cl_5, mt_44, tw_667, tw_649, tw_14, by decide, by decide⟩, (List.forall_mem_cons.mpr ⟨⟨"RoomNumbers$Debt", cl_6, mt_57, tw_662, tw_663, tw_15, by decide, by decide⟩, (fun _ h => absurd h List.not_mem_nil)⟩)⟩)⟩)⟩)⟩)⟩) (by decide +kernel : decode (mb_ 45) 12 = .ok (.invokevirtual 47, 3)) rfl
theorem ok_X4_basesItCanBeIn_15 : ok_S 45 15 (sf_if 0 24 18) := ok_if0 (by decide +kernel : decode (mb_ 45) 15 = .ok (.ifCond .eq 9, 3)) (by decide)
theorem ok_X4_basesItCanBeIn_18 : ok_S 45 18 (sf_ld 0 1 19) := ok_iload_n (by decide +kernel : decode (mb_ 45) 18 = .ok (.iload_n 1, 1)) rfl
theorem ok_X4_basesItCanBeIn_19 : ok_S 45 19 (sf_push (0, 1) 20) := ok_iconst (by decide +kernel : decode (mb_ 45) 19 = .ok (.iconst 1, 1)) ⟨by decide, by decide⟩
theorem ok_X4_basesItCanBeIn_20 : ok_S 45 20 (sf_ld 0 2 21) := ok_iload_n (by decide +kernel : decode (mb_ 45) 20 = .ok (.iload_n 2, 1)) rfl
theorem ok_X4_basesItCanBeIn_21 : ok_S 45 21 (sf_i2 mx_shl 22) := ok_ishl (by decide +kernel : decode (mb_ 45) 21 = .ok (.ishl, 1))
theorem ok_X4_basesItCanBeIn_22 : ok_S 45 22 (sf_i2 mx_or 23) := ok_ior (by decide +kernel : decode (mb_ 45) 22 = .ok (.ior, 1))
theorem ok_X4_basesItCanBeIn_23 : ok_S 45 23 (sf_st 0 1 24) := ok_istore_n (by decide +kernel : decode (mb_ 45) 23 = .ok (.istore_n 1, 1)) rfl
theorem ok_X4_basesItCanBeIn_24 : ok_S 45 24 (sf_inc 2 1 27) := ok_iinc (by decide +kernel : decode (mb_ 45) 24 = .ok (.iinc 2 1, 3))
theorem ok_X4_basesItCanBeIn_27 : ok_S 45 27 (sf_go 4) := ok_goto (by decide +kernel : decode (mb_ 45) 27 = .ok (.goto (-23), 3)) (by decide)
theorem ok_X4_basesItCanBeIn_30 : ok_S 45 30 (sf_ld 0 1 31) := ok_iload_n (by decide +kernel : decode (mb_ 45) 30 = .ok (.iload_n 1, 1)) rfl
theorem ok_X4_basesItCanBeIn_31 : ok_S 45 31 (sf_ret 0) := ok_ret0 (by decide +kernel : decode (mb_ 45) 31 = .ok (.ireturn, 1)) rfl
theorem ok_X4_basesItCanBeIn (pc : Nat) : ok_S 45 pc (cd_X4_basesItCanBeIn pc) :=
  (ok_bf (ok_bf (ok_bf (ok_bf (ok_bf (ok_lf pc ok_X4_basesItCanBeIn_31) (ok_lf pc ok_X4_basesItCanBeIn_30)) (ok_lf pc ok_X4_basesItCanBeIn_27)) (ok_bf (ok_bf (ok_lf pc ok_X4_basesItCanBeIn_24) (ok_lf pc ok_X4_basesItCanBeIn_23)) (ok_lf pc ok_X4_basesItCanBeIn_22))) (ok_bf (ok_bf (ok_bf (ok_lf pc ok_X4_basesItCanBeIn_21) (ok_lf pc ok_X4_basesItCanBeIn_20)) (ok_lf pc ok_X4_basesItCanBeIn_19)) (ok_bf (ok_lf pc ok_X4_basesItCanBeIn_18) (ok_lf pc ok_X4_basesItCanBeIn_15)))) (ok_bf (ok_bf (ok_bf (ok_bf (ok_lf pc ok_X4_basesItCanBeIn_12) (ok_lf pc ok_X4_basesItCanBeIn_11)) (ok_lf pc ok_X4_basesItCanBeIn_10)) (ok_bf (ok_lf pc ok_X4_basesItCanBeIn_7) (ok_lf pc ok_X4_basesItCanBeIn_5))) (ok_bf (ok_bf (ok_bf (ok_lf pc ok_X4_basesItCanBeIn_4) (ok_lf pc ok_X4_basesItCanBeIn_3)) (ok_lf pc ok_X4_basesItCanBeIn_2)) (ok_bf (ok_lf pc ok_X4_basesItCanBeIn_1) (ok_lf pc ok_X4_basesItCanBeIn_0)))))
theorem mo_X4_basesItCanBeIn (pc : Nat) : mo_S (cd_X4_basesItCanBeIn pc) :=
  (mo_bf (mo_bf (mo_bf (mo_bf (mo_bf (mo_bf mo_ret mo_no) (mo_bf mo_ld mo_no)) (mo_bf mo_go mo_no)) (mo_bf (mo_bf (mo_bf mo_inc mo_no) (mo_bf mo_st mo_no)) (mo_bf mo_i2 mo_no))) (mo_bf (mo_bf (mo_bf (mo_bf mo_i2 mo_no) (mo_bf mo_ld mo_no)) (mo_bf mo_push mo_no)) (mo_bf (mo_bf mo_ld mo_no) (mo_bf mo_if mo_no)))) (mo_bf (mo_bf (mo_bf (mo_bf (mo_bf mo_cu mo_no) (mo_bf mo_ld mo_no)) (mo_bf mo_ld mo_no)) (mo_bf (mo_bf mo_ic mo_no) (mo_bf mo_push mo_no))) (mo_bf (mo_bf (mo_bf (mo_bf mo_ld mo_no) (mo_bf mo_st mo_no)) (mo_bf mo_push mo_no)) (mo_bf (mo_bf mo_st mo_no) (mo_bf mo_push mo_no)))))
theorem ok_X4_grown_0 : ok_S 46 0 (sf_ld 0 1 1) := ok_iload_n (by decide +kernel : decode (mb_ 46) 0 = .ok (.iload_n 1, 1)) rfl
theorem ok_X4_grown_1 : ok_S 46 1 (sf_st 0 5 3) := ok_istore (by decide +kernel : decode (mb_ 46) 1 = .ok (.istore 5, 2))
theorem ok_X4_grown_3 : ok_S 46 3 (sf_ld 0 3 4) := ok_iload_n (by decide +kernel : decode (mb_ 46) 3 = .ok (.iload_n 3, 1)) rfl
theorem ok_X4_grown_4 : ok_S 46 4 (sf_st 0 6 6) := ok_istore (by decide +kernel : decode (mb_ 46) 4 = .ok (.istore 6, 2))
theorem ok_X4_grown_6 : ok_S 46 6 (sf_ld 0 6 8) := ok_iload (by decide +kernel : decode (mb_ 46) 6 = .ok (.iload 6, 2))
theorem ok_X4_grown_8 : ok_S 46 8 (sf_ld 0 4 10) := ok_iload (by decide +kernel : decode (mb_ 46) 8 = .ok (.iload 4, 2))
theorem ok_X4_grown_10 : ok_S 46 10 (sf_ic 3 33 13) := ok_ic3 (by decide +kernel : decode (mb_ 46) 10 = .ok (.if_icmp .ge 23, 3)) (by decide)
theorem ok_X4_grown_13 : ok_S 46 13 (sf_ld 0 5 15) := ok_iload (by decide +kernel : decode (mb_ 46) 13 = .ok (.iload 5, 2))
theorem ok_X4_grown_15 : ok_S 46 15 (sf_ld 0 2 16) := ok_iload_n (by decide +kernel : decode (mb_ 46) 15 = .ok (.iload_n 2, 1)) rfl
theorem ok_X4_grown_16 : ok_S 46 16 (sf_i2 mx_mul 17) := ok_imul (by decide +kernel : decode (mb_ 46) 16 = .ok (.imul, 1))
theorem ok_X4_grown_17 : ok_S 46 17 (sf_ld 2 0 18) := ok_aload_n (by decide +kernel : decode (mb_ 46) 17 = .ok (.aload_n 0, 1)) rfl
theorem ok_X4_grown_18 : ok_S 46 18 (sf_gr 1 6 2 21) := ok_gr fd_1_2 (by decide +kernel : decode (mb_ 46) 18 = .ok (.getfield 21, 3)) tw_415 (Or.inl rfl) rfl
theorem ok_X4_grown_21 : ok_S 46 21 (sf_ld 0 6 23) := ok_iload (by decide +kernel : decode (mb_ 46) 21 = .ok (.iload 6, 2))
theorem ok_X4_grown_23 : ok_S 46 23 (sf_iald 24) := ok_iald (by decide +kernel : decode (mb_ 46) 23 = .ok (.iaload, 1))
theorem ok_X4_grown_24 : ok_S 46 24 (sf_i2 mx_add 25) := ok_iadd (by decide +kernel : decode (mb_ 46) 24 = .ok (.iadd, 1))
theorem ok_X4_grown_25 : ok_S 46 25 (sf_st 0 5 27) := ok_istore (by decide +kernel : decode (mb_ 46) 25 = .ok (.istore 5, 2))
theorem ok_X4_grown_27 : ok_S 46 27 (sf_inc 6 1 30) := ok_iinc (by decide +kernel : decode (mb_ 46) 27 = .ok (.iinc 6 1, 3))
theorem ok_X4_grown_30 : ok_S 46 30 (sf_go 6) := ok_goto (by decide +kernel : decode (mb_ 46) 30 = .ok (.goto (-24), 3)) (by decide)
theorem ok_X4_grown_33 : ok_S 46 33 (sf_ld 0 5 35) := ok_iload (by decide +kernel : decode (mb_ 46) 33 = .ok (.iload 5, 2))
theorem ok_X4_grown_35 : ok_S 46 35 (sf_ret 0) := ok_ret0 (by decide +kernel : decode (mb_ 46) 35 = .ok (.ireturn, 1)) rfl
theorem ok_X4_grown (pc : Nat) : ok_S 46 pc (cd_X4_grown pc) :=
  (ok_bf (ok_bf (ok_bf (ok_bf (ok_bf (ok_lf pc ok_X4_grown_35) (ok_lf pc ok_X4_grown_33)) (ok_lf pc ok_X4_grown_30)) (ok_bf (ok_lf pc ok_X4_grown_27) (ok_lf pc ok_X4_grown_25))) (ok_bf (ok_bf (ok_bf (ok_lf pc ok_X4_grown_24) (ok_lf pc ok_X4_grown_23)) (ok_lf pc ok_X4_grown_21)) (ok_bf (ok_lf pc ok_X4_grown_18) (ok_lf pc ok_X4_grown_17)))) (ok_bf (ok_bf (ok_bf (ok_bf (ok_lf pc ok_X4_grown_16) (ok_lf pc ok_X4_grown_15)) (ok_lf pc ok_X4_grown_13)) (ok_bf (ok_lf pc ok_X4_grown_10) (ok_lf pc ok_X4_grown_8))) (ok_bf (ok_bf (ok_bf (ok_lf pc ok_X4_grown_6) (ok_lf pc ok_X4_grown_4)) (ok_lf pc ok_X4_grown_3)) (ok_bf (ok_lf pc ok_X4_grown_1) (ok_lf pc ok_X4_grown_0)))))
theorem mo_X4_grown (pc : Nat) : mo_S (cd_X4_grown pc) :=
  (mo_bf (mo_bf (mo_bf (mo_bf (mo_bf (mo_bf mo_ret mo_no) (mo_bf mo_ld mo_no)) (mo_bf mo_go mo_no)) (mo_bf (mo_bf mo_inc mo_no) (mo_bf mo_st mo_no))) (mo_bf (mo_bf (mo_bf (mo_bf mo_i2 mo_no) (mo_bf mo_iald mo_no)) (mo_bf mo_ld mo_no)) (mo_bf (mo_bf mo_gr mo_no) (mo_bf mo_ld mo_no)))) (mo_bf (mo_bf (mo_bf (mo_bf (mo_bf mo_i2 mo_no) (mo_bf mo_ld mo_no)) (mo_bf mo_ld mo_no)) (mo_bf (mo_bf mo_ic mo_no) (mo_bf mo_ld mo_no))) (mo_bf (mo_bf (mo_bf (mo_bf mo_ld mo_no) (mo_bf mo_st mo_no)) (mo_bf mo_ld mo_no)) (mo_bf (mo_bf mo_st mo_no) (mo_bf mo_ld mo_no)))))
theorem ok_X4_allBelow_0 : ok_S 47 0 (sf_ld 0 2 1) := ok_iload_n (by decide +kernel : decode (mb_ 47) 0 = .ok (.iload_n 2, 1)) rfl
theorem ok_X4_allBelow_1 : ok_S 47 1 (sf_st 0 4 3) := ok_istore (by decide +kernel : decode (mb_ 47) 1 = .ok (.istore 4, 2))
theorem ok_X4_allBelow_3 : ok_S 47 3 (sf_ld 0 4 5) := ok_iload (by decide +kernel : decode (mb_ 47) 3 = .ok (.iload 4, 2))
theorem ok_X4_allBelow_5 : ok_S 47 5 (sf_ld 0 3 6) := ok_iload_n (by decide +kernel : decode (mb_ 47) 5 = .ok (.iload_n 3, 1)) rfl
theorem ok_X4_allBelow_6 : ok_S 47 6 (sf_ic 3 28 9) := ok_ic3 (by decide +kernel : decode (mb_ 47) 6 = .ok (.if_icmp .ge 22, 3)) (by decide)
theorem ok_X4_allBelow_9 : ok_S 47 9 (sf_ld 2 0 10) := ok_aload_n (by decide +kernel : decode (mb_ 47) 9 = .ok (.aload_n 0, 1)) rfl
theorem ok_X4_allBelow_10 : ok_S 47 10 (sf_gr 1 6 2 13) := ok_gr fd_1_2 (by decide +kernel : decode (mb_ 47) 10 = .ok (.getfield 21, 3)) tw_415 (Or.inl rfl) rfl
theorem ok_X4_allBelow_13 : ok_S 47 13 (sf_ld 0 4 15) := ok_iload (by decide +kernel : decode (mb_ 47) 13 = .ok (.iload 4, 2))
theorem ok_X4_allBelow_15 : ok_S 47 15 (sf_iald 16) := ok_iald (by decide +kernel : decode (mb_ 47) 15 = .ok (.iaload, 1))
theorem ok_X4_allBelow_16 : ok_S 47 16 (sf_ld 0 1 17) := ok_iload_n (by decide +kernel : decode (mb_ 47) 16 = .ok (.iload_n 1, 1)) rfl
theorem ok_X4_allBelow_17 : ok_S 47 17 (sf_ic 2 22 20) := ok_ic2 (by decide +kernel : decode (mb_ 47) 17 = .ok (.if_icmp .lt 5, 3)) (by decide)
theorem ok_X4_allBelow_20 : ok_S 47 20 (sf_push (0, 0) 21) := ok_iconst (by decide +kernel : decode (mb_ 47) 20 = .ok (.iconst 0, 1)) ⟨by decide, by decide⟩
theorem ok_X4_allBelow_21 : ok_S 47 21 (sf_rr 0 1) := ok_rr (by decide +kernel : decode (mb_ 47) 21 = .ok (.ireturn, 1)) rfl (so_nz .boolean rfl rfl)
theorem ok_X4_allBelow_22 : ok_S 47 22 (sf_inc 4 1 25) := ok_iinc (by decide +kernel : decode (mb_ 47) 22 = .ok (.iinc 4 1, 3))
theorem ok_X4_allBelow_25 : ok_S 47 25 (sf_go 3) := ok_goto (by decide +kernel : decode (mb_ 47) 25 = .ok (.goto (-22), 3)) (by decide)
theorem ok_X4_allBelow_28 : ok_S 47 28 (sf_push (0, 1) 29) := ok_iconst (by decide +kernel : decode (mb_ 47) 28 = .ok (.iconst 1, 1)) ⟨by decide, by decide⟩
theorem ok_X4_allBelow_29 : ok_S 47 29 (sf_rr 0 1) := ok_rr (by decide +kernel : decode (mb_ 47) 29 = .ok (.ireturn, 1)) rfl (so_nz .boolean rfl rfl)
theorem ok_X4_allBelow (pc : Nat) : ok_S 47 pc (cd_X4_allBelow pc) :=
  (ok_bf (ok_bf (ok_bf (ok_bf (ok_bf (ok_lf pc ok_X4_allBelow_29) (ok_lf pc ok_X4_allBelow_28)) (ok_lf pc ok_X4_allBelow_25)) (ok_bf (ok_lf pc ok_X4_allBelow_22) (ok_lf pc ok_X4_allBelow_21))) (ok_bf (ok_bf (ok_lf pc ok_X4_allBelow_20) (ok_lf pc ok_X4_allBelow_17)) (ok_bf (ok_lf pc ok_X4_allBelow_16) (ok_lf pc ok_X4_allBelow_15)))) (ok_bf (ok_bf (ok_bf (ok_lf pc ok_X4_allBelow_13) (ok_lf pc ok_X4_allBelow_10)) (ok_bf (ok_lf pc ok_X4_allBelow_9) (ok_lf pc ok_X4_allBelow_6))) (ok_bf (ok_bf (ok_lf pc ok_X4_allBelow_5) (ok_lf pc ok_X4_allBelow_3)) (ok_bf (ok_lf pc ok_X4_allBelow_1) (ok_lf pc ok_X4_allBelow_0)))))
theorem mo_X4_allBelow (pc : Nat) : mo_S (cd_X4_allBelow pc) :=
  (mo_bf (mo_bf (mo_bf (mo_bf (mo_bf (mo_bf mo_rr mo_no) (mo_bf mo_push mo_no)) (mo_bf mo_go mo_no)) (mo_bf (mo_bf mo_inc mo_no) (mo_bf mo_rr mo_no))) (mo_bf (mo_bf (mo_bf mo_push mo_no) (mo_bf mo_ic mo_no)) (mo_bf (mo_bf mo_ld mo_no) (mo_bf mo_iald mo_no)))) (mo_bf (mo_bf (mo_bf (mo_bf mo_ld mo_no) (mo_bf mo_gr mo_no)) (mo_bf (mo_bf mo_ld mo_no) (mo_bf mo_ic mo_no))) (mo_bf (mo_bf (mo_bf mo_ld mo_no) (mo_bf mo_ld mo_no)) (mo_bf (mo_bf mo_st mo_no) (mo_bf mo_ld mo_no)))))
theorem ok_X4_reads_0 : ok_S 48 0 (sf_ld 2 2 1) := ok_aload_n (by decide +kernel : decode (mb_ 48) 0 = .ok (.aload_n 2, 1)) rfl
theorem ok_X4_reads_1 : ok_S 48 1 (sf_gr 11 11 0 4) := ok_gr fd_11_0 (by decide +kernel : decode (mb_ 48) 1 = .ok (.getfield 50, 3)) tw_187 (Or.inl rfl) rfl
theorem ok_X4_reads_4 : ok_S 48 4 (sf_ld 2 2 5) := ok_aload_n (by decide +kernel : decode (mb_ 48) 4 = .ok (.aload_n 2, 1)) rfl
theorem ok_X4_reads_5 : ok_S 48 5 (sf_dup 6) := ok_dup (by decide +kernel : decode (mb_ 48) 5 = .ok (.dup, 1))
theorem ok_X4_reads_6 : ok_S 48 6 (sf_gi 11 11 1 9) := ok_gi fd_11_1 (by decide +kernel : decode (mb_ 48) 6 = .ok (.getfield 55, 3)) tw_195 (Or.inl rfl) rfl
theorem ok_X4_reads_9 : ok_S 48 9 (sf_dx1 10) := ok_dx1 (by decide +kernel : decode (mb_ 48) 9 = .ok (.dup_x1, 1))
theorem ok_X4_reads_10 : ok_S 48 10 (sf_push (0, 1) 11) := ok_iconst (by decide +kernel : decode (mb_ 48) 10 = .ok (.iconst 1, 1)) ⟨by decide, by decide⟩
theorem ok_X4_reads_11 : ok_S 48 11 (sf_i2 mx_add 12) := ok_iadd (by decide +kernel : decode (mb_ 48) 11 = .ok (.iadd, 1))
theorem ok_X4_reads_12 : ok_S 48 12 (sf_pi 11 11 1 15) := ok_pi fd_11_1 (by decide +kernel : decode (mb_ 48) 12 = .ok (.putfield 55, 3)) tw_195 rfl (Or.inl ff_11_1) rfl
theorem ok_X4_reads_15 : ok_S 48 15 (sf_push (0, 31) 17) := ok_bipush (by decide +kernel : decode (mb_ 48) 15 = .ok (.bipush 31, 2)) ⟨by decide, by decide⟩ (by decide +kernel)
theorem ok_X4_reads_17 : ok_S 48 17 (sf_i2 mx_and 18) := ok_iand (by decide +kernel : decode (mb_ 48) 17 = .ok (.iand, 1))
theorem ok_X4_reads_18 : ok_S 48 18 (sf_push (0, 10) 20) := ok_bipush (by decide +kernel : decode (mb_ 48) 18 = .ok (.bipush 10, 2)) ⟨by decide, by decide⟩ (by decide +kernel)
theorem ok_X4_reads_20 : ok_S 48 20 (sf_iast 21) := ok_iast (by decide +kernel : decode (mb_ 48) 20 = .ok (.iastore, 1))
theorem ok_X4_reads_21 : ok_S 48 21 (sf_ld 0 1 22) := ok_iload_n (by decide +kernel : decode (mb_ 48) 21 = .ok (.iload_n 1, 1)) rfl
theorem ok_X4_reads_22 : ok_S 48 22 (sf_ld 2 0 23) := ok_aload_n (by decide +kernel : decode (mb_ 48) 22 = .ok (.aload_n 0, 1)) rfl
theorem ok_X4_reads_23 : ok_S 48 23 (sf_gi 1 6 0 26) := ok_gi fd_1_0 (by decide +kernel : decode (mb_ 48) 23 = .ok (.getfield 9, 3)) tw_397 (Or.inl rfl) rfl
theorem ok_X4_reads_26 : ok_S 48 26 (sf_i2 mx_add 27) := ok_iadd (by decide +kernel : decode (mb_ 48) 26 = .ok (.iadd, 1))
theorem ok_X4_reads_27 : ok_S 48 27 (sf_ret 0) := ok_ret0 (by decide +kernel : decode (mb_ 48) 27 = .ok (.ireturn, 1)) rfl
theorem ok_X4_reads (pc : Nat) : ok_S 48 pc (cd_X4_reads pc) :=
  (ok_bf (ok_bf (ok_bf (ok_bf (ok_bf (ok_lf pc ok_X4_reads_27) (ok_lf pc ok_X4_reads_26)) (ok_lf pc ok_X4_reads_23)) (ok_bf (ok_lf pc ok_X4_reads_22) (ok_lf pc ok_X4_reads_21))) (ok_bf (ok_bf (ok_lf pc ok_X4_reads_20) (ok_lf pc ok_X4_reads_18)) (ok_bf (ok_lf pc ok_X4_reads_17) (ok_lf pc ok_X4_reads_15)))) (ok_bf (ok_bf (ok_bf (ok_bf (ok_lf pc ok_X4_reads_12) (ok_lf pc ok_X4_reads_11)) (ok_lf pc ok_X4_reads_10)) (ok_bf (ok_lf pc ok_X4_reads_9) (ok_lf pc ok_X4_reads_6))) (ok_bf (ok_bf (ok_lf pc ok_X4_reads_5) (ok_lf pc ok_X4_reads_4)) (ok_bf (ok_lf pc ok_X4_reads_1) (ok_lf pc ok_X4_reads_0)))))
theorem mo_X4_reads (pc : Nat) : mo_S (cd_X4_reads pc) :=
  (mo_bf (mo_bf (mo_bf (mo_bf (mo_bf (mo_bf mo_ret mo_no) (mo_bf mo_i2 mo_no)) (mo_bf mo_gi mo_no)) (mo_bf (mo_bf mo_ld mo_no) (mo_bf mo_ld mo_no))) (mo_bf (mo_bf (mo_bf mo_iast mo_no) (mo_bf mo_push mo_no)) (mo_bf (mo_bf mo_i2 mo_no) (mo_bf mo_push mo_no)))) (mo_bf (mo_bf (mo_bf (mo_bf (mo_bf mo_pi mo_no) (mo_bf mo_i2 mo_no)) (mo_bf mo_push mo_no)) (mo_bf (mo_bf mo_dx1 mo_no) (mo_bf mo_gi mo_no))) (mo_bf (mo_bf (mo_bf mo_dup mo_no) (mo_bf mo_ld mo_no)) (mo_bf (mo_bf mo_gr mo_no) (mo_bf mo_ld mo_no)))))
theorem ok_X4_writes_0 : ok_S 49 0 (sf_ld 2 2 1) := ok_aload_n (by decide +kernel : decode (mb_ 49) 0 = .ok (.aload_n 2, 1)) rfl
theorem ok_X4_writes_1 : ok_S 49 1 (sf_gr 11 11 0 4) := ok_gr fd_11_0 (by decide +kernel : decode (mb_ 49) 1 = .ok (.getfield 50, 3)) tw_187 (Or.inl rfl) rfl
theorem ok_X4_writes_4 : ok_S 49 4 (sf_ld 2 2 5) := ok_aload_n (by decide +kernel : decode (mb_ 49) 4 = .ok (.aload_n 2, 1)) rfl
theorem ok_X4_writes_5 : ok_S 49 5 (sf_dup 6) := ok_dup (by decide +kernel : decode (mb_ 49) 5 = .ok (.dup, 1))
theorem ok_X4_writes_6 : ok_S 49 6 (sf_gi 11 11 1 9) := ok_gi fd_11_1 (by decide +kernel : decode (mb_ 49) 6 = .ok (.getfield 55, 3)) tw_195 (Or.inl rfl) rfl
theorem ok_X4_writes_9 : ok_S 49 9 (sf_dx1 10) := ok_dx1 (by decide +kernel : decode (mb_ 49) 9 = .ok (.dup_x1, 1))
theorem ok_X4_writes_10 : ok_S 49 10 (sf_push (0, 1) 11) := ok_iconst (by decide +kernel : decode (mb_ 49) 10 = .ok (.iconst 1, 1)) ⟨by decide, by decide⟩
theorem ok_X4_writes_11 : ok_S 49 11 (sf_i2 mx_add 12) := ok_iadd (by decide +kernel : decode (mb_ 49) 11 = .ok (.iadd, 1))
theorem ok_X4_writes_12 : ok_S 49 12 (sf_pi 11 11 1 15) := ok_pi fd_11_1 (by decide +kernel : decode (mb_ 49) 12 = .ok (.putfield 55, 3)) tw_195 rfl (Or.inl ff_11_1) rfl
theorem ok_X4_writes_15 : ok_S 49 15 (sf_push (0, 31) 17) := ok_bipush (by decide +kernel : decode (mb_ 49) 15 = .ok (.bipush 31, 2)) ⟨by decide, by decide⟩ (by decide +kernel)
theorem ok_X4_writes_17 : ok_S 49 17 (sf_i2 mx_and 18) := ok_iand (by decide +kernel : decode (mb_ 49) 17 = .ok (.iand, 1))
theorem ok_X4_writes_18 : ok_S 49 18 (sf_push (0, 11) 20) := ok_bipush (by decide +kernel : decode (mb_ 49) 18 = .ok (.bipush 11, 2)) ⟨by decide, by decide⟩ (by decide +kernel)
theorem ok_X4_writes_20 : ok_S 49 20 (sf_iast 21) := ok_iast (by decide +kernel : decode (mb_ 49) 20 = .ok (.iastore, 1))
theorem ok_X4_writes_21 : ok_S 49 21 (sf_ld 2 0 22) := ok_aload_n (by decide +kernel : decode (mb_ 49) 21 = .ok (.aload_n 0, 1)) rfl
theorem ok_X4_writes_22 : ok_S 49 22 (sf_ld 0 1 23) := ok_iload_n (by decide +kernel : decode (mb_ 49) 22 = .ok (.iload_n 1, 1)) rfl
theorem ok_X4_writes_23 : ok_S 49 23 (sf_ld 2 2 24) := ok_aload_n (by decide +kernel : decode (mb_ 49) 23 = .ok (.aload_n 2, 1)) rfl
theorem ok_X4_writes_24 : ok_S 49 24 (sf_cu [(1, 48), (2, 48), (3, 5), (4, 36), (5, 48), (6, 11)] [2, 0, 2] 27) := ok_cu (x := ⟨"RoomNumbers$Note", "reads", "(ILRoomNumbers$Trace;)I"⟩) (ow := "RoomNumbers$Note") ⟨tw_1043, tw_1006, tw_1004, ⟨_, _, _, tw_1023⟩, mh_ok rfl, (by decide +kernel)⟩ (List.forall_mem_cons.mpr ⟨⟨"RoomNumbers$Note", cl_1, mt_48, tw_1005, tw_1004, tw_14, by decide, by decide⟩, (List.forall_mem_cons.mpr ⟨⟨"RoomNumbers$Strokes", cl_2, mt_48, tw_1021, tw_1004, tw_14, by decide, by decide⟩, (List.forall_mem_cons.mpr ⟨⟨"RoomNumbers$Broken", cl_3, mt_5, tw_1007, tw_1008, tw_16, by decide, by decide⟩, (List.forall_mem_cons.mpr ⟨⟨"RoomNumbers$Left", cl_4, mt_36, tw_1017, tw_1018, tw_17, by decide, by decide⟩, (List.forall_mem_cons.mpr ⟨⟨"RoomNumbers$Turned", cl_5, mt_48, tw_1022, tw_1004, tw_14, by decide, by decide⟩, (List.forall_mem_cons.mpr ⟨⟨"RoomNumbers$Debt", cl_6, mt_11, tw_1011, tw_1012, tw_19, by decide, by decide⟩, (fun _ h => absurd h List.not_mem_nil)⟩)⟩)⟩)⟩)⟩)⟩) (by decide +kernel : decode (mb_ 49) 24 = .ok (.invokevirtual 58, 3)) rfl
theorem ok_X4_writes_27 : ok_S 49 27 (sf_push (0, 2) 28) := ok_iconst (by decide +kernel : decode (mb_ 49) 27 = .ok (.iconst 2, 1)) ⟨by decide, by decide⟩
theorem ok_X4_writes_28 : ok_S 49 28 (sf_i2 mx_mul 29) := ok_imul (by decide +kernel : decode (mb_ 49) 28 = .ok (.imul, 1))
theorem ok_X4_writes_29 : ok_S 49 29 (sf_ret 0) := ok_ret0 (by decide +kernel : decode (mb_ 49) 29 = .ok (.ireturn, 1)) rfl
theorem ok_X4_writes (pc : Nat) : ok_S 49 pc (cd_X4_writes pc) :=
  (ok_bf (ok_bf (ok_bf (ok_bf (ok_bf (ok_lf pc ok_X4_writes_29) (ok_lf pc ok_X4_writes_28)) (ok_lf pc ok_X4_writes_27)) (ok_bf (ok_lf pc ok_X4_writes_24) (ok_lf pc ok_X4_writes_23))) (ok_bf (ok_bf (ok_bf (ok_lf pc ok_X4_writes_22) (ok_lf pc ok_X4_writes_21)) (ok_lf pc ok_X4_writes_20)) (ok_bf (ok_lf pc ok_X4_writes_18) (ok_lf pc ok_X4_writes_17)))) (ok_bf (ok_bf (ok_bf (ok_bf (ok_lf pc ok_X4_writes_15) (ok_lf pc ok_X4_writes_12)) (ok_lf pc ok_X4_writes_11)) (ok_bf (ok_lf pc ok_X4_writes_10) (ok_lf pc ok_X4_writes_9))) (ok_bf (ok_bf (ok_bf (ok_lf pc ok_X4_writes_6) (ok_lf pc ok_X4_writes_5)) (ok_lf pc ok_X4_writes_4)) (ok_bf (ok_lf pc ok_X4_writes_1) (ok_lf pc ok_X4_writes_0)))))
theorem mo_X4_writes (pc : Nat) : mo_S (cd_X4_writes pc) :=
  (mo_bf (mo_bf (mo_bf (mo_bf (mo_bf (mo_bf mo_ret mo_no) (mo_bf mo_i2 mo_no)) (mo_bf mo_push mo_no)) (mo_bf (mo_bf mo_cu mo_no) (mo_bf mo_ld mo_no))) (mo_bf (mo_bf (mo_bf (mo_bf mo_ld mo_no) (mo_bf mo_ld mo_no)) (mo_bf mo_iast mo_no)) (mo_bf (mo_bf mo_push mo_no) (mo_bf mo_i2 mo_no)))) (mo_bf (mo_bf (mo_bf (mo_bf (mo_bf mo_push mo_no) (mo_bf mo_pi mo_no)) (mo_bf mo_i2 mo_no)) (mo_bf (mo_bf mo_push mo_no) (mo_bf mo_dx1 mo_no))) (mo_bf (mo_bf (mo_bf (mo_bf mo_gi mo_no) (mo_bf mo_dup mo_no)) (mo_bf mo_ld mo_no)) (mo_bf (mo_bf mo_gr mo_no) (mo_bf mo_ld mo_no)))))
theorem ok_X4_shares_0 : ok_S 50 0 (sf_ld 2 2 1) := ok_aload_n (by decide +kernel : decode (mb_ 50) 0 = .ok (.aload_n 2, 1)) rfl
theorem ok_X4_shares_1 : ok_S 50 1 (sf_gr 11 11 0 4) := ok_gr fd_11_0 (by decide +kernel : decode (mb_ 50) 1 = .ok (.getfield 50, 3)) tw_187 (Or.inl rfl) rfl
theorem ok_X4_shares_4 : ok_S 50 4 (sf_ld 2 2 5) := ok_aload_n (by decide +kernel : decode (mb_ 50) 4 = .ok (.aload_n 2, 1)) rfl
theorem ok_X4_shares_5 : ok_S 50 5 (sf_dup 6) := ok_dup (by decide +kernel : decode (mb_ 50) 5 = .ok (.dup, 1))
theorem ok_X4_shares_6 : ok_S 50 6 (sf_gi 11 11 1 9) := ok_gi fd_11_1 (by decide +kernel : decode (mb_ 50) 6 = .ok (.getfield 55, 3)) tw_195 (Or.inl rfl) rfl
theorem ok_X4_shares_9 : ok_S 50 9 (sf_dx1 10) := ok_dx1 (by decide +kernel : decode (mb_ 50) 9 = .ok (.dup_x1, 1))
theorem ok_X4_shares_10 : ok_S 50 10 (sf_push (0, 1) 11) := ok_iconst (by decide +kernel : decode (mb_ 50) 10 = .ok (.iconst 1, 1)) ⟨by decide, by decide⟩
theorem ok_X4_shares_11 : ok_S 50 11 (sf_i2 mx_add 12) := ok_iadd (by decide +kernel : decode (mb_ 50) 11 = .ok (.iadd, 1))
theorem ok_X4_shares_12 : ok_S 50 12 (sf_pi 11 11 1 15) := ok_pi fd_11_1 (by decide +kernel : decode (mb_ 50) 12 = .ok (.putfield 55, 3)) tw_195 rfl (Or.inl ff_11_1) rfl
theorem ok_X4_shares_15 : ok_S 50 15 (sf_push (0, 31) 17) := ok_bipush (by decide +kernel : decode (mb_ 50) 15 = .ok (.bipush 31, 2)) ⟨by decide, by decide⟩ (by decide +kernel)
theorem ok_X4_shares_17 : ok_S 50 17 (sf_i2 mx_and 18) := ok_iand (by decide +kernel : decode (mb_ 50) 17 = .ok (.iand, 1))
theorem ok_X4_shares_18 : ok_S 50 18 (sf_push (0, 12) 20) := ok_bipush (by decide +kernel : decode (mb_ 50) 18 = .ok (.bipush 12, 2)) ⟨by decide, by decide⟩ (by decide +kernel)
theorem ok_X4_shares_20 : ok_S 50 20 (sf_iast 21) := ok_iast (by decide +kernel : decode (mb_ 50) 20 = .ok (.iastore, 1))
theorem ok_X4_shares_21 : ok_S 50 21 (sf_ld 2 0 22) := ok_aload_n (by decide +kernel : decode (mb_ 50) 21 = .ok (.aload_n 0, 1)) rfl
theorem ok_X4_shares_22 : ok_S 50 22 (sf_gi 1 6 1 25) := ok_gi fd_1_1 (by decide +kernel : decode (mb_ 50) 22 = .ok (.getfield 18, 3)) tw_406 (Or.inl rfl) rfl
theorem ok_X4_shares_25 : ok_S 50 25 (sf_ld 2 0 26) := ok_aload_n (by decide +kernel : decode (mb_ 50) 25 = .ok (.aload_n 0, 1)) rfl
theorem ok_X4_shares_26 : ok_S 50 26 (sf_gi 1 6 0 29) := ok_gi fd_1_0 (by decide +kernel : decode (mb_ 50) 26 = .ok (.getfield 9, 3)) tw_397 (Or.inl rfl) rfl
theorem ok_X4_shares_29 : ok_S 50 29 (sf_i2 mx_sub 30) := ok_isub (by decide +kernel : decode (mb_ 50) 29 = .ok (.isub, 1))
theorem ok_X4_shares_30 : ok_S 50 30 (sf_st 0 3 31) := ok_istore_n (by decide +kernel : decode (mb_ 50) 30 = .ok (.istore_n 3, 1)) rfl
theorem ok_X4_shares_31 : ok_S 50 31 (sf_ld 0 3 32) := ok_iload_n (by decide +kernel : decode (mb_ 50) 31 = .ok (.iload_n 3, 1)) rfl
theorem ok_X4_shares_32 : ok_S 50 32 (sf_if 0 39 35) := ok_if0 (by decide +kernel : decode (mb_ 50) 32 = .ok (.ifCond .eq 7, 3)) (by decide)
theorem ok_X4_shares_35 : ok_S 50 35 (sf_ld 0 1 36) := ok_iload_n (by decide +kernel : decode (mb_ 50) 35 = .ok (.iload_n 1, 1)) rfl
theorem ok_X4_shares_36 : ok_S 50 36 (sf_ld 0 3 37) := ok_iload_n (by decide +kernel : decode (mb_ 50) 36 = .ok (.iload_n 3, 1)) rfl
theorem ok_X4_shares_37 : ok_S 50 37 (sf_i2d mx_div 38) := ok_idiv (by decide +kernel : decode (mb_ 50) 37 = .ok (.idiv, 1))
theorem ok_X4_shares_38 : ok_S 50 38 (sf_ret 0) := ok_ret0 (by decide +kernel : decode (mb_ 50) 38 = .ok (.ireturn, 1)) rfl
theorem ok_X4_shares_39 : ok_S 50 39 (sf_ld 2 2 40) := ok_aload_n (by decide +kernel : decode (mb_ 50) 39 = .ok (.aload_n 2, 1)) rfl
theorem ok_X4_shares_40 : ok_S 50 40 (sf_cv 11 [2] 76 43) := ok_cv mt_76 cl_11 (by decide +kernel : decode (mb_ 50) 40 = .ok (.invokevirtual 62, 3)) tw_1065 tw_1066 tw_1067 tw_6 rfl (by decide +kernel) (mh_ok rfl) (by decide) (by decide)
theorem ok_X4_shares_43 : ok_S 50 43 (sf_push (0, 0) 44) := ok_iconst (by decide +kernel : decode (mb_ 50) 43 = .ok (.iconst 0, 1)) ⟨by decide, by decide⟩
theorem ok_X4_shares_44 : ok_S 50 44 (sf_ret 0) := ok_ret0 (by decide +kernel : decode (mb_ 50) 44 = .ok (.ireturn, 1)) rfl
theorem ok_X4_shares (pc : Nat) : ok_S 50 pc (cd_X4_shares pc) :=
  (ok_bf (ok_bf (ok_bf (ok_bf (ok_bf (ok_lf pc ok_X4_shares_44) (ok_lf pc ok_X4_shares_43)) (ok_bf (ok_lf pc ok_X4_shares_40) (ok_lf pc ok_X4_shares_39))) (ok_bf (ok_bf (ok_lf pc ok_X4_shares_38) (ok_lf pc ok_X4_shares_37)) (ok_bf (ok_lf pc ok_X4_shares_36) (ok_lf pc ok_X4_shares_35)))) (ok_bf (ok_bf (ok_bf (ok_lf pc ok_X4_shares_32) (ok_lf pc ok_X4_shares_31)) (ok_bf (ok_lf pc ok_X4_shares_30) (ok_lf pc ok_X4_shares_29))) (ok_bf (ok_bf (ok_lf pc ok_X4_shares_26) (ok_lf pc ok_X4_shares_25)) (ok_lf pc ok_X4_shares_22)))) (ok_bf (ok_bf (ok_bf (ok_bf (ok_lf pc ok_X4_shares_21) (ok_lf pc ok_X4_shares_20)) (ok_bf (ok_lf pc ok_X4_shares_18) (ok_lf pc ok_X4_shares_17))) (ok_bf (ok_bf (ok_lf pc ok_X4_shares_15) (ok_lf pc ok_X4_shares_12)) (ok_lf pc ok_X4_shares_11))) (ok_bf (ok_bf (ok_bf (ok_lf pc ok_X4_shares_10) (ok_lf pc ok_X4_shares_9)) (ok_bf (ok_lf pc ok_X4_shares_6) (ok_lf pc ok_X4_shares_5))) (ok_bf (ok_bf (ok_lf pc ok_X4_shares_4) (ok_lf pc ok_X4_shares_1)) (ok_lf pc ok_X4_shares_0)))))
theorem mo_X4_shares (pc : Nat) : mo_S (cd_X4_shares pc) :=
  (mo_bf (mo_bf (mo_bf (mo_bf (mo_bf (mo_bf mo_ret mo_no) (mo_bf mo_push mo_no)) (mo_bf (mo_bf mo_cv mo_no) (mo_bf mo_ld mo_no))) (mo_bf (mo_bf (mo_bf mo_ret mo_no) (mo_bf mo_i2d mo_no)) (mo_bf (mo_bf mo_ld mo_no) (mo_bf mo_ld mo_no)))) (mo_bf (mo_bf (mo_bf (mo_bf mo_if mo_no) (mo_bf mo_ld mo_no)) (mo_bf (mo_bf mo_st mo_no) (mo_bf mo_i2 mo_no))) (mo_bf (mo_bf (mo_bf mo_gi mo_no) (mo_bf mo_ld mo_no)) (mo_bf mo_gi mo_no)))) (mo_bf (mo_bf (mo_bf (mo_bf (mo_bf mo_ld mo_no) (mo_bf mo_iast mo_no)) (mo_bf (mo_bf mo_push mo_no) (mo_bf mo_i2 mo_no))) (mo_bf (mo_bf (mo_bf mo_push mo_no) (mo_bf mo_pi mo_no)) (mo_bf mo_i2 mo_no))) (mo_bf (mo_bf (mo_bf (mo_bf mo_push mo_no) (mo_bf mo_dx1 mo_no)) (mo_bf (mo_bf mo_gi mo_no) (mo_bf mo_dup mo_no))) (mo_bf (mo_bf (mo_bf mo_ld mo_no) (mo_bf mo_gr mo_no)) (mo_bf mo_ld mo_no)))))
theorem ok_X4_tells_0 : ok_S 51 0 (sf_ld 2 2 1) := ok_aload_n (by decide +kernel : decode (mb_ 51) 0 = .ok (.aload_n 2, 1)) rfl
theorem ok_X4_tells_1 : ok_S 51 1 (sf_gr 11 11 0 4) := ok_gr fd_11_0 (by decide +kernel : decode (mb_ 51) 1 = .ok (.getfield 50, 3)) tw_187 (Or.inl rfl) rfl
theorem ok_X4_tells_4 : ok_S 51 4 (sf_ld 2 2 5) := ok_aload_n (by decide +kernel : decode (mb_ 51) 4 = .ok (.aload_n 2, 1)) rfl
theorem ok_X4_tells_5 : ok_S 51 5 (sf_dup 6) := ok_dup (by decide +kernel : decode (mb_ 51) 5 = .ok (.dup, 1))
theorem ok_X4_tells_6 : ok_S 51 6 (sf_gi 11 11 1 9) := ok_gi fd_11_1 (by decide +kernel : decode (mb_ 51) 6 = .ok (.getfield 55, 3)) tw_195 (Or.inl rfl) rfl
theorem ok_X4_tells_9 : ok_S 51 9 (sf_dx1 10) := ok_dx1 (by decide +kernel : decode (mb_ 51) 9 = .ok (.dup_x1, 1))
theorem ok_X4_tells_10 : ok_S 51 10 (sf_push (0, 1) 11) := ok_iconst (by decide +kernel : decode (mb_ 51) 10 = .ok (.iconst 1, 1)) ⟨by decide, by decide⟩
theorem ok_X4_tells_11 : ok_S 51 11 (sf_i2 mx_add 12) := ok_iadd (by decide +kernel : decode (mb_ 51) 11 = .ok (.iadd, 1))
theorem ok_X4_tells_12 : ok_S 51 12 (sf_pi 11 11 1 15) := ok_pi fd_11_1 (by decide +kernel : decode (mb_ 51) 12 = .ok (.putfield 55, 3)) tw_195 rfl (Or.inl ff_11_1) rfl
theorem ok_X4_tells_15 : ok_S 51 15 (sf_push (0, 31) 17) := ok_bipush (by decide +kernel : decode (mb_ 51) 15 = .ok (.bipush 31, 2)) ⟨by decide, by decide⟩ (by decide +kernel)
theorem ok_X4_tells_17 : ok_S 51 17 (sf_i2 mx_and 18) := ok_iand (by decide +kernel : decode (mb_ 51) 17 = .ok (.iand, 1))
theorem ok_X4_tells_18 : ok_S 51 18 (sf_push (0, 13) 20) := ok_bipush (by decide +kernel : decode (mb_ 51) 18 = .ok (.bipush 13, 2)) ⟨by decide, by decide⟩ (by decide +kernel)
theorem ok_X4_tells_20 : ok_S 51 20 (sf_iast 21) := ok_iast (by decide +kernel : decode (mb_ 51) 20 = .ok (.iastore, 1))
theorem ok_X4_tells_21 : ok_S 51 21 (sf_ld 2 0 22) := ok_aload_n (by decide +kernel : decode (mb_ 51) 21 = .ok (.aload_n 0, 1)) rfl
theorem ok_X4_tells_22 : ok_S 51 22 (sf_ld 0 1 23) := ok_iload_n (by decide +kernel : decode (mb_ 51) 22 = .ok (.iload_n 1, 1)) rfl
theorem ok_X4_tells_23 : ok_S 51 23 (sf_ld 2 2 24) := ok_aload_n (by decide +kernel : decode (mb_ 51) 23 = .ok (.aload_n 2, 1)) rfl
theorem ok_X4_tells_24 : ok_S 51 24 (sf_cu [(1, 49), (2, 58), (3, 49), (4, 37), (5, 49), (6, 58)] [2, 0, 2] 27) := ok_cu (x := ⟨"RoomNumbers$Note", "writes", "(ILRoomNumbers$Trace;)I"⟩) (ow := "RoomNumbers$Note") ⟨tw_1089, tw_1027, tw_1025, ⟨_, _, _, tw_1042⟩, mh_ok rfl, (by decide +kernel)⟩ (List.forall_mem_cons.mpr ⟨⟨"RoomNumbers$Note", cl_1, mt_49, tw_1026, tw_1025, tw_14, by decide, by decide⟩, (List.forall_mem_cons.mpr ⟨⟨"RoomNumbers$Strokes", cl_2, mt_58, tw_1040, tw_1030, tw_15, by decide, by decide⟩, (List.forall_mem_cons.mpr ⟨⟨"RoomNumbers$Broken", cl_3, mt_49, tw_1028, tw_1025, tw_14, by decide, by decide⟩, (List.forall_mem_cons.mpr ⟨⟨"RoomNumbers$Left", cl_4, mt_37, tw_1033, tw_1034, tw_17, by decide, by decide⟩, (List.forall_mem_cons.mpr ⟨⟨"RoomNumbers$Turned", cl_5, mt_49, tw_1041, tw_1025, tw_14, by decide, by decide⟩, (List.forall_mem_cons.mpr ⟨⟨"RoomNumbers$Debt", cl_6, mt_58, tw_1029, tw_1030, tw_15, by decide, by decide⟩, (fun _ h => absurd h List.not_mem_nil)⟩)⟩)⟩)⟩)⟩)⟩) (by decide +kernel : decode (mb_ 51) 24 = .ok (.invokevirtual 65, 3)) rfl
theorem ok_X4_tells_27 : ok_S 51 27 (sf_ld 2 0 28) := ok_aload_n (by decide +kernel : decode (mb_ 51) 27 = .ok (.aload_n 0, 1)) rfl
theorem ok_X4_tells_28 : ok_S 51 28 (sf_gi 1 6 1 31) := ok_gi fd_1_1 (by decide +kernel : decode (mb_ 51) 28 = .ok (.getfield 18, 3)) tw_406 (Or.inl rfl) rfl
theorem ok_X4_tells_31 : ok_S 51 31 (sf_i2 mx_xor 32) := ok_ixor (by decide +kernel : decode (mb_ 51) 31 = .ok (.ixor, 1))
theorem ok_X4_tells_32 : ok_S 51 32 (sf_ret 0) := ok_ret0 (by decide +kernel : decode (mb_ 51) 32 = .ok (.ireturn, 1)) rfl
theorem ok_X4_tells (pc : Nat) : ok_S 51 pc (cd_X4_tells pc) :=
  (ok_bf (ok_bf (ok_bf (ok_bf (ok_bf (ok_lf pc ok_X4_tells_32) (ok_lf pc ok_X4_tells_31)) (ok_lf pc ok_X4_tells_28)) (ok_bf (ok_bf (ok_lf pc ok_X4_tells_27) (ok_lf pc ok_X4_tells_24)) (ok_lf pc ok_X4_tells_23))) (ok_bf (ok_bf (ok_bf (ok_lf pc ok_X4_tells_22) (ok_lf pc ok_X4_tells_21)) (ok_lf pc ok_X4_tells_20)) (ok_bf (ok_lf pc ok_X4_tells_18) (ok_lf pc ok_X4_tells_17)))) (ok_bf (ok_bf (ok_bf (ok_bf (ok_lf pc ok_X4_tells_15) (ok_lf pc ok_X4_tells_12)) (ok_lf pc ok_X4_tells_11)) (ok_bf (ok_lf pc ok_X4_tells_10) (ok_lf pc ok_X4_tells_9))) (ok_bf (ok_bf (ok_bf (ok_lf pc ok_X4_tells_6) (ok_lf pc ok_X4_tells_5)) (ok_lf pc ok_X4_tells_4)) (ok_bf (ok_lf pc ok_X4_tells_1) (ok_lf pc ok_X4_tells_0)))))
theorem mo_X4_tells (pc : Nat) : mo_S (cd_X4_tells pc) :=
  (mo_bf (mo_bf (mo_bf (mo_bf (mo_bf (mo_bf mo_ret mo_no) (mo_bf mo_i2 mo_no)) (mo_bf mo_gi mo_no)) (mo_bf (mo_bf (mo_bf mo_ld mo_no) (mo_bf mo_cu mo_no)) (mo_bf mo_ld mo_no))) (mo_bf (mo_bf (mo_bf (mo_bf mo_ld mo_no) (mo_bf mo_ld mo_no)) (mo_bf mo_iast mo_no)) (mo_bf (mo_bf mo_push mo_no) (mo_bf mo_i2 mo_no)))) (mo_bf (mo_bf (mo_bf (mo_bf (mo_bf mo_push mo_no) (mo_bf mo_pi mo_no)) (mo_bf mo_i2 mo_no)) (mo_bf (mo_bf mo_push mo_no) (mo_bf mo_dx1 mo_no))) (mo_bf (mo_bf (mo_bf (mo_bf mo_gi mo_no) (mo_bf mo_dup mo_no)) (mo_bf mo_ld mo_no)) (mo_bf (mo_bf mo_gr mo_no) (mo_bf mo_ld mo_no)))))
theorem ok_X5_init_0 : ok_S 52 0 (sf_ld 2 0 1) := ok_aload_n (by decide +kernel : decode (mb_ 52) 0 = .ok (.aload_n 0, 1)) rfl
theorem ok_X5_init_1 : ok_S 52 1 (sf_oini 4) := ok_oini (by decide +kernel : decode (mb_ 52) 1 = .ok (.invokespecial 1, 3)) tw_942 tw_28 tw_29
theorem ok_X5_init_4 : ok_S 52 4 (sf_ld 2 0 5) := ok_aload_n (by decide +kernel : decode (mb_ 52) 4 = .ok (.aload_n 0, 1)) rfl
theorem ok_X5_init_5 : ok_S 52 5 (sf_ld 0 1 6) := ok_iload_n (by decide +kernel : decode (mb_ 52) 5 = .ok (.iload_n 1, 1)) rfl
theorem ok_X5_init_6 : ok_S 52 6 (sf_pi 12 12 0 9) := ok_pi fd_12_0 (by decide +kernel : decode (mb_ 52) 6 = .ok (.putfield 7, 3)) tw_944 rfl (Or.inr ⟨ff_12_0, rfl, rfl⟩) rfl
theorem ok_X5_init_9 : ok_S 52 9 (sf_ld 2 0 10) := ok_aload_n (by decide +kernel : decode (mb_ 52) 9 = .ok (.aload_n 0, 1)) rfl
theorem ok_X5_init_10 : ok_S 52 10 (sf_push (0, 0) 11) := ok_iconst (by decide +kernel : decode (mb_ 52) 10 = .ok (.iconst 0, 1)) ⟨by decide, by decide⟩
theorem ok_X5_init_11 : ok_S 52 11 (sf_ld 0 2 12) := ok_iload_n (by decide +kernel : decode (mb_ 52) 11 = .ok (.iload_n 2, 1)) rfl
theorem ok_X5_init_12 : ok_S 52 12 (sf_m2 mx_max 15) := ok_mmax (by decide +kernel : decode (mb_ 52) 12 = .ok (.invokestatic 13, 3)) tw_943 tw_873 tw_8 tw_874
theorem ok_X5_init_15 : ok_S 52 15 (sf_newa 21 17) := ok_newa rfl (Or.inr ⟨rfl, rfl⟩) (by decide +kernel : decode (mb_ 52) 15 = .ok (.newarray .long, 2)) tw_204
theorem ok_X5_init_17 : ok_S 52 17 (sf_pr 12 12 1 20) := ok_pr fd_12_1 (by decide +kernel : decode (mb_ 52) 17 = .ok (.putfield 19, 3)) tw_946 rfl (Or.inr ⟨ff_12_1, rfl, rfl⟩) rfl (by decide +kernel : parseFieldDescriptor "[J" = some (.array .long)) (Or.inr ⟨_, rfl⟩)
theorem ok_X5_init_20 : ok_S 52 20 (sf_retv) := ok_retv (by decide +kernel : decode (mb_ 52) 20 = .ok (.return_, 1)) rfl
theorem ok_X5_init (pc : Nat) : ok_S 52 pc (cd_X5_init pc) :=
  (ok_bf (ok_bf (ok_bf (ok_bf (ok_lf pc ok_X5_init_20) (ok_lf pc ok_X5_init_17)) (ok_lf pc ok_X5_init_15)) (ok_bf (ok_bf (ok_lf pc ok_X5_init_12) (ok_lf pc ok_X5_init_11)) (ok_lf pc ok_X5_init_10))) (ok_bf (ok_bf (ok_bf (ok_lf pc ok_X5_init_9) (ok_lf pc ok_X5_init_6)) (ok_lf pc ok_X5_init_5)) (ok_bf (ok_bf (ok_lf pc ok_X5_init_4) (ok_lf pc ok_X5_init_1)) (ok_lf pc ok_X5_init_0))))
theorem mo_X5_init (pc : Nat) : mo_S (cd_X5_init pc) :=
  (mo_bf (mo_bf (mo_bf (mo_bf (mo_bf mo_retv mo_no) (mo_bf mo_pr mo_no)) (mo_bf mo_newa mo_no)) (mo_bf (mo_bf (mo_bf mo_m2 mo_no) (mo_bf mo_ld mo_no)) (mo_bf mo_push mo_no))) (mo_bf (mo_bf (mo_bf (mo_bf mo_ld mo_no) (mo_bf mo_pi mo_no)) (mo_bf mo_ld mo_no)) (mo_bf (mo_bf (mo_bf mo_ld mo_no) (mo_bf mo_oini mo_no)) (mo_bf mo_ld mo_no))))
theorem ok_X5_narrowed_0 : ok_S 53 0 (sf_ld 2 0 1) := ok_aload_n (by decide +kernel : decode (mb_ 53) 0 = .ok (.aload_n 0, 1)) rfl
theorem ok_X5_narrowed_1 : ok_S 53 1 (sf_gi 12 12 0 4) := ok_gi fd_12_0 (by decide +kernel : decode (mb_ 53) 1 = .ok (.getfield 7, 3)) tw_944 (Or.inl rfl) rfl
theorem ok_X5_narrowed_4 : ok_S 53 4 (sf_sw [(0, 32), (1, 36)] 40) := ok_lsw (by decide +kernel : decode (mb_ 53) 4 = .ok (.lookupswitch 36 #[(0, 28), (1, 32)], 28)) (by decide) (by decide) (by decide) (by decide)
theorem ok_X5_narrowed_32 : ok_S 53 32 (sf_ld 0 1 33) := ok_iload_n (by decide +kernel : decode (mb_ 53) 32 = .ok (.iload_n 1, 1)) rfl
theorem ok_X5_narrowed_33 : ok_S 53 33 (sf_i1 mx_i2b 34) := ok_i2b (by decide +kernel : decode (mb_ 53) 33 = .ok (.i2b, 1))
theorem ok_X5_narrowed_34 : ok_S 53 34 (sf_i2l 35) := ok_i2l (by decide +kernel : decode (mb_ 53) 34 = .ok (.i2l, 1))
theorem ok_X5_narrowed_35 : ok_S 53 35 (sf_ret 1) := ok_ret1 (by decide +kernel : decode (mb_ 53) 35 = .ok (.lreturn, 1)) rfl
theorem ok_X5_narrowed_36 : ok_S 53 36 (sf_ld 0 1 37) := ok_iload_n (by decide +kernel : decode (mb_ 53) 36 = .ok (.iload_n 1, 1)) rfl
theorem ok_X5_narrowed_37 : ok_S 53 37 (sf_i1 mx_i2s 38) := ok_i2s (by decide +kernel : decode (mb_ 53) 37 = .ok (.i2s, 1))
theorem ok_X5_narrowed_38 : ok_S 53 38 (sf_i2l 39) := ok_i2l (by decide +kernel : decode (mb_ 53) 38 = .ok (.i2l, 1))
theorem ok_X5_narrowed_39 : ok_S 53 39 (sf_ret 1) := ok_ret1 (by decide +kernel : decode (mb_ 53) 39 = .ok (.lreturn, 1)) rfl
theorem ok_X5_narrowed_40 : ok_S 53 40 (sf_ld 0 1 41) := ok_iload_n (by decide +kernel : decode (mb_ 53) 40 = .ok (.iload_n 1, 1)) rfl
theorem ok_X5_narrowed_41 : ok_S 53 41 (sf_i2l 42) := ok_i2l (by decide +kernel : decode (mb_ 53) 41 = .ok (.i2l, 1))
theorem ok_X5_narrowed_42 : ok_S 53 42 (sf_ret 1) := ok_ret1 (by decide +kernel : decode (mb_ 53) 42 = .ok (.lreturn, 1)) rfl
theorem ok_X5_narrowed (pc : Nat) : ok_S 53 pc (cd_X5_narrowed pc) :=
  (ok_bf (ok_bf (ok_bf (ok_bf (ok_lf pc ok_X5_narrowed_42) (ok_lf pc ok_X5_narrowed_41)) (ok_bf (ok_lf pc ok_X5_narrowed_40) (ok_lf pc ok_X5_narrowed_39))) (ok_bf (ok_bf (ok_lf pc ok_X5_narrowed_38) (ok_lf pc ok_X5_narrowed_37)) (ok_lf pc ok_X5_narrowed_36))) (ok_bf (ok_bf (ok_bf (ok_lf pc ok_X5_narrowed_35) (ok_lf pc ok_X5_narrowed_34)) (ok_bf (ok_lf pc ok_X5_narrowed_33) (ok_lf pc ok_X5_narrowed_32))) (ok_bf (ok_bf (ok_lf pc ok_X5_narrowed_4) (ok_lf pc ok_X5_narrowed_1)) (ok_lf pc ok_X5_narrowed_0))))
theorem mo_X5_narrowed (pc : Nat) : mo_S (cd_X5_narrowed pc) :=
  (mo_bf (mo_bf (mo_bf (mo_bf (mo_bf mo_ret mo_no) (mo_bf mo_i2l mo_no)) (mo_bf (mo_bf mo_ld mo_no) (mo_bf mo_ret mo_no))) (mo_bf (mo_bf (mo_bf mo_i2l mo_no) (mo_bf mo_i1 mo_no)) (mo_bf mo_ld mo_no))) (mo_bf (mo_bf (mo_bf (mo_bf mo_ret mo_no) (mo_bf mo_i2l mo_no)) (mo_bf (mo_bf mo_i1 mo_no) (mo_bf mo_ld mo_no))) (mo_bf (mo_bf (mo_bf mo_sw mo_no) (mo_bf mo_gi mo_no)) (mo_bf mo_ld mo_no))))
theorem ok_X6_init_0 : ok_S 54 0 (sf_ld 2 0 1) := ok_aload_n (by decide +kernel : decode (mb_ 54) 0 = .ok (.aload_n 0, 1)) rfl
theorem ok_X6_init_1 : ok_S 54 1 (sf_ld 0 1 2) := ok_iload_n (by decide +kernel : decode (mb_ 54) 1 = .ok (.iload_n 1, 1)) rfl
theorem ok_X6_init_2 : ok_S 54 2 (sf_ld 0 2 3) := ok_iload_n (by decide +kernel : decode (mb_ 54) 2 = .ok (.iload_n 2, 1)) rfl
theorem ok_X6_init_3 : ok_S 54 3 (sf_ld 0 3 4) := ok_iload_n (by decide +kernel : decode (mb_ 54) 3 = .ok (.iload_n 3, 1)) rfl
theorem ok_X6_init_4 : ok_S 54 4 (sf_ld 2 4 6) := ok_aload (by decide +kernel : decode (mb_ 54) 4 = .ok (.aload 4, 2))
theorem ok_X6_init_6 : ok_S 54 6 (sf_ci 1 6 [2, 0, 0, 0, 2] 38 9) := ok_ci mt_38 (by decide) (by decide) (by decide +kernel : decode (mb_ 54) 6 = .ok (.invokespecial 1, 3)) tw_393 tw_394 tw_14 rfl rfl rfl (by decide +kernel) (mh_ok rfl) (by decide) (by decide)
theorem ok_X6_init_9 : ok_S 54 9 (sf_retv) := ok_retv (by decide +kernel : decode (mb_ 54) 9 = .ok (.return_, 1)) rfl
theorem ok_X6_init (pc : Nat) : ok_S 54 pc (cd_X6_init pc) :=
  (ok_bf (ok_bf (ok_bf (ok_lf pc ok_X6_init_9) (ok_lf pc ok_X6_init_6)) (ok_bf (ok_lf pc ok_X6_init_4) (ok_lf pc ok_X6_init_3))) (ok_bf (ok_bf (ok_lf pc ok_X6_init_2) (ok_lf pc ok_X6_init_1)) (ok_lf pc ok_X6_init_0)))
theorem mo_X6_init (pc : Nat) : mo_S (cd_X6_init pc) :=
  (mo_bf (mo_bf (mo_bf (mo_bf mo_retv mo_no) (mo_bf mo_ci mo_no)) (mo_bf (mo_bf mo_ld mo_no) (mo_bf mo_ld mo_no))) (mo_bf (mo_bf (mo_bf mo_ld mo_no) (mo_bf mo_ld mo_no)) (mo_bf mo_ld mo_no)))
theorem ok_X6_kind_0 : ok_S 55 0 (sf_push (0, 1) 1) := ok_iconst (by decide +kernel : decode (mb_ 55) 0 = .ok (.iconst 1, 1)) ⟨by decide, by decide⟩
theorem ok_X6_kind_1 : ok_S 55 1 (sf_ret 0) := ok_ret0 (by decide +kernel : decode (mb_ 55) 1 = .ok (.ireturn, 1)) rfl
theorem ok_X6_kind (pc : Nat) : ok_S 55 pc (cd_X6_kind pc) :=
  (ok_bf (ok_lf pc ok_X6_kind_1) (ok_lf pc ok_X6_kind_0))
theorem mo_X6_kind (pc : Nat) : mo_S (cd_X6_kind pc) :=
  (mo_bf (mo_bf mo_ret mo_no) (mo_bf mo_push mo_no))
theorem ok_X6_worthBy_0 : ok_S 56 0 (sf_ld 2 0 1) := ok_aload_n (by decide +kernel : decode (mb_ 56) 0 = .ok (.aload_n 0, 1)) rfl
theorem ok_X6_worthBy_1 : ok_S 56 1 (sf_gr 1 6 2 4) := ok_gr fd_1_2 (by decide +kernel : decode (mb_ 56) 1 = .ok (.getfield 7, 3)) tw_416 (Or.inr tw_417) rfl
theorem ok_X6_worthBy_4 : ok_S 56 4 (sf_alen 5) := ok_alen (by decide +kernel : decode (mb_ 56) 4 = .ok (.arraylength, 1))
theorem ok_X6_worthBy_5 : ok_S 56 5 (sf_ret 0) := ok_ret0 (by decide +kernel : decode (mb_ 56) 5 = .ok (.ireturn, 1)) rfl
theorem ok_X6_worthBy (pc : Nat) : ok_S 56 pc (cd_X6_worthBy pc) :=
  (ok_bf (ok_bf (ok_lf pc ok_X6_worthBy_5) (ok_lf pc ok_X6_worthBy_4)) (ok_bf (ok_lf pc ok_X6_worthBy_1) (ok_lf pc ok_X6_worthBy_0)))
theorem mo_X6_worthBy (pc : Nat) : mo_S (cd_X6_worthBy pc) :=
  (mo_bf (mo_bf (mo_bf mo_ret mo_no) (mo_bf mo_alen mo_no)) (mo_bf (mo_bf mo_gr mo_no) (mo_bf mo_ld mo_no)))
theorem ok_X6_canBeIn_0 : ok_S 57 0 (sf_push (0, 0) 1) := ok_iconst (by decide +kernel : decode (mb_ 57) 0 = .ok (.iconst 0, 1)) ⟨by decide, by decide⟩
theorem ok_X6_canBeIn_1 : ok_S 57 1 (sf_st 0 2 2) := ok_istore_n (by decide +kernel : decode (mb_ 57) 1 = .ok (.istore_n 2, 1)) rfl
theorem ok_X6_canBeIn_2 : ok_S 57 2 (sf_ld 0 2 3) := ok_iload_n (by decide +kernel : decode (mb_ 57) 2 = .ok (.iload_n 2, 1)) rfl
theorem ok_X6_canBeIn_3 : ok_S 57 3 (sf_ld 2 0 4) := ok_aload_n (by decide +kernel : decode (mb_ 57) 3 = .ok (.aload_n 0, 1)) rfl
theorem ok_X6_canBeIn_4 : ok_S 57 4 (sf_gr 1 6 2 7) := ok_gr fd_1_2 (by decide +kernel : decode (mb_ 57) 4 = .ok (.getfield 7, 3)) tw_416 (Or.inr tw_417) rfl
theorem ok_X6_canBeIn_7 : ok_S 57 7 (sf_alen 8) := ok_alen (by decide +kernel : decode (mb_ 57) 7 = .ok (.arraylength, 1))
theorem ok_X6_canBeIn_8 : ok_S 57 8 (sf_ic 3 29 11) := ok_ic3 (by decide +kernel : decode (mb_ 57) 8 = .ok (.if_icmp .ge 21, 3)) (by decide)
theorem ok_X6_canBeIn_11 : ok_S 57 11 (sf_ld 2 0 12) := ok_aload_n (by decide +kernel : decode (mb_ 57) 11 = .ok (.aload_n 0, 1)) rfl
theorem ok_X6_canBeIn_12 : ok_S 57 12 (sf_gr 1 6 2 15) := ok_gr fd_1_2 (by decide +kernel : decode (mb_ 57) 12 = .ok (.getfield 7, 3)) tw_416 (Or.inr tw_417) rfl
theorem ok_X6_canBeIn_15 : ok_S 57 15 (sf_ld 0 2 16) := ok_iload_n (by decide +kernel : decode (mb_ 57) 15 = .ok (.iload_n 2, 1)) rfl
theorem ok_X6_canBeIn_16 : ok_S 57 16 (sf_iald 17) := ok_iald (by decide +kernel : decode (mb_ 57) 16 = .ok (.iaload, 1))
theorem ok_X6_canBeIn_17 : ok_S 57 17 (sf_push (0, 1) 18) := ok_iconst (by decide +kernel : decode (mb_ 57) 17 = .ok (.iconst 1, 1)) ⟨by decide, by decide⟩
theorem ok_X6_canBeIn_18 : ok_S 57 18 (sf_ic 0 23 21) := ok_ic0 (by decide +kernel : decode (mb_ 57) 18 = .ok (.if_icmp .eq 5, 3)) (by decide)
theorem ok_X6_canBeIn_21 : ok_S 57 21 (sf_push (0, 0) 22) := ok_iconst (by decide +kernel : decode (mb_ 57) 21 = .ok (.iconst 0, 1)) ⟨by decide, by decide⟩
theorem ok_X6_canBeIn_22 : ok_S 57 22 (sf_rr 0 1) := ok_rr (by decide +kernel : decode (mb_ 57) 22 = .ok (.ireturn, 1)) rfl (so_nz .boolean rfl rfl)
theorem ok_X6_canBeIn_23 : ok_S 57 23 (sf_inc 2 1 26) := ok_iinc (by decide +kernel : decode (mb_ 57) 23 = .ok (.iinc 2 1, 3))
theorem ok_X6_canBeIn_26 : ok_S 57 26 (sf_go 2) := ok_goto (by decide +kernel : decode (mb_ 57) 26 = .ok (.goto (-24), 3)) (by decide)
theorem ok_X6_canBeIn_29 : ok_S 57 29 (sf_push (0, 1) 30) := ok_iconst (by decide +kernel : decode (mb_ 57) 29 = .ok (.iconst 1, 1)) ⟨by decide, by decide⟩
theorem ok_X6_canBeIn_30 : ok_S 57 30 (sf_rr 0 1) := ok_rr (by decide +kernel : decode (mb_ 57) 30 = .ok (.ireturn, 1)) rfl (so_nz .boolean rfl rfl)
theorem ok_X6_canBeIn (pc : Nat) : ok_S 57 pc (cd_X6_canBeIn pc) :=
  (ok_bf (ok_bf (ok_bf (ok_bf (ok_bf (ok_lf pc ok_X6_canBeIn_30) (ok_lf pc ok_X6_canBeIn_29)) (ok_lf pc ok_X6_canBeIn_26)) (ok_bf (ok_lf pc ok_X6_canBeIn_23) (ok_lf pc ok_X6_canBeIn_22))) (ok_bf (ok_bf (ok_bf (ok_lf pc ok_X6_canBeIn_21) (ok_lf pc ok_X6_canBeIn_18)) (ok_lf pc ok_X6_canBeIn_17)) (ok_bf (ok_lf pc ok_X6_canBeIn_16) (ok_lf pc ok_X6_canBeIn_15)))) (ok_bf (ok_bf (ok_bf (ok_bf (ok_lf pc ok_X6_canBeIn_12) (ok_lf pc ok_X6_canBeIn_11)) (ok_lf pc ok_X6_canBeIn_8)) (ok_bf (ok_lf pc ok_X6_canBeIn_7) (ok_lf pc ok_X6_canBeIn_4))) (ok_bf (ok_bf (ok_lf pc ok_X6_canBeIn_3) (ok_lf pc ok_X6_canBeIn_2)) (ok_bf (ok_lf pc ok_X6_canBeIn_1) (ok_lf pc ok_X6_canBeIn_0)))))
theorem mo_X6_canBeIn (pc : Nat) : mo_S (cd_X6_canBeIn pc) :=
  (mo_bf (mo_bf (mo_bf (mo_bf (mo_bf (mo_bf mo_rr mo_no) (mo_bf mo_push mo_no)) (mo_bf mo_go mo_no)) (mo_bf (mo_bf mo_inc mo_no) (mo_bf mo_rr mo_no))) (mo_bf (mo_bf (mo_bf (mo_bf mo_push mo_no) (mo_bf mo_ic mo_no)) (mo_bf mo_push mo_no)) (mo_bf (mo_bf mo_iald mo_no) (mo_bf mo_ld mo_no)))) (mo_bf (mo_bf (mo_bf (mo_bf (mo_bf mo_gr mo_no) (mo_bf mo_ld mo_no)) (mo_bf mo_ic mo_no)) (mo_bf (mo_bf mo_alen mo_no) (mo_bf mo_gr mo_no))) (mo_bf (mo_bf (mo_bf mo_ld mo_no) (mo_bf mo_ld mo_no)) (mo_bf (mo_bf mo_st mo_no) (mo_bf mo_push mo_no)))))
theorem ok_X6_writes_0 : ok_S 58 0 (sf_ld 2 2 1) := ok_aload_n (by decide +kernel : decode (mb_ 58) 0 = .ok (.aload_n 2, 1)) rfl
theorem ok_X6_writes_1 : ok_S 58 1 (sf_gr 11 11 0 4) := ok_gr fd_11_0 (by decide +kernel : decode (mb_ 58) 1 = .ok (.getfield 13, 3)) tw_185 (Or.inl rfl) rfl
theorem ok_X6_writes_4 : ok_S 58 4 (sf_ld 2 2 5) := ok_aload_n (by decide +kernel : decode (mb_ 58) 4 = .ok (.aload_n 2, 1)) rfl
theorem ok_X6_writes_5 : ok_S 58 5 (sf_dup 6) := ok_dup (by decide +kernel : decode (mb_ 58) 5 = .ok (.dup, 1))
theorem ok_X6_writes_6 : ok_S 58 6 (sf_gi 11 11 1 9) := ok_gi fd_11_1 (by decide +kernel : decode (mb_ 58) 6 = .ok (.getfield 18, 3)) tw_193 (Or.inl rfl) rfl
theorem ok_X6_writes_9 : ok_S 58 9 (sf_dx1 10) := ok_dx1 (by decide +kernel : decode (mb_ 58) 9 = .ok (.dup_x1, 1))
theorem ok_X6_writes_10 : ok_S 58 10 (sf_push (0, 1) 11) := ok_iconst (by decide +kernel : decode (mb_ 58) 10 = .ok (.iconst 1, 1)) ⟨by decide, by decide⟩
theorem ok_X6_writes_11 : ok_S 58 11 (sf_i2 mx_add 12) := ok_iadd (by decide +kernel : decode (mb_ 58) 11 = .ok (.iadd, 1))
theorem ok_X6_writes_12 : ok_S 58 12 (sf_pi 11 11 1 15) := ok_pi fd_11_1 (by decide +kernel : decode (mb_ 58) 12 = .ok (.putfield 18, 3)) tw_193 rfl (Or.inl ff_11_1) rfl
theorem ok_X6_writes_15 : ok_S 58 15 (sf_push (0, 31) 17) := ok_bipush (by decide +kernel : decode (mb_ 58) 15 = .ok (.bipush 31, 2)) ⟨by decide, by decide⟩ (by decide +kernel)
theorem ok_X6_writes_17 : ok_S 58 17 (sf_i2 mx_and 18) := ok_iand (by decide +kernel : decode (mb_ 58) 17 = .ok (.iand, 1))
theorem ok_X6_writes_18 : ok_S 58 18 (sf_push (0, 20) 20) := ok_bipush (by decide +kernel : decode (mb_ 58) 18 = .ok (.bipush 20, 2)) ⟨by decide, by decide⟩ (by decide +kernel)
theorem ok_X6_writes_20 : ok_S 58 20 (sf_iast 21) := ok_iast (by decide +kernel : decode (mb_ 58) 20 = .ok (.iastore, 1))
theorem ok_X6_writes_21 : ok_S 58 21 (sf_ld 2 0 22) := ok_aload_n (by decide +kernel : decode (mb_ 58) 21 = .ok (.aload_n 0, 1)) rfl
theorem ok_X6_writes_22 : ok_S 58 22 (sf_ld 0 1 23) := ok_iload_n (by decide +kernel : decode (mb_ 58) 22 = .ok (.iload_n 1, 1)) rfl
theorem ok_X6_writes_23 : ok_S 58 23 (sf_ld 2 2 24) := ok_aload_n (by decide +kernel : decode (mb_ 58) 23 = .ok (.aload_n 2, 1)) rfl
theorem ok_X6_writes_24 : ok_S 58 24 (sf_ci 1 6 [2, 0, 2] 49 27) := ok_csu (x := ⟨"RoomNumbers$Note", "writes", "(ILRoomNumbers$Trace;)I"⟩) (ow := "RoomNumbers$Note") mt_49 rfl (by decide +kernel : decode (mb_ 58) 24 = .ok (.invokespecial 22, 3)) tw_1032 tw_1027 tw_437 (Or.inl rfl) tw_1025 tw_14 (by decide) rfl (by decide +kernel) (by decide) (by decide) cl_16
theorem ok_X6_writes_27 : ok_S 58 27 (sf_ld 2 0 28) := ok_aload_n (by decide +kernel : decode (mb_ 58) 27 = .ok (.aload_n 0, 1)) rfl
theorem ok_X6_writes_28 : ok_S 58 28 (sf_gi 1 6 1 31) := ok_gi fd_1_1 (by decide +kernel : decode (mb_ 58) 28 = .ok (.getfield 26, 3)) tw_410 (Or.inr tw_411) rfl
theorem ok_X6_writes_31 : ok_S 58 31 (sf_i2 mx_sub 32) := ok_isub (by decide +kernel : decode (mb_ 58) 31 = .ok (.isub, 1))
theorem ok_X6_writes_32 : ok_S 58 32 (sf_ret 0) := ok_ret0 (by decide +kernel : decode (mb_ 58) 32 = .ok (.ireturn, 1)) rfl
theorem ok_X6_writes (pc : Nat) : ok_S 58 pc (cd_X6_writes pc) :=
  (ok_bf (ok_bf (ok_bf (ok_bf (ok_bf (ok_lf pc ok_X6_writes_32) (ok_lf pc ok_X6_writes_31)) (ok_lf pc ok_X6_writes_28)) (ok_bf (ok_bf (ok_lf pc ok_X6_writes_27) (ok_lf pc ok_X6_writes_24)) (ok_lf pc ok_X6_writes_23))) (ok_bf (ok_bf (ok_bf (ok_lf pc ok_X6_writes_22) (ok_lf pc ok_X6_writes_21)) (ok_lf pc ok_X6_writes_20)) (ok_bf (ok_lf pc ok_X6_writes_18) (ok_lf pc ok_X6_writes_17)))) (ok_bf (ok_bf (ok_bf (ok_bf (ok_lf pc ok_X6_writes_15) (ok_lf pc ok_X6_writes_12)) (ok_lf pc ok_X6_writes_11)) (ok_bf (ok_lf pc ok_X6_writes_10) (ok_lf pc ok_X6_writes_9))) (ok_bf (ok_bf (ok_bf (ok_lf pc ok_X6_writes_6) (ok_lf pc ok_X6_writes_5)) (ok_lf pc ok_X6_writes_4)) (ok_bf (ok_lf pc ok_X6_writes_1) (ok_lf pc ok_X6_writes_0)))))
theorem mo_X6_writes (pc : Nat) : mo_S (cd_X6_writes pc) :=
  (mo_bf (mo_bf (mo_bf (mo_bf (mo_bf (mo_bf mo_ret mo_no) (mo_bf mo_i2 mo_no)) (mo_bf mo_gi mo_no)) (mo_bf (mo_bf (mo_bf mo_ld mo_no) (mo_bf mo_ci mo_no)) (mo_bf mo_ld mo_no))) (mo_bf (mo_bf (mo_bf (mo_bf mo_ld mo_no) (mo_bf mo_ld mo_no)) (mo_bf mo_iast mo_no)) (mo_bf (mo_bf mo_push mo_no) (mo_bf mo_i2 mo_no)))) (mo_bf (mo_bf (mo_bf (mo_bf (mo_bf mo_push mo_no) (mo_bf mo_pi mo_no)) (mo_bf mo_i2 mo_no)) (mo_bf (mo_bf mo_push mo_no) (mo_bf mo_dx1 mo_no))) (mo_bf (mo_bf (mo_bf (mo_bf mo_gi mo_no) (mo_bf mo_dup mo_no)) (mo_bf mo_ld mo_no)) (mo_bf (mo_bf mo_gr mo_no) (mo_bf mo_ld mo_no)))))
theorem ok_X8_init_0 : ok_S 74 0 (sf_ld 2 0 1) := ok_aload_n (by decide +kernel : decode (mb_ 74) 0 = .ok (.aload_n 0, 1)) rfl
theorem ok_X8_init_1 : ok_S 74 1 (sf_oini 4) := ok_oini (by decide +kernel : decode (mb_ 74) 1 = .ok (.invokespecial 1, 3)) tw_180 tw_28 tw_29
theorem ok_X8_init_4 : ok_S 74 4 (sf_ld 2 0 5) := ok_aload_n (by decide +kernel : decode (mb_ 74) 4 = .ok (.aload_n 0, 1)) rfl
theorem ok_X8_init_5 : ok_S 74 5 (sf_push (0, 32) 7) := ok_bipush (by decide +kernel : decode (mb_ 74) 5 = .ok (.bipush 32, 2)) ⟨by decide, by decide⟩ (by decide +kernel)
theorem ok_X8_init_7 : ok_S 74 7 (sf_newa 20 9) := ok_newa rfl (Or.inl ⟨rfl, rfl⟩) (by decide +kernel : decode (mb_ 74) 7 = .ok (.newarray .int, 2)) tw_81
theorem ok_X8_init_9 : ok_S 74 9 (sf_pr 11 11 0 12) := ok_pr fd_11_0 (by decide +kernel : decode (mb_ 74) 9 = .ok (.putfield 9, 3)) tw_181 rfl (Or.inr ⟨ff_11_0, rfl, rfl⟩) rfl (by decide +kernel : parseFieldDescriptor "[I" = some (.array .int)) (Or.inr ⟨_, rfl⟩)
theorem ok_X8_init_12 : ok_S 74 12 (sf_ld 2 0 13) := ok_aload_n (by decide +kernel : decode (mb_ 74) 12 = .ok (.aload_n 0, 1)) rfl
theorem ok_X8_init_13 : ok_S 74 13 (sf_push (0, 0) 14) := ok_iconst (by decide +kernel : decode (mb_ 74) 13 = .ok (.iconst 0, 1)) ⟨by decide, by decide⟩
theorem ok_X8_init_14 : ok_S 74 14 (sf_pi 11 11 1 17) := ok_pi fd_11_1 (by decide +kernel : decode (mb_ 74) 14 = .ok (.putfield 13, 3)) tw_189 rfl (Or.inl ff_11_1) rfl
theorem ok_X8_init_17 : ok_S 74 17 (sf_ld 2 0 18) := ok_aload_n (by decide +kernel : decode (mb_ 74) 17 = .ok (.aload_n 0, 1)) rfl
theorem ok_X8_init_18 : ok_S 74 18 (sf_push (0, (-1)) 19) := ok_iconst (by decide +kernel : decode (mb_ 74) 18 = .ok (.iconst (-1), 1)) ⟨by decide, by decide⟩
theorem ok_X8_init_19 : ok_S 74 19 (sf_pi 11 11 2 22) := ok_pi fd_11_2 (by decide +kernel : decode (mb_ 74) 19 = .ok (.putfield 17, 3)) tw_196 rfl (Or.inl ff_11_2) rfl
theorem ok_X8_init_22 : ok_S 74 22 (sf_retv) := ok_retv (by decide +kernel : decode (mb_ 74) 22 = .ok (.return_, 1)) rfl
theorem ok_X8_init (pc : Nat) : ok_S 74 pc (cd_X8_init pc) :=
  (ok_bf (ok_bf (ok_bf (ok_bf (ok_lf pc ok_X8_init_22) (ok_lf pc ok_X8_init_19)) (ok_bf (ok_lf pc ok_X8_init_18) (ok_lf pc ok_X8_init_17))) (ok_bf (ok_bf (ok_lf pc ok_X8_init_14) (ok_lf pc ok_X8_init_13)) (ok_lf pc ok_X8_init_12))) (ok_bf (ok_bf (ok_bf (ok_lf pc ok_X8_init_9) (ok_lf pc ok_X8_init_7)) (ok_lf pc ok_X8_init_5)) (ok_bf (ok_bf (ok_lf pc ok_X8_init_4) (ok_lf pc ok_X8_init_1)) (ok_lf pc ok_X8_init_0))))
theorem mo_X8_init (pc : Nat) : mo_S (cd_X8_init pc) :=
  (mo_bf (mo_bf (mo_bf (mo_bf (mo_bf mo_retv mo_no) (mo_bf mo_pi mo_no)) (mo_bf (mo_bf mo_push mo_no) (mo_bf mo_ld mo_no))) (mo_bf (mo_bf (mo_bf mo_pi mo_no) (mo_bf mo_push mo_no)) (mo_bf mo_ld mo_no))) (mo_bf (mo_bf (mo_bf (mo_bf mo_pr mo_no) (mo_bf mo_newa mo_no)) (mo_bf mo_push mo_no)) (mo_bf (mo_bf (mo_bf mo_ld mo_no) (mo_bf mo_oini mo_no)) (mo_bf mo_ld mo_no))))
theorem ok_X8_clear_0 : ok_S 75 0 (sf_ld 2 0 1) := ok_aload_n (by decide +kernel : decode (mb_ 75) 0 = .ok (.aload_n 0, 1)) rfl
theorem ok_X8_clear_1 : ok_S 75 1 (sf_push (0, 0) 2) := ok_iconst (by decide +kernel : decode (mb_ 75) 1 = .ok (.iconst 0, 1)) ⟨by decide, by decide⟩
theorem ok_X8_clear_2 : ok_S 75 2 (sf_pi 11 11 1 5) := ok_pi fd_11_1 (by decide +kernel : decode (mb_ 75) 2 = .ok (.putfield 13, 3)) tw_189 rfl (Or.inl ff_11_1) rfl
theorem ok_X8_clear_5 : ok_S 75 5 (sf_ld 2 0 6) := ok_aload_n (by decide +kernel : decode (mb_ 75) 5 = .ok (.aload_n 0, 1)) rfl
theorem ok_X8_clear_6 : ok_S 75 6 (sf_push (0, (-1)) 7) := ok_iconst (by decide +kernel : decode (mb_ 75) 6 = .ok (.iconst (-1), 1)) ⟨by decide, by decide⟩
theorem ok_X8_clear_7 : ok_S 75 7 (sf_pi 11 11 2 10) := ok_pi fd_11_2 (by decide +kernel : decode (mb_ 75) 7 = .ok (.putfield 17, 3)) tw_196 rfl (Or.inl ff_11_2) rfl
theorem ok_X8_clear_10 : ok_S 75 10 (sf_retv) := ok_retv (by decide +kernel : decode (mb_ 75) 10 = .ok (.return_, 1)) rfl
theorem ok_X8_clear (pc : Nat) : ok_S 75 pc (cd_X8_clear pc) :=
  (ok_bf (ok_bf (ok_bf (ok_lf pc ok_X8_clear_10) (ok_lf pc ok_X8_clear_7)) (ok_bf (ok_lf pc ok_X8_clear_6) (ok_lf pc ok_X8_clear_5))) (ok_bf (ok_bf (ok_lf pc ok_X8_clear_2) (ok_lf pc ok_X8_clear_1)) (ok_lf pc ok_X8_clear_0)))
theorem mo_X8_clear (pc : Nat) : mo_S (cd_X8_clear pc) :=
  (mo_bf (mo_bf (mo_bf (mo_bf mo_retv mo_no) (mo_bf mo_pi mo_no)) (mo_bf (mo_bf mo_push mo_no) (mo_bf mo_ld mo_no))) (mo_bf (mo_bf (mo_bf mo_pi mo_no) (mo_bf mo_push mo_no)) (mo_bf mo_ld mo_no)))
theorem ok_X8_end_0 : ok_S 76 0 (sf_ld 2 0 1) := ok_aload_n (by decide +kernel : decode (mb_ 76) 0 = .ok (.aload_n 0, 1)) rfl
theorem ok_X8_end_1 : ok_S 76 1 (sf_gi 11 11 2 4) := ok_gi fd_11_2 (by decide +kernel : decode (mb_ 76) 1 = .ok (.getfield 17, 3)) tw_196 (Or.inl rfl) rfl
theorem ok_X8_end_4 : ok_S 76 4 (sf_push (0, (-1)) 5) := ok_iconst (by decide +kernel : decode (mb_ 76) 4 = .ok (.iconst (-1), 1)) ⟨by decide, by decide⟩
theorem ok_X8_end_5 : ok_S 76 5 (sf_ic 1 16 8) := ok_ic1 (by decide +kernel : decode (mb_ 76) 5 = .ok (.if_icmp .ne 11, 3)) (by decide)
theorem ok_X8_end_8 : ok_S 76 8 (sf_ld 2 0 9) := ok_aload_n (by decide +kernel : decode (mb_ 76) 8 = .ok (.aload_n 0, 1)) rfl
theorem ok_X8_end_9 : ok_S 76 9 (sf_ld 2 0 10) := ok_aload_n (by decide +kernel : decode (mb_ 76) 9 = .ok (.aload_n 0, 1)) rfl
theorem ok_X8_end_10 : ok_S 76 10 (sf_gi 11 11 1 13) := ok_gi fd_11_1 (by decide +kernel : decode (mb_ 76) 10 = .ok (.getfield 13, 3)) tw_189 (Or.inl rfl) rfl
theorem ok_X8_end_13 : ok_S 76 13 (sf_pi 11 11 2 16) := ok_pi fd_11_2 (by decide +kernel : decode (mb_ 76) 13 = .ok (.putfield 17, 3)) tw_196 rfl (Or.inl ff_11_2) rfl
theorem ok_X8_end_16 : ok_S 76 16 (sf_retv) := ok_retv (by decide +kernel : decode (mb_ 76) 16 = .ok (.return_, 1)) rfl
theorem ok_X8_end (pc : Nat) : ok_S 76 pc (cd_X8_end pc) :=
  (ok_bf (ok_bf (ok_bf (ok_bf (ok_lf pc ok_X8_end_16) (ok_lf pc ok_X8_end_13)) (ok_lf pc ok_X8_end_10)) (ok_bf (ok_lf pc ok_X8_end_9) (ok_lf pc ok_X8_end_8))) (ok_bf (ok_bf (ok_lf pc ok_X8_end_5) (ok_lf pc ok_X8_end_4)) (ok_bf (ok_lf pc ok_X8_end_1) (ok_lf pc ok_X8_end_0))))
theorem mo_X8_end (pc : Nat) : mo_S (cd_X8_end pc) :=
  (mo_bf (mo_bf (mo_bf (mo_bf (mo_bf mo_retv mo_no) (mo_bf mo_pi mo_no)) (mo_bf mo_gi mo_no)) (mo_bf (mo_bf mo_ld mo_no) (mo_bf mo_ld mo_no))) (mo_bf (mo_bf (mo_bf mo_ic mo_no) (mo_bf mo_push mo_no)) (mo_bf (mo_bf mo_gi mo_no) (mo_bf mo_ld mo_no))))
theorem ok_X8_ended_0 : ok_S 77 0 (sf_ld 2 0 1) := ok_aload_n (by decide +kernel : decode (mb_ 77) 0 = .ok (.aload_n 0, 1)) rfl
theorem ok_X8_ended_1 : ok_S 77 1 (sf_gi 11 11 2 4) := ok_gi fd_11_2 (by decide +kernel : decode (mb_ 77) 1 = .ok (.getfield 17, 3)) tw_196 (Or.inl rfl) rfl
theorem ok_X8_ended_4 : ok_S 77 4 (sf_push (0, (-1)) 5) := ok_iconst (by decide +kernel : decode (mb_ 77) 4 = .ok (.iconst (-1), 1)) ⟨by decide, by decide⟩
theorem ok_X8_ended_5 : ok_S 77 5 (sf_ic 0 12 8) := ok_ic0 (by decide +kernel : decode (mb_ 77) 5 = .ok (.if_icmp .eq 7, 3)) (by decide)
theorem ok_X8_ended_8 : ok_S 77 8 (sf_push (0, 1) 9) := ok_iconst (by decide +kernel : decode (mb_ 77) 8 = .ok (.iconst 1, 1)) ⟨by decide, by decide⟩
theorem ok_X8_ended_9 : ok_S 77 9 (sf_go 13) := ok_goto (by decide +kernel : decode (mb_ 77) 9 = .ok (.goto 4, 3)) (by decide)
theorem ok_X8_ended_12 : ok_S 77 12 (sf_push (0, 0) 13) := ok_iconst (by decide +kernel : decode (mb_ 77) 12 = .ok (.iconst 0, 1)) ⟨by decide, by decide⟩
theorem ok_X8_ended_13 : ok_S 77 13 (sf_rr 0 1) := ok_rr (by decide +kernel : decode (mb_ 77) 13 = .ok (.ireturn, 1)) rfl (so_nz .boolean rfl rfl)
theorem ok_X8_ended (pc : Nat) : ok_S 77 pc (cd_X8_ended pc) :=
  (ok_bf (ok_bf (ok_bf (ok_lf pc ok_X8_ended_13) (ok_lf pc ok_X8_ended_12)) (ok_bf (ok_lf pc ok_X8_ended_9) (ok_lf pc ok_X8_ended_8))) (ok_bf (ok_bf (ok_lf pc ok_X8_ended_5) (ok_lf pc ok_X8_ended_4)) (ok_bf (ok_lf pc ok_X8_ended_1) (ok_lf pc ok_X8_ended_0))))
theorem mo_X8_ended (pc : Nat) : mo_S (cd_X8_ended pc) :=
  (mo_bf (mo_bf (mo_bf (mo_bf mo_rr mo_no) (mo_bf mo_push mo_no)) (mo_bf (mo_bf mo_go mo_no) (mo_bf mo_push mo_no))) (mo_bf (mo_bf (mo_bf mo_ic mo_no) (mo_bf mo_push mo_no)) (mo_bf (mo_bf mo_gi mo_no) (mo_bf mo_ld mo_no))))
theorem ok_X8_howMany_0 : ok_S 78 0 (sf_ld 2 0 1) := ok_aload_n (by decide +kernel : decode (mb_ 78) 0 = .ok (.aload_n 0, 1)) rfl
theorem ok_X8_howMany_1 : ok_S 78 1 (sf_cv 11 [2] 77 4) := ok_cv mt_77 cl_11 (by decide +kernel : decode (mb_ 78) 1 = .ok (.invokevirtual 20, 3)) tw_1102 tw_1091 tw_1092 tw_6 rfl (by decide +kernel) (mh_ok rfl) (by decide) (by decide)
theorem ok_X8_howMany_4 : ok_S 78 4 (sf_if 0 14 7) := ok_if0 (by decide +kernel : decode (mb_ 78) 4 = .ok (.ifCond .eq 10, 3)) (by decide)
theorem ok_X8_howMany_7 : ok_S 78 7 (sf_ld 2 0 8) := ok_aload_n (by decide +kernel : decode (mb_ 78) 7 = .ok (.aload_n 0, 1)) rfl
theorem ok_X8_howMany_8 : ok_S 78 8 (sf_gi 11 11 2 11) := ok_gi fd_11_2 (by decide +kernel : decode (mb_ 78) 8 = .ok (.getfield 17, 3)) tw_196 (Or.inl rfl) rfl
theorem ok_X8_howMany_11 : ok_S 78 11 (sf_go 18) := ok_goto (by decide +kernel : decode (mb_ 78) 11 = .ok (.goto 7, 3)) (by decide)
theorem ok_X8_howMany_14 : ok_S 78 14 (sf_ld 2 0 15) := ok_aload_n (by decide +kernel : decode (mb_ 78) 14 = .ok (.aload_n 0, 1)) rfl
theorem ok_X8_howMany_15 : ok_S 78 15 (sf_gi 11 11 1 18) := ok_gi fd_11_1 (by decide +kernel : decode (mb_ 78) 15 = .ok (.getfield 13, 3)) tw_189 (Or.inl rfl) rfl
theorem ok_X8_howMany_18 : ok_S 78 18 (sf_push (0, 30) 20) := ok_bipush (by decide +kernel : decode (mb_ 78) 18 = .ok (.bipush 30, 2)) ⟨by decide, by decide⟩ (by decide +kernel)
theorem ok_X8_howMany_20 : ok_S 78 20 (sf_m2 mx_min 23) := ok_mmin (by decide +kernel : decode (mb_ 78) 20 = .ok (.invokestatic 24, 3)) tw_1103 tw_274 tw_8 tw_275
theorem ok_X8_howMany_23 : ok_S 78 23 (sf_ret 0) := ok_ret0 (by decide +kernel : decode (mb_ 78) 23 = .ok (.ireturn, 1)) rfl
theorem ok_X8_howMany (pc : Nat) : ok_S 78 pc (cd_X8_howMany pc) :=
  (ok_bf (ok_bf (ok_bf (ok_bf (ok_lf pc ok_X8_howMany_23) (ok_lf pc ok_X8_howMany_20)) (ok_lf pc ok_X8_howMany_18)) (ok_bf (ok_bf (ok_lf pc ok_X8_howMany_15) (ok_lf pc ok_X8_howMany_14)) (ok_lf pc ok_X8_howMany_11))) (ok_bf (ok_bf (ok_bf (ok_lf pc ok_X8_howMany_8) (ok_lf pc ok_X8_howMany_7)) (ok_lf pc ok_X8_howMany_4)) (ok_bf (ok_lf pc ok_X8_howMany_1) (ok_lf pc ok_X8_howMany_0))))
theorem mo_X8_howMany (pc : Nat) : mo_S (cd_X8_howMany pc) :=
  (mo_bf (mo_bf (mo_bf (mo_bf (mo_bf mo_ret mo_no) (mo_bf mo_m2 mo_no)) (mo_bf mo_push mo_no)) (mo_bf (mo_bf (mo_bf mo_gi mo_no) (mo_bf mo_ld mo_no)) (mo_bf mo_go mo_no))) (mo_bf (mo_bf (mo_bf (mo_bf mo_gi mo_no) (mo_bf mo_ld mo_no)) (mo_bf mo_if mo_no)) (mo_bf (mo_bf mo_cv mo_no) (mo_bf mo_ld mo_no))))
theorem ok_X9_init_0 : ok_S 79 0 (sf_ld 2 0 1) := ok_aload_n (by decide +kernel : decode (mb_ 79) 0 = .ok (.aload_n 0, 1)) rfl
theorem ok_X9_init_1 : ok_S 79 1 (sf_ld 0 1 2) := ok_iload_n (by decide +kernel : decode (mb_ 79) 1 = .ok (.iload_n 1, 1)) rfl
theorem ok_X9_init_2 : ok_S 79 2 (sf_ld 0 2 3) := ok_iload_n (by decide +kernel : decode (mb_ 79) 2 = .ok (.iload_n 2, 1)) rfl
theorem ok_X9_init_3 : ok_S 79 3 (sf_ld 0 3 4) := ok_iload_n (by decide +kernel : decode (mb_ 79) 3 = .ok (.iload_n 3, 1)) rfl
theorem ok_X9_init_4 : ok_S 79 4 (sf_ld 2 4 6) := ok_aload (by decide +kernel : decode (mb_ 79) 4 = .ok (.aload 4, 2))
theorem ok_X9_init_6 : ok_S 79 6 (sf_ci 1 6 [2, 0, 0, 0, 2] 38 9) := ok_ci mt_38 (by decide) (by decide) (by decide +kernel : decode (mb_ 79) 6 = .ok (.invokespecial 1, 3)) tw_466 tw_394 tw_14 rfl rfl rfl (by decide +kernel) (mh_ok rfl) (by decide) (by decide)
theorem ok_X9_init_9 : ok_S 79 9 (sf_retv) := ok_retv (by decide +kernel : decode (mb_ 79) 9 = .ok (.return_, 1)) rfl
theorem ok_X9_init (pc : Nat) : ok_S 79 pc (cd_X9_init pc) :=
  (ok_bf (ok_bf (ok_bf (ok_lf pc ok_X9_init_9) (ok_lf pc ok_X9_init_6)) (ok_bf (ok_lf pc ok_X9_init_4) (ok_lf pc ok_X9_init_3))) (ok_bf (ok_bf (ok_lf pc ok_X9_init_2) (ok_lf pc ok_X9_init_1)) (ok_lf pc ok_X9_init_0)))
theorem mo_X9_init (pc : Nat) : mo_S (cd_X9_init pc) :=
  (mo_bf (mo_bf (mo_bf (mo_bf mo_retv mo_no) (mo_bf mo_ci mo_no)) (mo_bf (mo_bf mo_ld mo_no) (mo_bf mo_ld mo_no))) (mo_bf (mo_bf (mo_bf mo_ld mo_no) (mo_bf mo_ld mo_no)) (mo_bf mo_ld mo_no)))
theorem ok_X9_kind_0 : ok_S 80 0 (sf_push (0, 4) 1) := ok_iconst (by decide +kernel : decode (mb_ 80) 0 = .ok (.iconst 4, 1)) ⟨by decide, by decide⟩
theorem ok_X9_kind_1 : ok_S 80 1 (sf_ret 0) := ok_ret0 (by decide +kernel : decode (mb_ 80) 1 = .ok (.ireturn, 1)) rfl
theorem ok_X9_kind (pc : Nat) : ok_S 80 pc (cd_X9_kind pc) :=
  (ok_bf (ok_lf pc ok_X9_kind_1) (ok_lf pc ok_X9_kind_0))
theorem mo_X9_kind (pc : Nat) : mo_S (cd_X9_kind pc) :=
  (mo_bf (mo_bf mo_ret mo_no) (mo_bf mo_push mo_no))
theorem ok_X9_worthBy_0 : ok_S 81 0 (sf_push (0, 0) 1) := ok_iconst (by decide +kernel : decode (mb_ 81) 0 = .ok (.iconst 0, 1)) ⟨by decide, by decide⟩
theorem ok_X9_worthBy_1 : ok_S 81 1 (sf_st 0 2 2) := ok_istore_n (by decide +kernel : decode (mb_ 81) 1 = .ok (.istore_n 2, 1)) rfl
theorem ok_X9_worthBy_2 : ok_S 81 2 (sf_ld 2 0 3) := ok_aload_n (by decide +kernel : decode (mb_ 81) 2 = .ok (.aload_n 0, 1)) rfl
theorem ok_X9_worthBy_3 : ok_S 81 3 (sf_gr 1 6 2 6) := ok_gr fd_1_2 (by decide +kernel : decode (mb_ 81) 3 = .ok (.getfield 7, 3)) tw_418 (Or.inr tw_419) rfl
theorem ok_X9_worthBy_6 : ok_S 81 6 (sf_alen 7) := ok_alen (by decide +kernel : decode (mb_ 81) 6 = .ok (.arraylength, 1))
theorem ok_X9_worthBy_7 : ok_S 81 7 (sf_push (0, 1) 8) := ok_iconst (by decide +kernel : decode (mb_ 81) 7 = .ok (.iconst 1, 1)) ⟨by decide, by decide⟩
theorem ok_X9_worthBy_8 : ok_S 81 8 (sf_i2 mx_sub 9) := ok_isub (by decide +kernel : decode (mb_ 81) 8 = .ok (.isub, 1))
theorem ok_X9_worthBy_9 : ok_S 81 9 (sf_st 0 3 10) := ok_istore_n (by decide +kernel : decode (mb_ 81) 9 = .ok (.istore_n 3, 1)) rfl
theorem ok_X9_worthBy_10 : ok_S 81 10 (sf_ld 0 3 11) := ok_iload_n (by decide +kernel : decode (mb_ 81) 10 = .ok (.iload_n 3, 1)) rfl
theorem ok_X9_worthBy_11 : ok_S 81 11 (sf_if 2 31 14) := ok_if2 (by decide +kernel : decode (mb_ 81) 11 = .ok (.ifCond .lt 20, 3)) (by decide)
theorem ok_X9_worthBy_14 : ok_S 81 14 (sf_ld 0 2 15) := ok_iload_n (by decide +kernel : decode (mb_ 81) 14 = .ok (.iload_n 2, 1)) rfl
theorem ok_X9_worthBy_15 : ok_S 81 15 (sf_ld 0 1 16) := ok_iload_n (by decide +kernel : decode (mb_ 81) 15 = .ok (.iload_n 1, 1)) rfl
theorem ok_X9_worthBy_16 : ok_S 81 16 (sf_i2 mx_mul 17) := ok_imul (by decide +kernel : decode (mb_ 81) 16 = .ok (.imul, 1))
theorem ok_X9_worthBy_17 : ok_S 81 17 (sf_ld 2 0 18) := ok_aload_n (by decide +kernel : decode (mb_ 81) 17 = .ok (.aload_n 0, 1)) rfl
theorem ok_X9_worthBy_18 : ok_S 81 18 (sf_gr 1 6 2 21) := ok_gr fd_1_2 (by decide +kernel : decode (mb_ 81) 18 = .ok (.getfield 7, 3)) tw_418 (Or.inr tw_419) rfl
theorem ok_X9_worthBy_21 : ok_S 81 21 (sf_ld 0 3 22) := ok_iload_n (by decide +kernel : decode (mb_ 81) 21 = .ok (.iload_n 3, 1)) rfl
theorem ok_X9_worthBy_22 : ok_S 81 22 (sf_iald 23) := ok_iald (by decide +kernel : decode (mb_ 81) 22 = .ok (.iaload, 1))
theorem ok_X9_worthBy_23 : ok_S 81 23 (sf_i2 mx_add 24) := ok_iadd (by decide +kernel : decode (mb_ 81) 23 = .ok (.iadd, 1))
theorem ok_X9_worthBy_24 : ok_S 81 24 (sf_st 0 2 25) := ok_istore_n (by decide +kernel : decode (mb_ 81) 24 = .ok (.istore_n 2, 1)) rfl
theorem ok_X9_worthBy_25 : ok_S 81 25 (sf_inc 3 (-1) 28) := ok_iinc (by decide +kernel : decode (mb_ 81) 25 = .ok (.iinc 3 (-1), 3))
theorem ok_X9_worthBy_28 : ok_S 81 28 (sf_go 10) := ok_goto (by decide +kernel : decode (mb_ 81) 28 = .ok (.goto (-18), 3)) (by decide)
theorem ok_X9_worthBy_31 : ok_S 81 31 (sf_ld 0 2 32) := ok_iload_n (by decide +kernel : decode (mb_ 81) 31 = .ok (.iload_n 2, 1)) rfl
theorem ok_X9_worthBy_32 : ok_S 81 32 (sf_ret 0) := ok_ret0 (by decide +kernel : decode (mb_ 81) 32 = .ok (.ireturn, 1)) rfl
theorem ok_X9_worthBy (pc : Nat) : ok_S 81 pc (cd_X9_worthBy pc) :=
  (ok_bf (ok_bf (ok_bf (ok_bf (ok_bf (ok_lf pc ok_X9_worthBy_32) (ok_lf pc ok_X9_worthBy_31)) (ok_lf pc ok_X9_worthBy_28)) (ok_bf (ok_bf (ok_lf pc ok_X9_worthBy_25) (ok_lf pc ok_X9_worthBy_24)) (ok_lf pc ok_X9_worthBy_23))) (ok_bf (ok_bf (ok_bf (ok_lf pc ok_X9_worthBy_22) (ok_lf pc ok_X9_worthBy_21)) (ok_lf pc ok_X9_worthBy_18)) (ok_bf (ok_bf (ok_lf pc ok_X9_worthBy_17) (ok_lf pc ok_X9_worthBy_16)) (ok_lf pc ok_X9_worthBy_15)))) (ok_bf (ok_bf (ok_bf (ok_bf (ok_lf pc ok_X9_worthBy_14) (ok_lf pc ok_X9_worthBy_11)) (ok_lf pc ok_X9_worthBy_10)) (ok_bf (ok_bf (ok_lf pc ok_X9_worthBy_9) (ok_lf pc ok_X9_worthBy_8)) (ok_lf pc ok_X9_worthBy_7))) (ok_bf (ok_bf (ok_bf (ok_lf pc ok_X9_worthBy_6) (ok_lf pc ok_X9_worthBy_3)) (ok_lf pc ok_X9_worthBy_2)) (ok_bf (ok_lf pc ok_X9_worthBy_1) (ok_lf pc ok_X9_worthBy_0)))))
theorem mo_X9_worthBy (pc : Nat) : mo_S (cd_X9_worthBy pc) :=
  (mo_bf (mo_bf (mo_bf (mo_bf (mo_bf (mo_bf mo_ret mo_no) (mo_bf mo_ld mo_no)) (mo_bf mo_go mo_no)) (mo_bf (mo_bf (mo_bf mo_inc mo_no) (mo_bf mo_st mo_no)) (mo_bf mo_i2 mo_no))) (mo_bf (mo_bf (mo_bf (mo_bf mo_iald mo_no) (mo_bf mo_ld mo_no)) (mo_bf mo_gr mo_no)) (mo_bf (mo_bf (mo_bf mo_ld mo_no) (mo_bf mo_i2 mo_no)) (mo_bf mo_ld mo_no)))) (mo_bf (mo_bf (mo_bf (mo_bf (mo_bf mo_ld mo_no) (mo_bf mo_if mo_no)) (mo_bf mo_ld mo_no)) (mo_bf (mo_bf (mo_bf mo_st mo_no) (mo_bf mo_i2 mo_no)) (mo_bf mo_push mo_no))) (mo_bf (mo_bf (mo_bf (mo_bf mo_alen mo_no) (mo_bf mo_gr mo_no)) (mo_bf mo_ld mo_no)) (mo_bf (mo_bf mo_st mo_no) (mo_bf mo_push mo_no)))))
theorem ok_X9_tells_0 : ok_S 82 0 (sf_ld 2 2 1) := ok_aload_n (by decide +kernel : decode (mb_ 82) 0 = .ok (.aload_n 2, 1)) rfl
theorem ok_X9_tells_1 : ok_S 82 1 (sf_gr 11 11 0 4) := ok_gr fd_11_0 (by decide +kernel : decode (mb_ 82) 1 = .ok (.getfield 13, 3)) tw_184 (Or.inl rfl) rfl
theorem ok_X9_tells_4 : ok_S 82 4 (sf_ld 2 2 5) := ok_aload_n (by decide +kernel : decode (mb_ 82) 4 = .ok (.aload_n 2, 1)) rfl
theorem ok_X9_tells_5 : ok_S 82 5 (sf_dup 6) := ok_dup (by decide +kernel : decode (mb_ 82) 5 = .ok (.dup, 1))
theorem ok_X9_tells_6 : ok_S 82 6 (sf_gi 11 11 1 9) := ok_gi fd_11_1 (by decide +kernel : decode (mb_ 82) 6 = .ok (.getfield 18, 3)) tw_192 (Or.inl rfl) rfl
theorem ok_X9_tells_9 : ok_S 82 9 (sf_dx1 10) := ok_dx1 (by decide +kernel : decode (mb_ 82) 9 = .ok (.dup_x1, 1))
theorem ok_X9_tells_10 : ok_S 82 10 (sf_push (0, 1) 11) := ok_iconst (by decide +kernel : decode (mb_ 82) 10 = .ok (.iconst 1, 1)) ⟨by decide, by decide⟩
theorem ok_X9_tells_11 : ok_S 82 11 (sf_i2 mx_add 12) := ok_iadd (by decide +kernel : decode (mb_ 82) 11 = .ok (.iadd, 1))
theorem ok_X9_tells_12 : ok_S 82 12 (sf_pi 11 11 1 15) := ok_pi fd_11_1 (by decide +kernel : decode (mb_ 82) 12 = .ok (.putfield 18, 3)) tw_192 rfl (Or.inl ff_11_1) rfl
theorem ok_X9_tells_15 : ok_S 82 15 (sf_push (0, 31) 17) := ok_bipush (by decide +kernel : decode (mb_ 82) 15 = .ok (.bipush 31, 2)) ⟨by decide, by decide⟩ (by decide +kernel)
theorem ok_X9_tells_17 : ok_S 82 17 (sf_i2 mx_and 18) := ok_iand (by decide +kernel : decode (mb_ 82) 17 = .ok (.iand, 1))
theorem ok_X9_tells_18 : ok_S 82 18 (sf_push (0, 60) 20) := ok_bipush (by decide +kernel : decode (mb_ 82) 18 = .ok (.bipush 60, 2)) ⟨by decide, by decide⟩ (by decide +kernel)
theorem ok_X9_tells_20 : ok_S 82 20 (sf_iast 21) := ok_iast (by decide +kernel : decode (mb_ 82) 20 = .ok (.iastore, 1))
theorem ok_X9_tells_21 : ok_S 82 21 (sf_ld 2 0 22) := ok_aload_n (by decide +kernel : decode (mb_ 82) 21 = .ok (.aload_n 0, 1)) rfl
theorem ok_X9_tells_22 : ok_S 82 22 (sf_ld 0 1 23) := ok_iload_n (by decide +kernel : decode (mb_ 82) 22 = .ok (.iload_n 1, 1)) rfl
theorem ok_X9_tells_23 : ok_S 82 23 (sf_ld 2 2 24) := ok_aload_n (by decide +kernel : decode (mb_ 82) 23 = .ok (.aload_n 2, 1)) rfl
theorem ok_X9_tells_24 : ok_S 82 24 (sf_ci 1 6 [2, 0, 2] 51 27) := ok_csu (x := ⟨"RoomNumbers$Note", "tells", "(ILRoomNumbers$Trace;)I"⟩) (ow := "RoomNumbers$Note") mt_51 rfl (by decide +kernel : decode (mb_ 82) 24 = .ok (.invokespecial 22, 3)) tw_1087 tw_1072 tw_471 (Or.inl rfl) tw_1070 tw_14 (by decide) rfl (by decide +kernel) (by decide) (by decide) cl_16
theorem ok_X9_tells_27 : ok_S 82 27 (sf_push (0, 2) 28) := ok_iconst (by decide +kernel : decode (mb_ 82) 27 = .ok (.iconst 2, 1)) ⟨by decide, by decide⟩
theorem ok_X9_tells_28 : ok_S 82 28 (sf_i2 mx_mul 29) := ok_imul (by decide +kernel : decode (mb_ 82) 28 = .ok (.imul, 1))
theorem ok_X9_tells_29 : ok_S 82 29 (sf_ret 0) := ok_ret0 (by decide +kernel : decode (mb_ 82) 29 = .ok (.ireturn, 1)) rfl
theorem ok_X9_tells (pc : Nat) : ok_S 82 pc (cd_X9_tells pc) :=
  (ok_bf (ok_bf (ok_bf (ok_bf (ok_bf (ok_lf pc ok_X9_tells_29) (ok_lf pc ok_X9_tells_28)) (ok_lf pc ok_X9_tells_27)) (ok_bf (ok_lf pc ok_X9_tells_24) (ok_lf pc ok_X9_tells_23))) (ok_bf (ok_bf (ok_bf (ok_lf pc ok_X9_tells_22) (ok_lf pc ok_X9_tells_21)) (ok_lf pc ok_X9_tells_20)) (ok_bf (ok_lf pc ok_X9_tells_18) (ok_lf pc ok_X9_tells_17)))) (ok_bf (ok_bf (ok_bf (ok_bf (ok_lf pc ok_X9_tells_15) (ok_lf pc ok_X9_tells_12)) (ok_lf pc ok_X9_tells_11)) (ok_bf (ok_lf pc ok_X9_tells_10) (ok_lf pc ok_X9_tells_9))) (ok_bf (ok_bf (ok_bf (ok_lf pc ok_X9_tells_6) (ok_lf pc ok_X9_tells_5)) (ok_lf pc ok_X9_tells_4)) (ok_bf (ok_lf pc ok_X9_tells_1) (ok_lf pc ok_X9_tells_0)))))
theorem mo_X9_tells (pc : Nat) : mo_S (cd_X9_tells pc) :=
  (mo_bf (mo_bf (mo_bf (mo_bf (mo_bf (mo_bf mo_ret mo_no) (mo_bf mo_i2 mo_no)) (mo_bf mo_push mo_no)) (mo_bf (mo_bf mo_ci mo_no) (mo_bf mo_ld mo_no))) (mo_bf (mo_bf (mo_bf (mo_bf mo_ld mo_no) (mo_bf mo_ld mo_no)) (mo_bf mo_iast mo_no)) (mo_bf (mo_bf mo_push mo_no) (mo_bf mo_i2 mo_no)))) (mo_bf (mo_bf (mo_bf (mo_bf (mo_bf mo_push mo_no) (mo_bf mo_pi mo_no)) (mo_bf mo_i2 mo_no)) (mo_bf (mo_bf mo_push mo_no) (mo_bf mo_dx1 mo_no))) (mo_bf (mo_bf (mo_bf (mo_bf mo_gi mo_no) (mo_bf mo_dup mo_no)) (mo_bf mo_ld mo_no)) (mo_bf (mo_bf mo_gr mo_no) (mo_bf mo_ld mo_no)))))
theorem ok_X9_shares_0 : ok_S 83 0 (sf_ld 2 2 1) := ok_aload_n (by decide +kernel : decode (mb_ 83) 0 = .ok (.aload_n 2, 1)) rfl
theorem ok_X9_shares_1 : ok_S 83 1 (sf_gr 11 11 0 4) := ok_gr fd_11_0 (by decide +kernel : decode (mb_ 83) 1 = .ok (.getfield 13, 3)) tw_184 (Or.inl rfl) rfl
theorem ok_X9_shares_4 : ok_S 83 4 (sf_ld 2 2 5) := ok_aload_n (by decide +kernel : decode (mb_ 83) 4 = .ok (.aload_n 2, 1)) rfl
theorem ok_X9_shares_5 : ok_S 83 5 (sf_dup 6) := ok_dup (by decide +kernel : decode (mb_ 83) 5 = .ok (.dup, 1))
theorem ok_X9_shares_6 : ok_S 83 6 (sf_gi 11 11 1 9) := ok_gi fd_11_1 (by decide +kernel : decode (mb_ 83) 6 = .ok (.getfield 18, 3)) tw_192 (Or.inl rfl) rfl
theorem ok_X9_shares_9 : ok_S 83 9 (sf_dx1 10) := ok_dx1 (by decide +kernel : decode (mb_ 83) 9 = .ok (.dup_x1, 1))
theorem ok_X9_shares_10 : ok_S 83 10 (sf_push (0, 1) 11) := ok_iconst (by decide +kernel : decode (mb_ 83) 10 = .ok (.iconst 1, 1)) ⟨by decide, by decide⟩
theorem ok_X9_shares_11 : ok_S 83 11 (sf_i2 mx_add 12) := ok_iadd (by decide +kernel : decode (mb_ 83) 11 = .ok (.iadd, 1))
theorem ok_X9_shares_12 : ok_S 83 12 (sf_pi 11 11 1 15) := ok_pi fd_11_1 (by decide +kernel : decode (mb_ 83) 12 = .ok (.putfield 18, 3)) tw_192 rfl (Or.inl ff_11_1) rfl
theorem ok_X9_shares_15 : ok_S 83 15 (sf_push (0, 31) 17) := ok_bipush (by decide +kernel : decode (mb_ 83) 15 = .ok (.bipush 31, 2)) ⟨by decide, by decide⟩ (by decide +kernel)
theorem ok_X9_shares_17 : ok_S 83 17 (sf_i2 mx_and 18) := ok_iand (by decide +kernel : decode (mb_ 83) 17 = .ok (.iand, 1))
theorem ok_X9_shares_18 : ok_S 83 18 (sf_push (0, 61) 20) := ok_bipush (by decide +kernel : decode (mb_ 83) 18 = .ok (.bipush 61, 2)) ⟨by decide, by decide⟩ (by decide +kernel)
theorem ok_X9_shares_20 : ok_S 83 20 (sf_iast 21) := ok_iast (by decide +kernel : decode (mb_ 83) 20 = .ok (.iastore, 1))
theorem ok_X9_shares_21 : ok_S 83 21 (sf_ld 2 0 22) := ok_aload_n (by decide +kernel : decode (mb_ 83) 21 = .ok (.aload_n 0, 1)) rfl
theorem ok_X9_shares_22 : ok_S 83 22 (sf_ld 0 1 23) := ok_iload_n (by decide +kernel : decode (mb_ 83) 22 = .ok (.iload_n 1, 1)) rfl
theorem ok_X9_shares_23 : ok_S 83 23 (sf_ld 2 2 24) := ok_aload_n (by decide +kernel : decode (mb_ 83) 23 = .ok (.aload_n 2, 1)) rfl
theorem ok_X9_shares_24 : ok_S 83 24 (sf_ci 1 6 [2, 0, 2] 50 27) := ok_csu (x := ⟨"RoomNumbers$Note", "shares", "(ILRoomNumbers$Trace;)I"⟩) (ow := "RoomNumbers$Note") mt_50 rfl (by decide +kernel : decode (mb_ 83) 24 = .ok (.invokespecial 26, 3)) tw_1060 tw_1047 tw_471 (Or.inl rfl) tw_1045 tw_14 (by decide) rfl (by decide +kernel) (by decide) (by decide) cl_16
theorem ok_X9_shares_27 : ok_S 83 27 (sf_ld 2 0 28) := ok_aload_n (by decide +kernel : decode (mb_ 83) 27 = .ok (.aload_n 0, 1)) rfl
theorem ok_X9_shares_28 : ok_S 83 28 (sf_ld 2 0 29) := ok_aload_n (by decide +kernel : decode (mb_ 83) 28 = .ok (.aload_n 0, 1)) rfl
theorem ok_X9_shares_29 : ok_S 83 29 (sf_gi 1 6 1 32) := ok_gi fd_1_1 (by decide +kernel : decode (mb_ 83) 29 = .ok (.getfield 29, 3)) tw_412 (Or.inr tw_413) rfl
theorem ok_X9_shares_32 : ok_S 83 32 (sf_ld 2 2 33) := ok_aload_n (by decide +kernel : decode (mb_ 83) 32 = .ok (.aload_n 2, 1)) rfl
theorem ok_X9_shares_33 : ok_S 83 33 (sf_cu [(5, 48)] [2, 0, 2] 36) := ok_cu (x := ⟨"RoomNumbers$Turned", "reads", "(ILRoomNumbers$Trace;)I"⟩) (ow := "RoomNumbers$Note") ⟨tw_1061, tw_1062, tw_1004, ⟨_, _, _, tw_1023⟩, mh_ok rfl, (by decide +kernel)⟩ (List.forall_mem_cons.mpr ⟨⟨"RoomNumbers$Turned", cl_5, mt_48, tw_1063, tw_1004, tw_14, by decide, by decide⟩, (fun _ h => absurd h List.not_mem_nil)⟩) (by decide +kernel : decode (mb_ 83) 33 = .ok (.invokevirtual 32, 3)) rfl
theorem ok_X9_shares_36 : ok_S 83 36 (sf_i2 mx_add 37) := ok_iadd (by decide +kernel : decode (mb_ 83) 36 = .ok (.iadd, 1))
theorem ok_X9_shares_37 : ok_S 83 37 (sf_ret 0) := ok_ret0 (by decide +kernel : decode (mb_ 83) 37 = .ok (.ireturn, 1)) rfl
theorem ok_X9_shares (pc : Nat) : ok_S 83 pc (cd_X9_shares pc) :=
  (ok_bf (ok_bf (ok_bf (ok_bf (ok_bf (ok_lf pc ok_X9_shares_37) (ok_lf pc ok_X9_shares_36)) (ok_lf pc ok_X9_shares_33)) (ok_bf (ok_bf (ok_lf pc ok_X9_shares_32) (ok_lf pc ok_X9_shares_29)) (ok_lf pc ok_X9_shares_28))) (ok_bf (ok_bf (ok_bf (ok_lf pc ok_X9_shares_27) (ok_lf pc ok_X9_shares_24)) (ok_lf pc ok_X9_shares_23)) (ok_bf (ok_bf (ok_lf pc ok_X9_shares_22) (ok_lf pc ok_X9_shares_21)) (ok_lf pc ok_X9_shares_20)))) (ok_bf (ok_bf (ok_bf (ok_bf (ok_lf pc ok_X9_shares_18) (ok_lf pc ok_X9_shares_17)) (ok_lf pc ok_X9_shares_15)) (ok_bf (ok_bf (ok_lf pc ok_X9_shares_12) (ok_lf pc ok_X9_shares_11)) (ok_lf pc ok_X9_shares_10))) (ok_bf (ok_bf (ok_bf (ok_lf pc ok_X9_shares_9) (ok_lf pc ok_X9_shares_6)) (ok_lf pc ok_X9_shares_5)) (ok_bf (ok_bf (ok_lf pc ok_X9_shares_4) (ok_lf pc ok_X9_shares_1)) (ok_lf pc ok_X9_shares_0)))))
theorem mo_X9_shares (pc : Nat) : mo_S (cd_X9_shares pc) :=
  (mo_bf (mo_bf (mo_bf (mo_bf (mo_bf (mo_bf mo_ret mo_no) (mo_bf mo_i2 mo_no)) (mo_bf mo_cu mo_no)) (mo_bf (mo_bf (mo_bf mo_ld mo_no) (mo_bf mo_gi mo_no)) (mo_bf mo_ld mo_no))) (mo_bf (mo_bf (mo_bf (mo_bf mo_ld mo_no) (mo_bf mo_ci mo_no)) (mo_bf mo_ld mo_no)) (mo_bf (mo_bf (mo_bf mo_ld mo_no) (mo_bf mo_ld mo_no)) (mo_bf mo_iast mo_no)))) (mo_bf (mo_bf (mo_bf (mo_bf (mo_bf mo_push mo_no) (mo_bf mo_i2 mo_no)) (mo_bf mo_push mo_no)) (mo_bf (mo_bf (mo_bf mo_pi mo_no) (mo_bf mo_i2 mo_no)) (mo_bf mo_push mo_no))) (mo_bf (mo_bf (mo_bf (mo_bf mo_dx1 mo_no) (mo_bf mo_gi mo_no)) (mo_bf mo_dup mo_no)) (mo_bf (mo_bf (mo_bf mo_ld mo_no) (mo_bf mo_gr mo_no)) (mo_bf mo_ld mo_no)))))
theorem ok_J6_bitCount_0f7a4_0 : ok_S 248 0 (sf_ld 0 0 1) := ok_iload_n (by decide +kernel : decode (mb_ 248) 0 = .ok (.iload_n 0, 1)) rfl
theorem ok_J6_bitCount_0f7a4_1 : ok_S 248 1 (sf_ld 0 0 2) := ok_iload_n (by decide +kernel : decode (mb_ 248) 1 = .ok (.iload_n 0, 1)) rfl
theorem ok_J6_bitCount_0f7a4_2 : ok_S 248 2 (sf_push (0, 1) 3) := ok_iconst (by decide +kernel : decode (mb_ 248) 2 = .ok (.iconst 1, 1)) ⟨by decide, by decide⟩
theorem ok_J6_bitCount_0f7a4_3 : ok_S 248 3 (sf_i2 mx_ush 4) := ok_iushr (by decide +kernel : decode (mb_ 248) 3 = .ok (.iushr, 1))
theorem ok_J6_bitCount_0f7a4_4 : ok_S 248 4 (sf_push (0, 1431655765) 7) := ok_ldcw (by decide +kernel : decode (mb_ 248) 4 = .ok (.ldc_w 265, 3)) ⟨by decide, by decide⟩ tw_754
theorem ok_J6_bitCount_0f7a4_7 : ok_S 248 7 (sf_i2 mx_and 8) := ok_iand (by decide +kernel : decode (mb_ 248) 7 = .ok (.iand, 1))
theorem ok_J6_bitCount_0f7a4_8 : ok_S 248 8 (sf_i2 mx_sub 9) := ok_isub (by decide +kernel : decode (mb_ 248) 8 = .ok (.isub, 1))
theorem ok_J6_bitCount_0f7a4_9 : ok_S 248 9 (sf_st 0 0 10) := ok_istore_n (by decide +kernel : decode (mb_ 248) 9 = .ok (.istore_n 0, 1)) rfl
theorem ok_J6_bitCount_0f7a4_10 : ok_S 248 10 (sf_ld 0 0 11) := ok_iload_n (by decide +kernel : decode (mb_ 248) 10 = .ok (.iload_n 0, 1)) rfl
theorem ok_J6_bitCount_0f7a4_11 : ok_S 248 11 (sf_push (0, 858993459) 14) := ok_ldcw (by decide +kernel : decode (mb_ 248) 11 = .ok (.ldc_w 266, 3)) ⟨by decide, by decide⟩ tw_755
theorem ok_J6_bitCount_0f7a4_14 : ok_S 248 14 (sf_i2 mx_and 15) := ok_iand (by decide +kernel : decode (mb_ 248) 14 = .ok (.iand, 1))
theorem ok_J6_bitCount_0f7a4_15 : ok_S 248 15 (sf_ld 0 0 16) := ok_iload_n (by decide +kernel : decode (mb_ 248) 15 = .ok (.iload_n 0, 1)) rfl
theorem ok_J6_bitCount_0f7a4_16 : ok_S 248 16 (sf_push (0, 2) 17) := ok_iconst (by decide +kernel : decode (mb_ 248) 16 = .ok (.iconst 2, 1)) ⟨by decide, by decide⟩
theorem ok_J6_bitCount_0f7a4_17 : ok_S 248 17 (sf_i2 mx_ush 18) := ok_iushr (by decide +kernel : decode (mb_ 248) 17 = .ok (.iushr, 1))
theorem ok_J6_bitCount_0f7a4_18 : ok_S 248 18 (sf_push (0, 858993459) 21) := ok_ldcw (by decide +kernel : decode (mb_ 248) 18 = .ok (.ldc_w 266, 3)) ⟨by decide, by decide⟩ tw_755
theorem ok_J6_bitCount_0f7a4_21 : ok_S 248 21 (sf_i2 mx_and 22) := ok_iand (by decide +kernel : decode (mb_ 248) 21 = .ok (.iand, 1))
theorem ok_J6_bitCount_0f7a4_22 : ok_S 248 22 (sf_i2 mx_add 23) := ok_iadd (by decide +kernel : decode (mb_ 248) 22 = .ok (.iadd, 1))
theorem ok_J6_bitCount_0f7a4_23 : ok_S 248 23 (sf_st 0 0 24) := ok_istore_n (by decide +kernel : decode (mb_ 248) 23 = .ok (.istore_n 0, 1)) rfl
theorem ok_J6_bitCount_0f7a4_24 : ok_S 248 24 (sf_ld 0 0 25) := ok_iload_n (by decide +kernel : decode (mb_ 248) 24 = .ok (.iload_n 0, 1)) rfl
theorem ok_J6_bitCount_0f7a4_25 : ok_S 248 25 (sf_ld 0 0 26) := ok_iload_n (by decide +kernel : decode (mb_ 248) 25 = .ok (.iload_n 0, 1)) rfl
theorem ok_J6_bitCount_0f7a4_26 : ok_S 248 26 (sf_push (0, 4) 27) := ok_iconst (by decide +kernel : decode (mb_ 248) 26 = .ok (.iconst 4, 1)) ⟨by decide, by decide⟩
theorem ok_J6_bitCount_0f7a4_27 : ok_S 248 27 (sf_i2 mx_ush 28) := ok_iushr (by decide +kernel : decode (mb_ 248) 27 = .ok (.iushr, 1))
theorem ok_J6_bitCount_0f7a4_28 : ok_S 248 28 (sf_i2 mx_add 29) := ok_iadd (by decide +kernel : decode (mb_ 248) 28 = .ok (.iadd, 1))
theorem ok_J6_bitCount_0f7a4_29 : ok_S 248 29 (sf_push (0, 252645135) 32) := ok_ldcw (by decide +kernel : decode (mb_ 248) 29 = .ok (.ldc_w 267, 3)) ⟨by decide, by decide⟩ tw_756
theorem ok_J6_bitCount_0f7a4_32 : ok_S 248 32 (sf_i2 mx_and 33) := ok_iand (by decide +kernel : decode (mb_ 248) 32 = .ok (.iand, 1))
theorem ok_J6_bitCount_0f7a4_33 : ok_S 248 33 (sf_st 0 0 34) := ok_istore_n (by decide +kernel : decode (mb_ 248) 33 = .ok (.istore_n 0, 1)) rfl
theorem ok_J6_bitCount_0f7a4_34 : ok_S 248 34 (sf_ld 0 0 35) := ok_iload_n (by decide +kernel : decode (mb_ 248) 34 = .ok (.iload_n 0, 1)) rfl
theorem ok_J6_bitCount_0f7a4_35 : ok_S 248 35 (sf_ld 0 0 36) := ok_iload_n (by decide +kernel : decode (mb_ 248) 35 = .ok (.iload_n 0, 1)) rfl
theorem ok_J6_bitCount_0f7a4_36 : ok_S 248 36 (sf_push (0, 8) 38) := ok_bipush (by decide +kernel : decode (mb_ 248) 36 = .ok (.bipush 8, 2)) ⟨by decide, by decide⟩ (by decide +kernel)
theorem ok_J6_bitCount_0f7a4_38 : ok_S 248 38 (sf_i2 mx_ush 39) := ok_iushr (by decide +kernel : decode (mb_ 248) 38 = .ok (.iushr, 1))
theorem ok_J6_bitCount_0f7a4_39 : ok_S 248 39 (sf_i2 mx_add 40) := ok_iadd (by decide +kernel : decode (mb_ 248) 39 = .ok (.iadd, 1))
theorem ok_J6_bitCount_0f7a4_40 : ok_S 248 40 (sf_st 0 0 41) := ok_istore_n (by decide +kernel : decode (mb_ 248) 40 = .ok (.istore_n 0, 1)) rfl
theorem ok_J6_bitCount_0f7a4_41 : ok_S 248 41 (sf_ld 0 0 42) := ok_iload_n (by decide +kernel : decode (mb_ 248) 41 = .ok (.iload_n 0, 1)) rfl
theorem ok_J6_bitCount_0f7a4_42 : ok_S 248 42 (sf_ld 0 0 43) := ok_iload_n (by decide +kernel : decode (mb_ 248) 42 = .ok (.iload_n 0, 1)) rfl
theorem ok_J6_bitCount_0f7a4_43 : ok_S 248 43 (sf_push (0, 16) 45) := ok_bipush (by decide +kernel : decode (mb_ 248) 43 = .ok (.bipush 16, 2)) ⟨by decide, by decide⟩ (by decide +kernel)
theorem ok_J6_bitCount_0f7a4_45 : ok_S 248 45 (sf_i2 mx_ush 46) := ok_iushr (by decide +kernel : decode (mb_ 248) 45 = .ok (.iushr, 1))
theorem ok_J6_bitCount_0f7a4_46 : ok_S 248 46 (sf_i2 mx_add 47) := ok_iadd (by decide +kernel : decode (mb_ 248) 46 = .ok (.iadd, 1))
theorem ok_J6_bitCount_0f7a4_47 : ok_S 248 47 (sf_st 0 0 48) := ok_istore_n (by decide +kernel : decode (mb_ 248) 47 = .ok (.istore_n 0, 1)) rfl
theorem ok_J6_bitCount_0f7a4_48 : ok_S 248 48 (sf_ld 0 0 49) := ok_iload_n (by decide +kernel : decode (mb_ 248) 48 = .ok (.iload_n 0, 1)) rfl
theorem ok_J6_bitCount_0f7a4_49 : ok_S 248 49 (sf_push (0, 63) 51) := ok_bipush (by decide +kernel : decode (mb_ 248) 49 = .ok (.bipush 63, 2)) ⟨by decide, by decide⟩ (by decide +kernel)
theorem ok_J6_bitCount_0f7a4_51 : ok_S 248 51 (sf_i2 mx_and 52) := ok_iand (by decide +kernel : decode (mb_ 248) 51 = .ok (.iand, 1))
theorem ok_J6_bitCount_0f7a4_52 : ok_S 248 52 (sf_ret 0) := ok_ret0 (by decide +kernel : decode (mb_ 248) 52 = .ok (.ireturn, 1)) rfl
theorem ok_J6_bitCount_0f7a4 (pc : Nat) : ok_S 248 pc (cd_J6_bitCount_0f7a4 pc) :=
  (ok_bf (ok_bf (ok_bf (ok_bf (ok_bf (ok_bf (ok_lf pc ok_J6_bitCount_0f7a4_52) (ok_lf pc ok_J6_bitCount_0f7a4_51)) (ok_lf pc ok_J6_bitCount_0f7a4_49)) (ok_bf (ok_bf (ok_lf pc ok_J6_bitCount_0f7a4_48) (ok_lf pc ok_J6_bitCount_0f7a4_47)) (ok_lf pc ok_J6_bitCount_0f7a4_46))) (ok_bf (ok_bf (ok_bf (ok_lf pc ok_J6_bitCount_0f7a4_45) (ok_lf pc ok_J6_bitCount_0f7a4_43)) (ok_lf pc ok_J6_bitCount_0f7a4_42)) (ok_bf (ok_lf pc ok_J6_bitCount_0f7a4_41) (ok_lf pc ok_J6_bitCount_0f7a4_40)))) (ok_bf (ok_bf (ok_bf (ok_bf (ok_lf pc ok_J6_bitCount_0f7a4_39) (ok_lf pc ok_J6_bitCount_0f7a4_38)) (ok_lf pc ok_J6_bitCount_0f7a4_36)) (ok_bf (ok_lf pc ok_J6_bitCount_0f7a4_35) (ok_lf pc ok_J6_bitCount_0f7a4_34))) (ok_bf (ok_bf (ok_bf (ok_lf pc ok_J6_bitCount_0f7a4_33) (ok_lf pc ok_J6_bitCount_0f7a4_32)) (ok_lf pc ok_J6_bitCount_0f7a4_29)) (ok_bf (ok_lf pc ok_J6_bitCount_0f7a4_28) (ok_lf pc ok_J6_bitCount_0f7a4_27))))) (ok_bf (ok_bf (ok_bf (ok_bf (ok_bf (ok_lf pc ok_J6_bitCount_0f7a4_26) (ok_lf pc ok_J6_bitCount_0f7a4_25)) (ok_lf pc ok_J6_bitCount_0f7a4_24)) (ok_bf (ok_bf (ok_lf pc ok_J6_bitCount_0f7a4_23) (ok_lf pc ok_J6_bitCount_0f7a4_22)) (ok_lf pc ok_J6_bitCount_0f7a4_21))) (ok_bf (ok_bf (ok_bf (ok_lf pc ok_J6_bitCount_0f7a4_18) (ok_lf pc ok_J6_bitCount_0f7a4_17)) (ok_lf pc ok_J6_bitCount_0f7a4_16)) (ok_bf (ok_lf pc ok_J6_bitCount_0f7a4_15) (ok_lf pc ok_J6_bitCount_0f7a4_14)))) (ok_bf (ok_bf (ok_bf (ok_bf (ok_lf pc ok_J6_bitCount_0f7a4_11) (ok_lf pc ok_J6_bitCount_0f7a4_10)) (ok_lf pc ok_J6_bitCount_0f7a4_9)) (ok_bf (ok_lf pc ok_J6_bitCount_0f7a4_8) (ok_lf pc ok_J6_bitCount_0f7a4_7))) (ok_bf (ok_bf (ok_bf (ok_lf pc ok_J6_bitCount_0f7a4_4) (ok_lf pc ok_J6_bitCount_0f7a4_3)) (ok_lf pc ok_J6_bitCount_0f7a4_2)) (ok_bf (ok_lf pc ok_J6_bitCount_0f7a4_1) (ok_lf pc ok_J6_bitCount_0f7a4_0))))))
theorem mo_J6_bitCount_0f7a4 (pc : Nat) : mo_S (cd_J6_bitCount_0f7a4 pc) :=
  (mo_bf (mo_bf (mo_bf (mo_bf (mo_bf (mo_bf (mo_bf mo_ret mo_no) (mo_bf mo_i2 mo_no)) (mo_bf mo_push mo_no)) (mo_bf (mo_bf (mo_bf mo_ld mo_no) (mo_bf mo_st mo_no)) (mo_bf mo_i2 mo_no))) (mo_bf (mo_bf (mo_bf (mo_bf mo_i2 mo_no) (mo_bf mo_push mo_no)) (mo_bf mo_ld mo_no)) (mo_bf (mo_bf mo_ld mo_no) (mo_bf mo_st mo_no)))) (mo_bf (mo_bf (mo_bf (mo_bf (mo_bf mo_i2 mo_no) (mo_bf mo_i2 mo_no)) (mo_bf mo_push mo_no)) (mo_bf (mo_bf mo_ld mo_no) (mo_bf mo_ld mo_no))) (mo_bf (mo_bf (mo_bf (mo_bf mo_st mo_no) (mo_bf mo_i2 mo_no)) (mo_bf mo_push mo_no)) (mo_bf (mo_bf mo_i2 mo_no) (mo_bf mo_i2 mo_no))))) (mo_bf (mo_bf (mo_bf (mo_bf (mo_bf (mo_bf mo_push mo_no) (mo_bf mo_ld mo_no)) (mo_bf mo_ld mo_no)) (mo_bf (mo_bf (mo_bf mo_st mo_no) (mo_bf mo_i2 mo_no)) (mo_bf mo_i2 mo_no))) (mo_bf (mo_bf (mo_bf (mo_bf mo_push mo_no) (mo_bf mo_i2 mo_no)) (mo_bf mo_push mo_no)) (mo_bf (mo_bf mo_ld mo_no) (mo_bf mo_i2 mo_no)))) (mo_bf (mo_bf (mo_bf (mo_bf (mo_bf mo_push mo_no) (mo_bf mo_ld mo_no)) (mo_bf mo_st mo_no)) (mo_bf (mo_bf mo_i2 mo_no) (mo_bf mo_i2 mo_no))) (mo_bf (mo_bf (mo_bf (mo_bf mo_push mo_no) (mo_bf mo_i2 mo_no)) (mo_bf mo_push mo_no)) (mo_bf (mo_bf mo_ld mo_no) (mo_bf mo_ld mo_no))))))
theorem ok_J0_length_8abf5_0 : ok_S 249 0 (sf_ld 2 0 1) := ok_aload_n (by decide +kernel : decode (mb_ 249) 0 = .ok (.aload_n 0, 1)) rfl
theorem ok_J0_length_8abf5_1 : ok_S 249 1 (sf_gr 30 30 0 4) := ok_sgr (by decide +kernel : decode (mb_ 249) 1 = .ok (.getfield 9, 3)) tw_1605
theorem ok_J0_length_8abf5_4 : ok_S 249 4 (sf_alen 5) := ok_alen (by decide +kernel : decode (mb_ 249) 4 = .ok (.arraylength, 1))
theorem ok_J0_length_8abf5_5 : ok_S 249 5 (sf_ld 2 0 6) := ok_aload_n (by decide +kernel : decode (mb_ 249) 5 = .ok (.aload_n 0, 1)) rfl
theorem ok_J0_length_8abf5_6 : ok_S 249 6 (sf_cv 30 [2] 251 9) := ok_cvs mt_251 rfl (by decide +kernel : decode (mb_ 249) 6 = .ok (.invokevirtual 335, 3)) tw_307 tw_308 tw_309 tw_9 rfl (by decide +kernel) (mh_ok rfl) (by decide) (by decide)
theorem ok_J0_length_8abf5_9 : ok_S 249 9 (sf_i2 mx_shr 10) := ok_ishr (by decide +kernel : decode (mb_ 249) 9 = .ok (.ishr, 1))
theorem ok_J0_length_8abf5_10 : ok_S 249 10 (sf_ret 0) := ok_ret0 (by decide +kernel : decode (mb_ 249) 10 = .ok (.ireturn, 1)) rfl
theorem ok_J0_length_8abf5 (pc : Nat) : ok_S 249 pc (cd_J0_length_8abf5 pc) :=
  (ok_bf (ok_bf (ok_bf (ok_lf pc ok_J0_length_8abf5_10) (ok_lf pc ok_J0_length_8abf5_9)) (ok_bf (ok_lf pc ok_J0_length_8abf5_6) (ok_lf pc ok_J0_length_8abf5_5))) (ok_bf (ok_bf (ok_lf pc ok_J0_length_8abf5_4) (ok_lf pc ok_J0_length_8abf5_1)) (ok_lf pc ok_J0_length_8abf5_0)))
theorem mo_J0_length_8abf5 (pc : Nat) : mo_S (cd_J0_length_8abf5 pc) :=
  (mo_bf (mo_bf (mo_bf (mo_bf mo_ret mo_no) (mo_bf mo_i2 mo_no)) (mo_bf (mo_bf mo_cv mo_no) (mo_bf mo_ld mo_no))) (mo_bf (mo_bf (mo_bf mo_alen mo_no) (mo_bf mo_gr mo_no)) (mo_bf mo_ld mo_no)))
theorem ok_J0_charAt_5068e_0 : ok_S 250 0 (sf_ld 2 0 1) := ok_aload_n (by decide +kernel : decode (mb_ 250) 0 = .ok (.aload_n 0, 1)) rfl
theorem ok_J0_charAt_5068e_1 : ok_S 250 1 (sf_cv 30 [2] 252 4) := ok_cvs mt_252 rfl (by decide +kernel : decode (mb_ 250) 1 = .ok (.invokevirtual 492, 3)) tw_317 tw_318 tw_319 tw_9 rfl (by decide +kernel) (mh_ok rfl) (by decide) (by decide)
theorem ok_J0_charAt_5068e_4 : ok_S 250 4 (sf_if 0 16 7) := ok_if0 (by decide +kernel : decode (mb_ 250) 4 = .ok (.ifCond .eq 12, 3)) (by decide)
theorem ok_J0_charAt_5068e_7 : ok_S 250 7 (sf_ld 2 0 8) := ok_aload_n (by decide +kernel : decode (mb_ 250) 7 = .ok (.aload_n 0, 1)) rfl
theorem ok_J0_charAt_5068e_8 : ok_S 250 8 (sf_gr 30 30 0 11) := ok_sgr (by decide +kernel : decode (mb_ 250) 8 = .ok (.getfield 9, 3)) tw_1605
theorem ok_J0_charAt_5068e_11 : ok_S 250 11 (sf_ld 0 1 12) := ok_iload_n (by decide +kernel : decode (mb_ 250) 11 = .ok (.iload_n 1, 1)) rfl
theorem ok_J0_charAt_5068e_12 : ok_S 250 12 (sf_cs [2, 0] 254 15) := ok_cs mt_254 (by decide +kernel : decode (mb_ 250) 12 = .ok (.invokestatic 495, 3)) tw_321 tw_322 tw_10 (by decide +kernel) (mh_ok rfl) (by decide) (by decide)
theorem ok_J0_charAt_5068e_15 : ok_S 250 15 (sf_rr 0 127) := ok_rr (by decide +kernel : decode (mb_ 250) 15 = .ok (.ireturn, 1)) rfl so_nch
theorem ok_J0_charAt_5068e_16 : ok_S 250 16 (sf_ld 2 0 17) := ok_aload_n (by decide +kernel : decode (mb_ 250) 16 = .ok (.aload_n 0, 1)) rfl
theorem ok_J0_charAt_5068e_17 : ok_S 250 17 (sf_gr 30 30 0 20) := ok_sgr (by decide +kernel : decode (mb_ 250) 17 = .ok (.getfield 9, 3)) tw_1605
theorem ok_J0_charAt_5068e_20 : ok_S 250 20 (sf_ld 0 1 21) := ok_iload_n (by decide +kernel : decode (mb_ 250) 20 = .ok (.iload_n 1, 1)) rfl
theorem ok_J0_charAt_5068e (pc : Nat) : ok_S 250 pc (cd_J0_charAt_5068e pc) :=
  (ok_bf (ok_bf (ok_bf (ok_bf (ok_lf pc (ok_no 250 24)) (ok_lf pc (ok_no 250 21))) (ok_bf (ok_lf pc ok_J0_charAt_5068e_20) (ok_lf pc ok_J0_charAt_5068e_17))) (ok_bf (ok_bf (ok_lf pc ok_J0_charAt_5068e_16) (ok_lf pc ok_J0_charAt_5068e_15)) (ok_lf pc ok_J0_charAt_5068e_12))) (ok_bf (ok_bf (ok_bf (ok_lf pc ok_J0_charAt_5068e_11) (ok_lf pc ok_J0_charAt_5068e_8)) (ok_lf pc ok_J0_charAt_5068e_7)) (ok_bf (ok_bf (ok_lf pc ok_J0_charAt_5068e_4) (ok_lf pc ok_J0_charAt_5068e_1)) (ok_lf pc ok_J0_charAt_5068e_0))))
theorem mo_J0_charAt_5068e (pc : Nat) : mo_S (cd_J0_charAt_5068e pc) :=
  (mo_bf (mo_bf (mo_bf (mo_bf (mo_bf mo_no mo_no) (mo_bf mo_no mo_no)) (mo_bf (mo_bf mo_ld mo_no) (mo_bf mo_gr mo_no))) (mo_bf (mo_bf (mo_bf mo_ld mo_no) (mo_bf mo_rr mo_no)) (mo_bf mo_cs mo_no))) (mo_bf (mo_bf (mo_bf (mo_bf mo_ld mo_no) (mo_bf mo_gr mo_no)) (mo_bf mo_ld mo_no)) (mo_bf (mo_bf (mo_bf mo_if mo_no) (mo_bf mo_cv mo_no)) (mo_bf mo_ld mo_no))))
theorem ok_J0_coder_7d493_0 : ok_S 251 0 (sf_push (0, 1) 3) := ok_compact (by decide +kernel : decode (mb_ 251) 0 = .ok (.getstatic 38, 3)) tw_311
theorem ok_J0_coder_7d493_3 : ok_S 251 3 (sf_if 0 13 6) := ok_if0 (by decide +kernel : decode (mb_ 251) 3 = .ok (.ifCond .eq 10, 3)) (by decide)
theorem ok_J0_coder_7d493_6 : ok_S 251 6 (sf_ld 2 0 7) := ok_aload_n (by decide +kernel : decode (mb_ 251) 6 = .ok (.aload_n 0, 1)) rfl
theorem ok_J0_coder_7d493_7 : ok_S 251 7 (sf_gi 30 30 1 10) := ok_sgi (by decide +kernel : decode (mb_ 251) 7 = .ok (.getfield 15, 3)) tw_1606
theorem ok_J0_coder_7d493_10 : ok_S 251 10 (sf_go 14) := ok_goto (by decide +kernel : decode (mb_ 251) 10 = .ok (.goto 4, 3)) (by decide)
theorem ok_J0_coder_7d493_13 : ok_S 251 13 (sf_push (0, 1) 14) := ok_iconst (by decide +kernel : decode (mb_ 251) 13 = .ok (.iconst 1, 1)) ⟨by decide, by decide⟩
theorem ok_J0_coder_7d493_14 : ok_S 251 14 (sf_rr 0 1) := ok_rr (by decide +kernel : decode (mb_ 251) 14 = .ok (.ireturn, 1)) rfl (so_nz .byte rfl rfl)
theorem ok_J0_coder_7d493 (pc : Nat) : ok_S 251 pc (cd_J0_coder_7d493 pc) :=
  (ok_bf (ok_bf (ok_bf (ok_lf pc ok_J0_coder_7d493_14) (ok_lf pc ok_J0_coder_7d493_13)) (ok_bf (ok_lf pc ok_J0_coder_7d493_10) (ok_lf pc ok_J0_coder_7d493_7))) (ok_bf (ok_bf (ok_lf pc ok_J0_coder_7d493_6) (ok_lf pc ok_J0_coder_7d493_3)) (ok_lf pc ok_J0_coder_7d493_0)))
theorem mo_J0_coder_7d493 (pc : Nat) : mo_S (cd_J0_coder_7d493 pc) :=
  (mo_bf (mo_bf (mo_bf (mo_bf mo_rr mo_no) (mo_bf mo_push mo_no)) (mo_bf (mo_bf mo_go mo_no) (mo_bf mo_gi mo_no))) (mo_bf (mo_bf (mo_bf mo_ld mo_no) (mo_bf mo_if mo_no)) (mo_bf mo_push mo_no)))
theorem ok_J0_isLatin1_aae02_0 : ok_S 252 0 (sf_push (0, 1) 3) := ok_compact (by decide +kernel : decode (mb_ 252) 0 = .ok (.getstatic 38, 3)) tw_311
theorem ok_J0_isLatin1_aae02_3 : ok_S 252 3 (sf_if 0 17 6) := ok_if0 (by decide +kernel : decode (mb_ 252) 3 = .ok (.ifCond .eq 14, 3)) (by decide)
theorem ok_J0_isLatin1_aae02_6 : ok_S 252 6 (sf_ld 2 0 7) := ok_aload_n (by decide +kernel : decode (mb_ 252) 6 = .ok (.aload_n 0, 1)) rfl
theorem ok_J0_isLatin1_aae02_7 : ok_S 252 7 (sf_gi 30 30 1 10) := ok_sgi (by decide +kernel : decode (mb_ 252) 7 = .ok (.getfield 15, 3)) tw_1606
theorem ok_J0_isLatin1_aae02_10 : ok_S 252 10 (sf_if 1 17 13) := ok_if1 (by decide +kernel : decode (mb_ 252) 10 = .ok (.ifCond .ne 7, 3)) (by decide)
theorem ok_J0_isLatin1_aae02_13 : ok_S 252 13 (sf_push (0, 1) 14) := ok_iconst (by decide +kernel : decode (mb_ 252) 13 = .ok (.iconst 1, 1)) ⟨by decide, by decide⟩
theorem ok_J0_isLatin1_aae02_14 : ok_S 252 14 (sf_go 18) := ok_goto (by decide +kernel : decode (mb_ 252) 14 = .ok (.goto 4, 3)) (by decide)
theorem ok_J0_isLatin1_aae02_17 : ok_S 252 17 (sf_push (0, 0) 18) := ok_iconst (by decide +kernel : decode (mb_ 252) 17 = .ok (.iconst 0, 1)) ⟨by decide, by decide⟩
theorem ok_J0_isLatin1_aae02_18 : ok_S 252 18 (sf_rr 0 1) := ok_rr (by decide +kernel : decode (mb_ 252) 18 = .ok (.ireturn, 1)) rfl (so_nz .boolean rfl rfl)
theorem ok_J0_isLatin1_aae02 (pc : Nat) : ok_S 252 pc (cd_J0_isLatin1_aae02 pc) :=
  (ok_bf (ok_bf (ok_bf (ok_bf (ok_lf pc ok_J0_isLatin1_aae02_18) (ok_lf pc ok_J0_isLatin1_aae02_17)) (ok_lf pc ok_J0_isLatin1_aae02_14)) (ok_bf (ok_lf pc ok_J0_isLatin1_aae02_13) (ok_lf pc ok_J0_isLatin1_aae02_10))) (ok_bf (ok_bf (ok_lf pc ok_J0_isLatin1_aae02_7) (ok_lf pc ok_J0_isLatin1_aae02_6)) (ok_bf (ok_lf pc ok_J0_isLatin1_aae02_3) (ok_lf pc ok_J0_isLatin1_aae02_0))))
theorem mo_J0_isLatin1_aae02 (pc : Nat) : mo_S (cd_J0_isLatin1_aae02 pc) :=
  (mo_bf (mo_bf (mo_bf (mo_bf (mo_bf mo_rr mo_no) (mo_bf mo_push mo_no)) (mo_bf mo_go mo_no)) (mo_bf (mo_bf mo_push mo_no) (mo_bf mo_if mo_no))) (mo_bf (mo_bf (mo_bf mo_gi mo_no) (mo_bf mo_ld mo_no)) (mo_bf (mo_bf mo_if mo_no) (mo_bf mo_push mo_no))))
theorem ok_J0_checkIndex_df160_0 : ok_S 253 0 (sf_ld 0 0 1) := ok_iload_n (by decide +kernel : decode (mb_ 253) 0 = .ok (.iload_n 0, 1)) rfl
theorem ok_J0_checkIndex_df160_1 : ok_S 253 1 (sf_ld 0 1 2) := ok_iload_n (by decide +kernel : decode (mb_ 253) 1 = .ok (.iload_n 1, 1)) rfl
theorem ok_J0_checkIndex_df160_2 : ok_S 253 2 (sf_push (3, 0) 5) := ok_sioobe (by decide +kernel : decode (mb_ 253) 2 = .ok (.getstatic 1053, 3)) tw_327
theorem ok_J0_checkIndex_df160_5 : ok_S 253 5 (sf_cs [0, 0, 3] 256 8) := ok_cs mt_256 (by decide +kernel : decode (mb_ 253) 5 = .ok (.invokestatic 1059, 3)) tw_329 tw_330 tw_11 (by decide +kernel) (mh_ok rfl) (by decide) (by decide)
theorem ok_J0_checkIndex_df160_8 : ok_S 253 8 (sf_pop 9) := ok_pop (by decide +kernel : decode (mb_ 253) 8 = .ok (.pop, 1))
theorem ok_J0_checkIndex_df160_9 : ok_S 253 9 (sf_retv) := ok_retv (by decide +kernel : decode (mb_ 253) 9 = .ok (.return_, 1)) rfl
theorem ok_J0_checkIndex_df160 (pc : Nat) : ok_S 253 pc (cd_J0_checkIndex_df160 pc) :=
  (ok_bf (ok_bf (ok_bf (ok_lf pc ok_J0_checkIndex_df160_9) (ok_lf pc ok_J0_checkIndex_df160_8)) (ok_lf pc ok_J0_checkIndex_df160_5)) (ok_bf (ok_bf (ok_lf pc ok_J0_checkIndex_df160_2) (ok_lf pc ok_J0_checkIndex_df160_1)) (ok_lf pc ok_J0_checkIndex_df160_0)))
theorem mo_J0_checkIndex_df160 (pc : Nat) : mo_S (cd_J0_checkIndex_df160 pc) :=
  (mo_bf (mo_bf (mo_bf (mo_bf mo_retv mo_no) (mo_bf mo_pop mo_no)) (mo_bf mo_cs mo_no)) (mo_bf (mo_bf (mo_bf mo_push mo_no) (mo_bf mo_ld mo_no)) (mo_bf mo_ld mo_no)))
theorem ok_J1_charAt_3b067_0 : ok_S 254 0 (sf_ld 0 1 1) := ok_iload_n (by decide +kernel : decode (mb_ 254) 0 = .ok (.iload_n 1, 1)) rfl
theorem ok_J1_charAt_3b067_1 : ok_S 254 1 (sf_ld 2 0 2) := ok_aload_n (by decide +kernel : decode (mb_ 254) 1 = .ok (.aload_n 0, 1)) rfl
theorem ok_J1_charAt_3b067_2 : ok_S 254 2 (sf_alen 3) := ok_alen (by decide +kernel : decode (mb_ 254) 2 = .ok (.arraylength, 1))
theorem ok_J1_charAt_3b067_3 : ok_S 254 3 (sf_cs [0, 0] 253 6) := ok_cs mt_253 (by decide +kernel : decode (mb_ 254) 3 = .ok (.invokestatic 9, 3)) tw_324 tw_325 tw_9 (by decide +kernel) (mh_ok rfl) (by decide) (by decide)
theorem ok_J1_charAt_3b067_6 : ok_S 254 6 (sf_ld 2 0 7) := ok_aload_n (by decide +kernel : decode (mb_ 254) 6 = .ok (.aload_n 0, 1)) rfl
theorem ok_J1_charAt_3b067_7 : ok_S 254 7 (sf_ld 0 1 8) := ok_iload_n (by decide +kernel : decode (mb_ 254) 7 = .ok (.iload_n 1, 1)) rfl
theorem ok_J1_charAt_3b067_8 : ok_S 254 8 (sf_bald 9) := ok_bald (by decide +kernel : decode (mb_ 254) 8 = .ok (.baload, 1))
theorem ok_J1_charAt_3b067_9 : ok_S 254 9 (sf_push (0, 255) 12) := ok_sipush (by decide +kernel : decode (mb_ 254) 9 = .ok (.sipush 255, 3)) ⟨by decide, by decide⟩ (by decide +kernel)
theorem ok_J1_charAt_3b067_12 : ok_S 254 12 (sf_i2 mx_and 13) := ok_iand (by decide +kernel : decode (mb_ 254) 12 = .ok (.iand, 1))
theorem ok_J1_charAt_3b067_13 : ok_S 254 13 (sf_i1 mx_i2c 14) := ok_i2c (by decide +kernel : decode (mb_ 254) 13 = .ok (.i2c, 1))
theorem ok_J1_charAt_3b067_14 : ok_S 254 14 (sf_rr 0 127) := ok_rr (by decide +kernel : decode (mb_ 254) 14 = .ok (.ireturn, 1)) rfl so_nch
theorem ok_J1_charAt_3b067 (pc : Nat) : ok_S 254 pc (cd_J1_charAt_3b067 pc) :=
  (ok_bf (ok_bf (ok_bf (ok_bf (ok_lf pc ok_J1_charAt_3b067_14) (ok_lf pc ok_J1_charAt_3b067_13)) (ok_lf pc ok_J1_charAt_3b067_12)) (ok_bf (ok_bf (ok_lf pc ok_J1_charAt_3b067_9) (ok_lf pc ok_J1_charAt_3b067_8)) (ok_lf pc ok_J1_charAt_3b067_7))) (ok_bf (ok_bf (ok_bf (ok_lf pc ok_J1_charAt_3b067_6) (ok_lf pc ok_J1_charAt_3b067_3)) (ok_lf pc ok_J1_charAt_3b067_2)) (ok_bf (ok_lf pc ok_J1_charAt_3b067_1) (ok_lf pc ok_J1_charAt_3b067_0))))
theorem mo_J1_charAt_3b067 (pc : Nat) : mo_S (cd_J1_charAt_3b067 pc) :=
  (mo_bf (mo_bf (mo_bf (mo_bf (mo_bf mo_rr mo_no) (mo_bf mo_i1 mo_no)) (mo_bf mo_i2 mo_no)) (mo_bf (mo_bf (mo_bf mo_push mo_no) (mo_bf mo_bald mo_no)) (mo_bf mo_ld mo_no))) (mo_bf (mo_bf (mo_bf (mo_bf mo_ld mo_no) (mo_bf mo_cs mo_no)) (mo_bf mo_alen mo_no)) (mo_bf (mo_bf mo_ld mo_no) (mo_bf mo_ld mo_no))))
theorem ok_J7_fill_53178_0 : ok_S 255 0 (sf_push (0, 0) 1) := ok_iconst (by decide +kernel : decode (mb_ 255) 0 = .ok (.iconst 0, 1)) ⟨by decide, by decide⟩
theorem ok_J7_fill_53178_1 : ok_S 255 1 (sf_st 0 2 2) := ok_istore_n (by decide +kernel : decode (mb_ 255) 1 = .ok (.istore_n 2, 1)) rfl
theorem ok_J7_fill_53178_2 : ok_S 255 2 (sf_ld 2 0 3) := ok_aload_n (by decide +kernel : decode (mb_ 255) 2 = .ok (.aload_n 0, 1)) rfl
theorem ok_J7_fill_53178_3 : ok_S 255 3 (sf_alen 4) := ok_alen (by decide +kernel : decode (mb_ 255) 3 = .ok (.arraylength, 1))
theorem ok_J7_fill_53178_4 : ok_S 255 4 (sf_st 0 3 5) := ok_istore_n (by decide +kernel : decode (mb_ 255) 4 = .ok (.istore_n 3, 1)) rfl
theorem ok_J7_fill_53178_5 : ok_S 255 5 (sf_ld 0 2 6) := ok_iload_n (by decide +kernel : decode (mb_ 255) 5 = .ok (.iload_n 2, 1)) rfl
theorem ok_J7_fill_53178_6 : ok_S 255 6 (sf_ld 0 3 7) := ok_iload_n (by decide +kernel : decode (mb_ 255) 6 = .ok (.iload_n 3, 1)) rfl
theorem ok_J7_fill_53178_7 : ok_S 255 7 (sf_ic 3 20 10) := ok_ic3 (by decide +kernel : decode (mb_ 255) 7 = .ok (.if_icmp .ge 13, 3)) (by decide)
theorem ok_J7_fill_53178_10 : ok_S 255 10 (sf_ld 2 0 11) := ok_aload_n (by decide +kernel : decode (mb_ 255) 10 = .ok (.aload_n 0, 1)) rfl
theorem ok_J7_fill_53178_11 : ok_S 255 11 (sf_ld 0 2 12) := ok_iload_n (by decide +kernel : decode (mb_ 255) 11 = .ok (.iload_n 2, 1)) rfl
theorem ok_J7_fill_53178_12 : ok_S 255 12 (sf_ld 0 1 13) := ok_iload_n (by decide +kernel : decode (mb_ 255) 12 = .ok (.iload_n 1, 1)) rfl
theorem ok_J7_fill_53178_13 : ok_S 255 13 (sf_iast 14) := ok_iast (by decide +kernel : decode (mb_ 255) 13 = .ok (.iastore, 1))
theorem ok_J7_fill_53178_14 : ok_S 255 14 (sf_inc 2 1 17) := ok_iinc (by decide +kernel : decode (mb_ 255) 14 = .ok (.iinc 2 1, 3))
theorem ok_J7_fill_53178_17 : ok_S 255 17 (sf_go 5) := ok_goto (by decide +kernel : decode (mb_ 255) 17 = .ok (.goto (-12), 3)) (by decide)
theorem ok_J7_fill_53178_20 : ok_S 255 20 (sf_retv) := ok_retv (by decide +kernel : decode (mb_ 255) 20 = .ok (.return_, 1)) rfl
theorem ok_J7_fill_53178 (pc : Nat) : ok_S 255 pc (cd_J7_fill_53178 pc) :=
  (ok_bf (ok_bf (ok_bf (ok_bf (ok_lf pc ok_J7_fill_53178_20) (ok_lf pc ok_J7_fill_53178_17)) (ok_bf (ok_lf pc ok_J7_fill_53178_14) (ok_lf pc ok_J7_fill_53178_13))) (ok_bf (ok_bf (ok_lf pc ok_J7_fill_53178_12) (ok_lf pc ok_J7_fill_53178_11)) (ok_bf (ok_lf pc ok_J7_fill_53178_10) (ok_lf pc ok_J7_fill_53178_7)))) (ok_bf (ok_bf (ok_bf (ok_lf pc ok_J7_fill_53178_6) (ok_lf pc ok_J7_fill_53178_5)) (ok_bf (ok_lf pc ok_J7_fill_53178_4) (ok_lf pc ok_J7_fill_53178_3))) (ok_bf (ok_bf (ok_lf pc ok_J7_fill_53178_2) (ok_lf pc ok_J7_fill_53178_1)) (ok_lf pc ok_J7_fill_53178_0))))
theorem mo_J7_fill_53178 (pc : Nat) : mo_S (cd_J7_fill_53178 pc) :=
  (mo_bf (mo_bf (mo_bf (mo_bf (mo_bf mo_retv mo_no) (mo_bf mo_go mo_no)) (mo_bf (mo_bf mo_inc mo_no) (mo_bf mo_iast mo_no))) (mo_bf (mo_bf (mo_bf mo_ld mo_no) (mo_bf mo_ld mo_no)) (mo_bf (mo_bf mo_ld mo_no) (mo_bf mo_ic mo_no)))) (mo_bf (mo_bf (mo_bf (mo_bf mo_ld mo_no) (mo_bf mo_ld mo_no)) (mo_bf (mo_bf mo_st mo_no) (mo_bf mo_alen mo_no))) (mo_bf (mo_bf (mo_bf mo_ld mo_no) (mo_bf mo_st mo_no)) (mo_bf mo_push mo_no))))
theorem ok_J3_checkIndex_8e157_0 : ok_S 256 0 (sf_ld 0 0 1) := ok_iload_n (by decide +kernel : decode (mb_ 256) 0 = .ok (.iload_n 0, 1)) rfl
theorem ok_J3_checkIndex_8e157_1 : ok_S 256 1 (sf_if 2 9 4) := ok_if2 (by decide +kernel : decode (mb_ 256) 1 = .ok (.ifCond .lt 8, 3)) (by decide)
theorem ok_J3_checkIndex_8e157_4 : ok_S 256 4 (sf_ld 0 0 5) := ok_iload_n (by decide +kernel : decode (mb_ 256) 4 = .ok (.iload_n 0, 1)) rfl
theorem ok_J3_checkIndex_8e157_5 : ok_S 256 5 (sf_ld 0 1 6) := ok_iload_n (by decide +kernel : decode (mb_ 256) 5 = .ok (.iload_n 1, 1)) rfl
theorem ok_J3_checkIndex_8e157_6 : ok_S 256 6 (sf_ic 2 16 9) := ok_ic2 (by decide +kernel : decode (mb_ 256) 6 = .ok (.if_icmp .lt 10, 3)) (by decide)
theorem ok_J3_checkIndex_8e157_9 : ok_S 256 9 (sf_ld 2 2 10) := ok_aload_n (by decide +kernel : decode (mb_ 256) 9 = .ok (.aload_n 2, 1)) rfl
theorem ok_J3_checkIndex_8e157_10 : ok_S 256 10 (sf_ld 0 0 11) := ok_iload_n (by decide +kernel : decode (mb_ 256) 10 = .ok (.iload_n 0, 1)) rfl
theorem ok_J3_checkIndex_8e157_11 : ok_S 256 11 (sf_ld 0 1 12) := ok_iload_n (by decide +kernel : decode (mb_ 256) 11 = .ok (.iload_n 1, 1)) rfl
theorem ok_J3_checkIndex_8e157_16 : ok_S 256 16 (sf_ld 0 0 17) := ok_iload_n (by decide +kernel : decode (mb_ 256) 16 = .ok (.iload_n 0, 1)) rfl
theorem ok_J3_checkIndex_8e157_17 : ok_S 256 17 (sf_ret 0) := ok_ret0 (by decide +kernel : decode (mb_ 256) 17 = .ok (.ireturn, 1)) rfl
theorem ok_J3_checkIndex_8e157 (pc : Nat) : ok_S 256 pc (cd_J3_checkIndex_8e157 pc) :=
  (ok_bf (ok_bf (ok_bf (ok_bf (ok_lf pc ok_J3_checkIndex_8e157_17) (ok_lf pc ok_J3_checkIndex_8e157_16)) (ok_lf pc (ok_no 256 15))) (ok_bf (ok_bf (ok_lf pc (ok_no 256 12)) (ok_lf pc ok_J3_checkIndex_8e157_11)) (ok_lf pc ok_J3_checkIndex_8e157_10))) (ok_bf (ok_bf (ok_bf (ok_lf pc ok_J3_checkIndex_8e157_9) (ok_lf pc ok_J3_checkIndex_8e157_6)) (ok_lf pc ok_J3_checkIndex_8e157_5)) (ok_bf (ok_bf (ok_lf pc ok_J3_checkIndex_8e157_4) (ok_lf pc ok_J3_checkIndex_8e157_1)) (ok_lf pc ok_J3_checkIndex_8e157_0))))
theorem mo_J3_checkIndex_8e157 (pc : Nat) : mo_S (cd_J3_checkIndex_8e157 pc) :=
  (mo_bf (mo_bf (mo_bf (mo_bf (mo_bf mo_ret mo_no) (mo_bf mo_ld mo_no)) (mo_bf mo_no mo_no)) (mo_bf (mo_bf (mo_bf mo_no mo_no) (mo_bf mo_ld mo_no)) (mo_bf mo_ld mo_no))) (mo_bf (mo_bf (mo_bf (mo_bf mo_ld mo_no) (mo_bf mo_ic mo_no)) (mo_bf mo_ld mo_no)) (mo_bf (mo_bf (mo_bf mo_ld mo_no) (mo_bf mo_if mo_no)) (mo_bf mo_ld mo_no))))
