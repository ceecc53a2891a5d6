/-! PRINTED (gen_ok.py): each step is sound -/
theorem ok_X7_init_0 : ok_S 59 0 (sf_ld 2 0 1) := ok_aload_n (by decide +kernel : decode (mb_ 59) 0 = .ok (.aload_n 0, 1)) rfl
theorem ok_X7_init_1 : ok_S 59 1 (sf_oini 4) := ok_oini (by decide +kernel : decode (mb_ 59) 1 = .ok (.invokespecial 3, 3)) tw_143 tw_28 tw_29
theorem ok_X7_init_4 : ok_S 59 4 (sf_ld 2 0 5) := ok_aload_n (by decide +kernel : decode (mb_ 59) 4 = .ok (.aload_n 0, 1)) rfl
theorem ok_X7_init_5 : ok_S 59 5 (sf_new 8 8) := ok_new cn_8 (by decide +kernel : decode (mb_ 59) 5 = .ok (.new 9, 3)) tw_144 tw_37 tw_3
theorem ok_X7_init_8 : ok_S 59 8 (sf_dup 9) := ok_dup (by decide +kernel : decode (mb_ 59) 8 = .ok (.dup, 1))
theorem ok_X7_init_9 : ok_S 59 9 (sf_ci 8 8 [2] 85 12) := ok_ci mt_85 (by decide) (by decide) (by decide +kernel : decode (mb_ 59) 9 = .ok (.invokespecial 11, 3)) tw_145 tw_39 tw_3 rfl rfl rfl (by decide +kernel) (mh_ok rfl) (by decide) (by decide)
theorem ok_X7_init_12 : ok_S 59 12 (sf_pr 10 10 0 15) := ok_pr fd_10_0 (by decide +kernel : decode (mb_ 59) 12 = .ok (.putfield 12, 3)) tw_146 rfl (Or.inr ⟨ff_10_0, rfl, rfl⟩) rfl (by decide +kernel : parseFieldDescriptor "LRoomNumbers$Valley;" = some (.object "RoomNumbers$Valley")) (Or.inl ⟨_, rfl⟩)
theorem ok_X7_init_15 : ok_S 59 15 (sf_ld 2 0 16) := ok_aload_n (by decide +kernel : decode (mb_ 59) 15 = .ok (.aload_n 0, 1)) rfl
theorem ok_X7_init_16 : ok_S 59 16 (sf_push (0, 0) 17) := ok_iconst (by decide +kernel : decode (mb_ 59) 16 = .ok (.iconst 0, 1)) ⟨by decide, by decide⟩
theorem ok_X7_init_17 : ok_S 59 17 (sf_pi 10 10 1 20) := ok_pi fd_10_1 (by decide +kernel : decode (mb_ 59) 17 = .ok (.putfield 18, 3)) tw_148 rfl (Or.inl ff_10_1) rfl
theorem ok_X7_init_20 : ok_S 59 20 (sf_ld 2 0 21) := ok_aload_n (by decide +kernel : decode (mb_ 59) 20 = .ok (.aload_n 0, 1)) rfl
theorem ok_X7_init_21 : ok_S 59 21 (sf_push (0, 6) 23) := ok_bipush (by decide +kernel : decode (mb_ 59) 21 = .ok (.bipush 6, 2)) ⟨by decide, by decide⟩ (by decide +kernel)
theorem ok_X7_init_23 : ok_S 59 23 (sf_newa 20 25) := ok_newa rfl (Or.inl ⟨rfl, rfl⟩) (by decide +kernel : decode (mb_ 59) 23 = .ok (.newarray .int, 2)) tw_81
theorem ok_X7_init_25 : ok_S 59 25 (sf_pr 10 10 2 28) := ok_pr fd_10_2 (by decide +kernel : decode (mb_ 59) 25 = .ok (.putfield 22, 3)) tw_150 rfl (Or.inr ⟨ff_10_2, rfl, rfl⟩) rfl (by decide +kernel : parseFieldDescriptor "[I" = some (.array .int)) (Or.inr ⟨_, rfl⟩)
theorem ok_X7_init_28 : ok_S 59 28 (sf_ld 2 0 29) := ok_aload_n (by decide +kernel : decode (mb_ 59) 28 = .ok (.aload_n 0, 1)) rfl
theorem ok_X7_init_29 : ok_S 59 29 (sf_push (0, 0) 30) := ok_iconst (by decide +kernel : decode (mb_ 59) 29 = .ok (.iconst 0, 1)) ⟨by decide, by decide⟩
theorem ok_X7_init_30 : ok_S 59 30 (sf_newa 20 32) := ok_newa rfl (Or.inl ⟨rfl, rfl⟩) (by decide +kernel : decode (mb_ 59) 30 = .ok (.newarray .int, 2)) tw_81
theorem ok_X7_init_32 : ok_S 59 32 (sf_pr 10 10 3 35) := ok_pr fd_10_3 (by decide +kernel : decode (mb_ 59) 32 = .ok (.putfield 26, 3)) tw_151 rfl (Or.inl ff_10_3) rfl (by decide +kernel : parseFieldDescriptor "[I" = some (.array .int)) (Or.inr ⟨_, rfl⟩)
theorem ok_X7_init_35 : ok_S 59 35 (sf_ld 2 0 36) := ok_aload_n (by decide +kernel : decode (mb_ 59) 35 = .ok (.aload_n 0, 1)) rfl
theorem ok_X7_init_36 : ok_S 59 36 (sf_push (0, 0) 37) := ok_iconst (by decide +kernel : decode (mb_ 59) 36 = .ok (.iconst 0, 1)) ⟨by decide, by decide⟩
theorem ok_X7_init_37 : ok_S 59 37 (sf_pi 10 10 4 40) := ok_pi fd_10_4 (by decide +kernel : decode (mb_ 59) 37 = .ok (.putfield 29, 3)) tw_152 rfl (Or.inl ff_10_4) rfl
theorem ok_X7_init_40 : ok_S 59 40 (sf_ld 2 0 41) := ok_aload_n (by decide +kernel : decode (mb_ 59) 40 = .ok (.aload_n 0, 1)) rfl
theorem ok_X7_init_41 : ok_S 59 41 (sf_push (0, 0) 42) := ok_iconst (by decide +kernel : decode (mb_ 59) 41 = .ok (.iconst 0, 1)) ⟨by decide, by decide⟩
theorem ok_X7_init_42 : ok_S 59 42 (sf_pi 10 10 5 45) := ok_pi fd_10_5 (by decide +kernel : decode (mb_ 59) 42 = .ok (.putfield 32, 3)) tw_153 rfl (Or.inl ff_10_5) rfl
theorem ok_X7_init_45 : ok_S 59 45 (sf_ld 2 0 46) := ok_aload_n (by decide +kernel : decode (mb_ 59) 45 = .ok (.aload_n 0, 1)) rfl
theorem ok_X7_init_46 : ok_S 59 46 (sf_push (0, 0) 47) := ok_iconst (by decide +kernel : decode (mb_ 59) 46 = .ok (.iconst 0, 1)) ⟨by decide, by decide⟩
theorem ok_X7_init_47 : ok_S 59 47 (sf_pi 10 10 6 50) := ok_pi fd_10_6 (by decide +kernel : decode (mb_ 59) 47 = .ok (.putfield 35, 3)) tw_154 rfl (Or.inl ff_10_6) rfl
theorem ok_X7_init_50 : ok_S 59 50 (sf_ld 2 0 51) := ok_aload_n (by decide +kernel : decode (mb_ 59) 50 = .ok (.aload_n 0, 1)) rfl
theorem ok_X7_init_51 : ok_S 59 51 (sf_push (0, 0) 52) := ok_iconst (by decide +kernel : decode (mb_ 59) 51 = .ok (.iconst 0, 1)) ⟨by decide, by decide⟩
theorem ok_X7_init_52 : ok_S 59 52 (sf_pi 10 10 7 55) := ok_pi fd_10_7 (by decide +kernel : decode (mb_ 59) 52 = .ok (.putfield 38, 3)) tw_155 rfl (Or.inl ff_10_7) rfl
theorem ok_X7_init_55 : ok_S 59 55 (sf_retv) := ok_retv (by decide +kernel : decode (mb_ 59) 55 = .ok (.return_, 1)) rfl
theorem ok_X7_init (pc : Nat) : ok_S 59 pc (cd_X7_init pc) :=
  (ok_bf (ok_bf (ok_bf (ok_bf (ok_bf (ok_lf pc ok_X7_init_55) (ok_lf pc ok_X7_init_52)) (ok_bf (ok_lf pc ok_X7_init_51) (ok_lf pc ok_X7_init_50))) (ok_bf (ok_bf (ok_lf pc ok_X7_init_47) (ok_lf pc ok_X7_init_46)) (ok_bf (ok_lf pc ok_X7_init_45) (ok_lf pc ok_X7_init_42)))) (ok_bf (ok_bf (ok_bf (ok_lf pc ok_X7_init_41) (ok_lf pc ok_X7_init_40)) (ok_bf (ok_lf pc ok_X7_init_37) (ok_lf pc ok_X7_init_36))) (ok_bf (ok_bf (ok_lf pc ok_X7_init_35) (ok_lf pc ok_X7_init_32)) (ok_bf (ok_lf pc ok_X7_init_30) (ok_lf pc ok_X7_init_29))))) (ok_bf (ok_bf (ok_bf (ok_bf (ok_lf pc ok_X7_init_28) (ok_lf pc ok_X7_init_25)) (ok_bf (ok_lf pc ok_X7_init_23) (ok_lf pc ok_X7_init_21))) (ok_bf (ok_bf (ok_lf pc ok_X7_init_20) (ok_lf pc ok_X7_init_17)) (ok_bf (ok_lf pc ok_X7_init_16) (ok_lf pc ok_X7_init_15)))) (ok_bf (ok_bf (ok_bf (ok_lf pc ok_X7_init_12) (ok_lf pc ok_X7_init_9)) (ok_bf (ok_lf pc ok_X7_init_8) (ok_lf pc ok_X7_init_5))) (ok_bf (ok_bf (ok_lf pc ok_X7_init_4) (ok_lf pc ok_X7_init_1)) (ok_lf pc ok_X7_init_0)))))
theorem mo_X7_init (pc : Nat) : mo_S (cd_X7_init pc) :=
  (mo_bf (mo_bf (mo_bf (mo_bf (mo_bf (mo_bf mo_retv mo_no) (mo_bf mo_pi mo_no)) (mo_bf (mo_bf mo_push mo_no) (mo_bf mo_ld mo_no))) (mo_bf (mo_bf (mo_bf mo_pi mo_no) (mo_bf mo_push mo_no)) (mo_bf (mo_bf mo_ld mo_no) (mo_bf mo_pi mo_no)))) (mo_bf (mo_bf (mo_bf (mo_bf mo_push mo_no) (mo_bf mo_ld mo_no)) (mo_bf (mo_bf mo_pi mo_no) (mo_bf mo_push mo_no))) (mo_bf (mo_bf (mo_bf mo_ld mo_no) (mo_bf mo_pr mo_no)) (mo_bf (mo_bf mo_newa mo_no) (mo_bf mo_push mo_no))))) (mo_bf (mo_bf (mo_bf (mo_bf (mo_bf mo_ld mo_no) (mo_bf mo_pr mo_no)) (mo_bf (mo_bf mo_newa mo_no) (mo_bf mo_push mo_no))) (mo_bf (mo_bf (mo_bf mo_ld mo_no) (mo_bf mo_pi mo_no)) (mo_bf (mo_bf mo_push mo_no) (mo_bf mo_ld mo_no)))) (mo_bf (mo_bf (mo_bf (mo_bf mo_pr mo_no) (mo_bf mo_ci mo_no)) (mo_bf (mo_bf mo_dup mo_no) (mo_bf mo_new mo_no))) (mo_bf (mo_bf (mo_bf mo_ld mo_no) (mo_bf mo_oini mo_no)) (mo_bf mo_ld mo_no)))))
theorem ok_X7_told_0 : ok_S 60 0 (sf_ld 2 0 1) := ok_aload_n (by decide +kernel : decode (mb_ 60) 0 = .ok (.aload_n 0, 1)) rfl
theorem ok_X7_told_1 : ok_S 60 1 (sf_ld 2 1 2) := ok_aload_n (by decide +kernel : decode (mb_ 60) 1 = .ok (.aload_n 1, 1)) rfl
theorem ok_X7_told_2 : ok_S 60 2 (sf_pr 10 10 3 5) := ok_pr fd_10_3 (by decide +kernel : decode (mb_ 60) 2 = .ok (.putfield 26, 3)) tw_151 rfl (Or.inl ff_10_3) rfl (by decide +kernel : parseFieldDescriptor "[I" = some (.array .int)) (Or.inr ⟨_, rfl⟩)
theorem ok_X7_told_5 : ok_S 60 5 (sf_ld 2 0 6) := ok_aload_n (by decide +kernel : decode (mb_ 60) 5 = .ok (.aload_n 0, 1)) rfl
theorem ok_X7_told_6 : ok_S 60 6 (sf_ld 0 2 7) := ok_iload_n (by decide +kernel : decode (mb_ 60) 6 = .ok (.iload_n 2, 1)) rfl
theorem ok_X7_told_7 : ok_S 60 7 (sf_ld 2 1 8) := ok_aload_n (by decide +kernel : decode (mb_ 60) 7 = .ok (.aload_n 1, 1)) rfl
theorem ok_X7_told_8 : ok_S 60 8 (sf_alen 9) := ok_alen (by decide +kernel : decode (mb_ 60) 8 = .ok (.arraylength, 1))
theorem ok_X7_told_9 : ok_S 60 9 (sf_m2 mx_min 12) := ok_mmin (by decide +kernel : decode (mb_ 60) 9 = .ok (.invokestatic 41, 3)) tw_273 tw_274 tw_8 tw_275
theorem ok_X7_told_12 : ok_S 60 12 (sf_pi 10 10 4 15) := ok_pi fd_10_4 (by decide +kernel : decode (mb_ 60) 12 = .ok (.putfield 29, 3)) tw_152 rfl (Or.inl ff_10_4) rfl
theorem ok_X7_told_15 : ok_S 60 15 (sf_ld 2 0 16) := ok_aload_n (by decide +kernel : decode (mb_ 60) 15 = .ok (.aload_n 0, 1)) rfl
theorem ok_X7_told_16 : ok_S 60 16 (sf_push (0, 0) 17) := ok_iconst (by decide +kernel : decode (mb_ 60) 16 = .ok (.iconst 0, 1)) ⟨by decide, by decide⟩
theorem ok_X7_told_17 : ok_S 60 17 (sf_pi 10 10 5 20) := ok_pi fd_10_5 (by decide +kernel : decode (mb_ 60) 17 = .ok (.putfield 32, 3)) tw_153 rfl (Or.inl ff_10_5) rfl
theorem ok_X7_told_20 : ok_S 60 20 (sf_ld 2 0 21) := ok_aload_n (by decide +kernel : decode (mb_ 60) 20 = .ok (.aload_n 0, 1)) rfl
theorem ok_X7_told_21 : ok_S 60 21 (sf_gr 10 10 0 24) := ok_gr fd_10_0 (by decide +kernel : decode (mb_ 60) 21 = .ok (.getfield 12, 3)) tw_146 (Or.inl rfl) rfl
theorem ok_X7_told_24 : ok_S 60 24 (sf_cv 8 [2] 86 27) := ok_cv mt_86 cl_8 (by decide +kernel : decode (mb_ 60) 24 = .ok (.invokevirtual 47, 3)) tw_276 tw_277 tw_278 tw_3 rfl (by decide +kernel) (mh_ok rfl) (by decide) (by decide)
theorem ok_X7_told_27 : ok_S 60 27 (sf_ld 2 0 28) := ok_aload_n (by decide +kernel : decode (mb_ 60) 27 = .ok (.aload_n 0, 1)) rfl
theorem ok_X7_told_28 : ok_S 60 28 (sf_cv 10 [2] 71 31) := ok_cv mt_71 cl_10 (by decide +kernel : decode (mb_ 60) 28 = .ok (.invokevirtual 50, 3)) tw_280 tw_282 ts_0 tw_5 rfl (by decide +kernel) (mh_ok rfl) (by decide) (by decide)
theorem ok_X7_told_31 : ok_S 60 31 (sf_push (0, 0) 32) := ok_iconst (by decide +kernel : decode (mb_ 60) 31 = .ok (.iconst 0, 1)) ⟨by decide, by decide⟩
theorem ok_X7_told_32 : ok_S 60 32 (sf_st 0 3 33) := ok_istore_n (by decide +kernel : decode (mb_ 60) 32 = .ok (.istore_n 3, 1)) rfl
theorem ok_X7_told_33 : ok_S 60 33 (sf_ld 0 3 34) := ok_iload_n (by decide +kernel : decode (mb_ 60) 33 = .ok (.iload_n 3, 1)) rfl
theorem ok_X7_told_34 : ok_S 60 34 (sf_ld 2 0 35) := ok_aload_n (by decide +kernel : decode (mb_ 60) 34 = .ok (.aload_n 0, 1)) rfl
theorem ok_X7_told_35 : ok_S 60 35 (sf_gi 10 10 4 38) := ok_gi fd_10_4 (by decide +kernel : decode (mb_ 60) 35 = .ok (.getfield 29, 3)) tw_152 (Or.inl rfl) rfl
theorem ok_X7_told_38 : ok_S 60 38 (sf_ic 4 63 41) := ok_ic4 (by decide +kernel : decode (mb_ 60) 38 = .ok (.if_icmp .gt 25, 3)) (by decide)
theorem ok_X7_told_41 : ok_S 60 41 (sf_ld 2 0 42) := ok_aload_n (by decide +kernel : decode (mb_ 60) 41 = .ok (.aload_n 0, 1)) rfl
theorem ok_X7_told_42 : ok_S 60 42 (sf_gi 10 10 6 45) := ok_gi fd_10_6 (by decide +kernel : decode (mb_ 60) 42 = .ok (.getfield 35, 3)) tw_154 (Or.inl rfl) rfl
theorem ok_X7_told_45 : ok_S 60 45 (sf_if 0 63 48) := ok_if0 (by decide +kernel : decode (mb_ 60) 45 = .ok (.ifCond .eq 18, 3)) (by decide)
theorem ok_X7_told_48 : ok_S 60 48 (sf_ld 2 0 49) := ok_aload_n (by decide +kernel : decode (mb_ 60) 48 = .ok (.aload_n 0, 1)) rfl
theorem ok_X7_told_49 : ok_S 60 49 (sf_cv 10 [2] 61 52) := ok_cv mt_61 cl_10 (by decide +kernel : decode (mb_ 60) 49 = .ok (.invokevirtual 53, 3)) tw_294 tw_296 ts_2 tw_5 rfl (by decide +kernel) (mh_ok rfl) (by decide) (by decide)
theorem ok_X7_told_52 : ok_S 60 52 (sf_if 1 57 55) := ok_if1 (by decide +kernel : decode (mb_ 60) 52 = .ok (.ifCond .ne 5, 3)) (by decide)
theorem ok_X7_told_55 : ok_S 60 55 (sf_push (0, 0) 56) := ok_iconst (by decide +kernel : decode (mb_ 60) 55 = .ok (.iconst 0, 1)) ⟨by decide, by decide⟩
theorem ok_X7_told_56 : ok_S 60 56 (sf_rr 0 1) := ok_rr (by decide +kernel : decode (mb_ 60) 56 = .ok (.ireturn, 1)) rfl (so_nz .boolean rfl rfl)
theorem ok_X7_told_57 : ok_S 60 57 (sf_inc 3 1 60) := ok_iinc (by decide +kernel : decode (mb_ 60) 57 = .ok (.iinc 3 1, 3))
theorem ok_X7_told_60 : ok_S 60 60 (sf_go 33) := ok_goto (by decide +kernel : decode (mb_ 60) 60 = .ok (.goto (-27), 3)) (by decide)
theorem ok_X7_told_63 : ok_S 60 63 (sf_ld 2 0 64) := ok_aload_n (by decide +kernel : decode (mb_ 60) 63 = .ok (.aload_n 0, 1)) rfl
theorem ok_X7_told_64 : ok_S 60 64 (sf_gi 10 10 6 67) := ok_gi fd_10_6 (by decide +kernel : decode (mb_ 60) 64 = .ok (.getfield 35, 3)) tw_154 (Or.inl rfl) rfl
theorem ok_X7_told_67 : ok_S 60 67 (sf_if 1 74 70) := ok_if1 (by decide +kernel : decode (mb_ 60) 67 = .ok (.ifCond .ne 7, 3)) (by decide)
theorem ok_X7_told_70 : ok_S 60 70 (sf_push (0, 1) 71) := ok_iconst (by decide +kernel : decode (mb_ 60) 70 = .ok (.iconst 1, 1)) ⟨by decide, by decide⟩
theorem ok_X7_told_71 : ok_S 60 71 (sf_go 75) := ok_goto (by decide +kernel : decode (mb_ 60) 71 = .ok (.goto 4, 3)) (by decide)
theorem ok_X7_told_74 : ok_S 60 74 (sf_push (0, 0) 75) := ok_iconst (by decide +kernel : decode (mb_ 60) 74 = .ok (.iconst 0, 1)) ⟨by decide, by decide⟩
theorem ok_X7_told_75 : ok_S 60 75 (sf_rr 0 1) := ok_rr (by decide +kernel : decode (mb_ 60) 75 = .ok (.ireturn, 1)) rfl (so_nz .boolean rfl rfl)
theorem ok_X7_told (pc : Nat) : ok_S 60 pc (cd_X7_told pc) :=
  (ok_bf (ok_bf (ok_bf (ok_bf (ok_bf (ok_bf (ok_lf pc ok_X7_told_75) (ok_lf pc ok_X7_told_74)) (ok_lf pc ok_X7_told_71)) (ok_bf (ok_lf pc ok_X7_told_70) (ok_lf pc ok_X7_told_67))) (ok_bf (ok_bf (ok_bf (ok_lf pc ok_X7_told_64) (ok_lf pc ok_X7_told_63)) (ok_lf pc ok_X7_told_60)) (ok_bf (ok_lf pc ok_X7_told_57) (ok_lf pc ok_X7_told_56)))) (ok_bf (ok_bf (ok_bf (ok_bf (ok_lf pc ok_X7_told_55) (ok_lf pc ok_X7_told_52)) (ok_lf pc ok_X7_told_49)) (ok_bf (ok_lf pc ok_X7_told_48) (ok_lf pc ok_X7_told_45))) (ok_bf (ok_bf (ok_bf (ok_lf pc ok_X7_told_42) (ok_lf pc ok_X7_told_41)) (ok_lf pc ok_X7_told_38)) (ok_bf (ok_lf pc ok_X7_told_35) (ok_lf pc ok_X7_told_34))))) (ok_bf (ok_bf (ok_bf (ok_bf (ok_bf (ok_lf pc ok_X7_told_33) (ok_lf pc ok_X7_told_32)) (ok_lf pc ok_X7_told_31)) (ok_bf (ok_lf pc ok_X7_told_28) (ok_lf pc ok_X7_told_27))) (ok_bf (ok_bf (ok_bf (ok_lf pc ok_X7_told_24) (ok_lf pc ok_X7_told_21)) (ok_lf pc ok_X7_told_20)) (ok_bf (ok_lf pc ok_X7_told_17) (ok_lf pc ok_X7_told_16)))) (ok_bf (ok_bf (ok_bf (ok_bf (ok_lf pc ok_X7_told_15) (ok_lf pc ok_X7_told_12)) (ok_lf pc ok_X7_told_9)) (ok_bf (ok_lf pc ok_X7_told_8) (ok_lf pc ok_X7_told_7))) (ok_bf (ok_bf (ok_bf (ok_lf pc ok_X7_told_6) (ok_lf pc ok_X7_told_5)) (ok_lf pc ok_X7_told_2)) (ok_bf (ok_lf pc ok_X7_told_1) (ok_lf pc ok_X7_told_0))))))
theorem mo_X7_told (pc : Nat) : mo_S (cd_X7_told pc) :=
  (mo_bf (mo_bf (mo_bf (mo_bf (mo_bf (mo_bf (mo_bf mo_rr mo_no) (mo_bf mo_push mo_no)) (mo_bf mo_go mo_no)) (mo_bf (mo_bf mo_push mo_no) (mo_bf mo_if mo_no))) (mo_bf (mo_bf (mo_bf (mo_bf mo_gi mo_no) (mo_bf mo_ld mo_no)) (mo_bf mo_go mo_no)) (mo_bf (mo_bf mo_inc mo_no) (mo_bf mo_rr mo_no)))) (mo_bf (mo_bf (mo_bf (mo_bf (mo_bf mo_push mo_no) (mo_bf mo_if mo_no)) (mo_bf mo_cv mo_no)) (mo_bf (mo_bf mo_ld mo_no) (mo_bf mo_if mo_no))) (mo_bf (mo_bf (mo_bf (mo_bf mo_gi mo_no) (mo_bf mo_ld mo_no)) (mo_bf mo_ic mo_no)) (mo_bf (mo_bf mo_gi mo_no) (mo_bf mo_ld mo_no))))) (mo_bf (mo_bf (mo_bf (mo_bf (mo_bf (mo_bf mo_ld mo_no) (mo_bf mo_st mo_no)) (mo_bf mo_push mo_no)) (mo_bf (mo_bf mo_cv mo_no) (mo_bf mo_ld mo_no))) (mo_bf (mo_bf (mo_bf (mo_bf mo_cv mo_no) (mo_bf mo_gr mo_no)) (mo_bf mo_ld mo_no)) (mo_bf (mo_bf mo_pi mo_no) (mo_bf mo_push mo_no)))) (mo_bf (mo_bf (mo_bf (mo_bf (mo_bf mo_ld mo_no) (mo_bf mo_pi mo_no)) (mo_bf mo_m2 mo_no)) (mo_bf (mo_bf mo_alen mo_no) (mo_bf mo_ld mo_no))) (mo_bf (mo_bf (mo_bf (mo_bf mo_ld mo_no) (mo_bf mo_ld mo_no)) (mo_bf mo_pr mo_no)) (mo_bf (mo_bf mo_ld mo_no) (mo_bf mo_ld mo_no))))))
theorem ok_X7_statement_0 : ok_S 61 0 (sf_ld 2 0 1) := ok_aload_n (by decide +kernel : decode (mb_ 61) 0 = .ok (.aload_n 0, 1)) rfl
theorem ok_X7_statement_1 : ok_S 61 1 (sf_cv 10 [2] 62 4) := ok_cv mt_62 cl_10 (by decide +kernel : decode (mb_ 61) 1 = .ok (.invokevirtual 57, 3)) tw_298 tw_300 ts_3 tw_5 rfl (by decide +kernel) (mh_ok rfl) (by decide) (by decide)
theorem ok_X7_statement_4 : ok_S 61 4 (sf_st 0 1 5) := ok_istore_n (by decide +kernel : decode (mb_ 61) 4 = .ok (.istore_n 1, 1)) rfl
theorem ok_X7_statement_5 : ok_S 61 5 (sf_ld 0 1 6) := ok_iload_n (by decide +kernel : decode (mb_ 61) 5 = .ok (.iload_n 1, 1)) rfl
theorem ok_X7_statement_6 : ok_S 61 6 (sf_if 2 15 9) := ok_if2 (by decide +kernel : decode (mb_ 61) 6 = .ok (.ifCond .lt 9, 3)) (by decide)
theorem ok_X7_statement_9 : ok_S 61 9 (sf_ld 2 0 10) := ok_aload_n (by decide +kernel : decode (mb_ 61) 9 = .ok (.aload_n 0, 1)) rfl
theorem ok_X7_statement_10 : ok_S 61 10 (sf_ld 0 1 11) := ok_iload_n (by decide +kernel : decode (mb_ 61) 10 = .ok (.iload_n 1, 1)) rfl
theorem ok_X7_statement_11 : ok_S 61 11 (sf_cv 10 [2, 0] 64 14) := ok_cv mt_64 cl_10 (by decide +kernel : decode (mb_ 61) 11 = .ok (.invokevirtual 61, 3)) tw_360 tw_362 ts_5 tw_5 rfl (by decide +kernel) (mh_ok rfl) (by decide) (by decide)
theorem ok_X7_statement_14 : ok_S 61 14 (sf_rr 0 1) := ok_rr (by decide +kernel : decode (mb_ 61) 14 = .ok (.ireturn, 1)) rfl (so_nz .boolean rfl rfl)
theorem ok_X7_statement_15 : ok_S 61 15 (sf_ld 2 0 16) := ok_aload_n (by decide +kernel : decode (mb_ 61) 15 = .ok (.aload_n 0, 1)) rfl
theorem ok_X7_statement_16 : ok_S 61 16 (sf_push (2, (-10)) 18) := ok_ldcs (tx := "evening") (by decide +kernel : decode (mb_ 61) 16 = .ok (.ldc 65, 2)) (by decide) (List.mem_of_getElem? (i := 0) rfl)
theorem ok_X7_statement_18 : ok_S 61 18 (sf_cv 10 [2, 2] 70 21) := ok_cv mt_70 cl_10 (by decide +kernel : decode (mb_ 61) 18 = .ok (.invokevirtual 67, 3)) tw_303 tw_305 ts_4 tw_5 rfl (by decide +kernel) (mh_ok rfl) (by decide) (by decide)
theorem ok_X7_statement_21 : ok_S 61 21 (sf_if 0 29 24) := ok_if0 (by decide +kernel : decode (mb_ 61) 21 = .ok (.ifCond .eq 8, 3)) (by decide)
theorem ok_X7_statement_24 : ok_S 61 24 (sf_ld 2 0 25) := ok_aload_n (by decide +kernel : decode (mb_ 61) 24 = .ok (.aload_n 0, 1)) rfl
theorem ok_X7_statement_25 : ok_S 61 25 (sf_cv 10 [2] 66 28) := ok_cv mt_66 cl_10 (by decide +kernel : decode (mb_ 61) 25 = .ok (.invokevirtual 71, 3)) tw_490 tw_492 ts_9 tw_5 rfl (by decide +kernel) (mh_ok rfl) (by decide) (by decide)
theorem ok_X7_statement_28 : ok_S 61 28 (sf_rr 0 1) := ok_rr (by decide +kernel : decode (mb_ 61) 28 = .ok (.ireturn, 1)) rfl (so_nz .boolean rfl rfl)
theorem ok_X7_statement_29 : ok_S 61 29 (sf_ld 2 0 30) := ok_aload_n (by decide +kernel : decode (mb_ 61) 29 = .ok (.aload_n 0, 1)) rfl
theorem ok_X7_statement_30 : ok_S 61 30 (sf_cv 10 [2] 63 33) := ok_cv mt_63 cl_10 (by decide +kernel : decode (mb_ 61) 30 = .ok (.invokevirtual 74, 3)) tw_498 tw_500 ts_10 tw_5 rfl (by decide +kernel) (mh_ok rfl) (by decide) (by decide)
theorem ok_X7_statement_33 : ok_S 61 33 (sf_st 0 2 34) := ok_istore_n (by decide +kernel : decode (mb_ 61) 33 = .ok (.istore_n 2, 1)) rfl
theorem ok_X7_statement_34 : ok_S 61 34 (sf_ld 0 2 35) := ok_iload_n (by decide +kernel : decode (mb_ 61) 34 = .ok (.iload_n 2, 1)) rfl
theorem ok_X7_statement_35 : ok_S 61 35 (sf_if 2 50 38) := ok_if2 (by decide +kernel : decode (mb_ 61) 35 = .ok (.ifCond .lt 15, 3)) (by decide)
theorem ok_X7_statement_38 : ok_S 61 38 (sf_ld 2 0 39) := ok_aload_n (by decide +kernel : decode (mb_ 61) 38 = .ok (.aload_n 0, 1)) rfl
theorem ok_X7_statement_39 : ok_S 61 39 (sf_ld 0 2 40) := ok_iload_n (by decide +kernel : decode (mb_ 61) 39 = .ok (.iload_n 2, 1)) rfl
theorem ok_X7_statement_40 : ok_S 61 40 (sf_cv 10 [2, 0] 67 43) := ok_cv mt_67 cl_10 (by decide +kernel : decode (mb_ 61) 40 = .ok (.invokevirtual 77, 3)) tw_506 tw_508 ts_11 tw_5 rfl (by decide +kernel) (mh_ok rfl) (by decide) (by decide)
theorem ok_X7_statement_43 : ok_S 61 43 (sf_if 0 50 46) := ok_if0 (by decide +kernel : decode (mb_ 61) 43 = .ok (.ifCond .eq 7, 3)) (by decide)
theorem ok_X7_statement_46 : ok_S 61 46 (sf_push (0, 1) 47) := ok_iconst (by decide +kernel : decode (mb_ 61) 46 = .ok (.iconst 1, 1)) ⟨by decide, by decide⟩
theorem ok_X7_statement_47 : ok_S 61 47 (sf_go 51) := ok_goto (by decide +kernel : decode (mb_ 61) 47 = .ok (.goto 4, 3)) (by decide)
theorem ok_X7_statement_50 : ok_S 61 50 (sf_push (0, 0) 51) := ok_iconst (by decide +kernel : decode (mb_ 61) 50 = .ok (.iconst 0, 1)) ⟨by decide, by decide⟩
theorem ok_X7_statement_51 : ok_S 61 51 (sf_rr 0 1) := ok_rr (by decide +kernel : decode (mb_ 61) 51 = .ok (.ireturn, 1)) rfl (so_nz .boolean rfl rfl)
theorem ok_X7_statement (pc : Nat) : ok_S 61 pc (cd_X7_statement pc) :=
  (ok_bf (ok_bf (ok_bf (ok_bf (ok_bf (ok_lf pc ok_X7_statement_51) (ok_lf pc ok_X7_statement_50)) (ok_bf (ok_lf pc ok_X7_statement_47) (ok_lf pc ok_X7_statement_46))) (ok_bf (ok_bf (ok_lf pc ok_X7_statement_43) (ok_lf pc ok_X7_statement_40)) (ok_bf (ok_lf pc ok_X7_statement_39) (ok_lf pc ok_X7_statement_38)))) (ok_bf (ok_bf (ok_bf (ok_lf pc ok_X7_statement_35) (ok_lf pc ok_X7_statement_34)) (ok_bf (ok_lf pc ok_X7_statement_33) (ok_lf pc ok_X7_statement_30))) (ok_bf (ok_bf (ok_lf pc ok_X7_statement_29) (ok_lf pc ok_X7_statement_28)) (ok_lf pc ok_X7_statement_25)))) (ok_bf (ok_bf (ok_bf (ok_bf (ok_lf pc ok_X7_statement_24) (ok_lf pc ok_X7_statement_21)) (ok_bf (ok_lf pc ok_X7_statement_18) (ok_lf pc ok_X7_statement_16))) (ok_bf (ok_bf (ok_lf pc ok_X7_statement_15) (ok_lf pc ok_X7_statement_14)) (ok_lf pc ok_X7_statement_11))) (ok_bf (ok_bf (ok_bf (ok_lf pc ok_X7_statement_10) (ok_lf pc ok_X7_statement_9)) (ok_bf (ok_lf pc ok_X7_statement_6) (ok_lf pc ok_X7_statement_5))) (ok_bf (ok_bf (ok_lf pc ok_X7_statement_4) (ok_lf pc ok_X7_statement_1)) (ok_lf pc ok_X7_statement_0)))))
theorem mo_X7_statement (pc : Nat) : mo_S (cd_X7_statement pc) :=
  (mo_bf (mo_bf (mo_bf (mo_bf (mo_bf (mo_bf mo_rr mo_no) (mo_bf mo_push mo_no)) (mo_bf (mo_bf mo_go mo_no) (mo_bf mo_push mo_no))) (mo_bf (mo_bf (mo_bf mo_if mo_no) (mo_bf mo_cv mo_no)) (mo_bf (mo_bf mo_ld mo_no) (mo_bf mo_ld mo_no)))) (mo_bf (mo_bf (mo_bf (mo_bf mo_if mo_no) (mo_bf mo_ld mo_no)) (mo_bf (mo_bf mo_st mo_no) (mo_bf mo_cv mo_no))) (mo_bf (mo_bf (mo_bf mo_ld mo_no) (mo_bf mo_rr mo_no)) (mo_bf mo_cv mo_no)))) (mo_bf (mo_bf (mo_bf (mo_bf (mo_bf mo_ld mo_no) (mo_bf mo_if mo_no)) (mo_bf (mo_bf mo_cv mo_no) (mo_bf mo_push mo_no))) (mo_bf (mo_bf (mo_bf mo_ld mo_no) (mo_bf mo_rr mo_no)) (mo_bf mo_cv mo_no))) (mo_bf (mo_bf (mo_bf (mo_bf mo_ld mo_no) (mo_bf mo_ld mo_no)) (mo_bf (mo_bf mo_if mo_no) (mo_bf mo_ld mo_no))) (mo_bf (mo_bf (mo_bf mo_st mo_no) (mo_bf mo_cv mo_no)) (mo_bf mo_ld mo_no)))))
theorem ok_X7_kindNamed_0 : ok_S 62 0 (sf_ld 2 0 1) := ok_aload_n (by decide +kernel : decode (mb_ 62) 0 = .ok (.aload_n 0, 1)) rfl
theorem ok_X7_kindNamed_1 : ok_S 62 1 (sf_push (2, (-11)) 3) := ok_ldcs (tx := "note") (by decide +kernel : decode (mb_ 62) 1 = .ok (.ldc 80, 2)) (by decide) (List.mem_of_getElem? (i := 1) rfl)
theorem ok_X7_kindNamed_3 : ok_S 62 3 (sf_cv 10 [2, 2] 70 6) := ok_cv mt_70 cl_10 (by decide +kernel : decode (mb_ 62) 3 = .ok (.invokevirtual 67, 3)) tw_303 tw_305 ts_4 tw_5 rfl (by decide +kernel) (mh_ok rfl) (by decide) (by decide)
theorem ok_X7_kindNamed_6 : ok_S 62 6 (sf_if 0 11 9) := ok_if0 (by decide +kernel : decode (mb_ 62) 6 = .ok (.ifCond .eq 5, 3)) (by decide)
theorem ok_X7_kindNamed_9 : ok_S 62 9 (sf_push (0, 0) 10) := ok_iconst (by decide +kernel : decode (mb_ 62) 9 = .ok (.iconst 0, 1)) ⟨by decide, by decide⟩
theorem ok_X7_kindNamed_10 : ok_S 62 10 (sf_ret 0) := ok_ret0 (by decide +kernel : decode (mb_ 62) 10 = .ok (.ireturn, 1)) rfl
theorem ok_X7_kindNamed_11 : ok_S 62 11 (sf_ld 2 0 12) := ok_aload_n (by decide +kernel : decode (mb_ 62) 11 = .ok (.aload_n 0, 1)) rfl
theorem ok_X7_kindNamed_12 : ok_S 62 12 (sf_push (2, (-12)) 14) := ok_ldcs (tx := "strokes") (by decide +kernel : decode (mb_ 62) 12 = .ok (.ldc 82, 2)) (by decide) (List.mem_of_getElem? (i := 2) rfl)
theorem ok_X7_kindNamed_14 : ok_S 62 14 (sf_cv 10 [2, 2] 70 17) := ok_cv mt_70 cl_10 (by decide +kernel : decode (mb_ 62) 14 = .ok (.invokevirtual 67, 3)) tw_303 tw_305 ts_4 tw_5 rfl (by decide +kernel) (mh_ok rfl) (by decide) (by decide)
theorem ok_X7_kindNamed_17 : ok_S 62 17 (sf_if 0 22 20) := ok_if0 (by decide +kernel : decode (mb_ 62) 17 = .ok (.ifCond .eq 5, 3)) (by decide)
theorem ok_X7_kindNamed_20 : ok_S 62 20 (sf_push (0, 1) 21) := ok_iconst (by decide +kernel : decode (mb_ 62) 20 = .ok (.iconst 1, 1)) ⟨by decide, by decide⟩
theorem ok_X7_kindNamed_21 : ok_S 62 21 (sf_ret 0) := ok_ret0 (by decide +kernel : decode (mb_ 62) 21 = .ok (.ireturn, 1)) rfl
theorem ok_X7_kindNamed_22 : ok_S 62 22 (sf_ld 2 0 23) := ok_aload_n (by decide +kernel : decode (mb_ 62) 22 = .ok (.aload_n 0, 1)) rfl
theorem ok_X7_kindNamed_23 : ok_S 62 23 (sf_push (2, (-13)) 25) := ok_ldcs (tx := "broken") (by decide +kernel : decode (mb_ 62) 23 = .ok (.ldc 84, 2)) (by decide) (List.mem_of_getElem? (i := 3) rfl)
theorem ok_X7_kindNamed_25 : ok_S 62 25 (sf_cv 10 [2, 2] 70 28) := ok_cv mt_70 cl_10 (by decide +kernel : decode (mb_ 62) 25 = .ok (.invokevirtual 67, 3)) tw_303 tw_305 ts_4 tw_5 rfl (by decide +kernel) (mh_ok rfl) (by decide) (by decide)
theorem ok_X7_kindNamed_28 : ok_S 62 28 (sf_if 0 33 31) := ok_if0 (by decide +kernel : decode (mb_ 62) 28 = .ok (.ifCond .eq 5, 3)) (by decide)
theorem ok_X7_kindNamed_31 : ok_S 62 31 (sf_push (0, 2) 32) := ok_iconst (by decide +kernel : decode (mb_ 62) 31 = .ok (.iconst 2, 1)) ⟨by decide, by decide⟩
theorem ok_X7_kindNamed_32 : ok_S 62 32 (sf_ret 0) := ok_ret0 (by decide +kernel : decode (mb_ 62) 32 = .ok (.ireturn, 1)) rfl
theorem ok_X7_kindNamed_33 : ok_S 62 33 (sf_ld 2 0 34) := ok_aload_n (by decide +kernel : decode (mb_ 62) 33 = .ok (.aload_n 0, 1)) rfl
theorem ok_X7_kindNamed_34 : ok_S 62 34 (sf_push (2, (-14)) 36) := ok_ldcs (tx := "left") (by decide +kernel : decode (mb_ 62) 34 = .ok (.ldc 86, 2)) (by decide) (List.mem_of_getElem? (i := 4) rfl)
theorem ok_X7_kindNamed_36 : ok_S 62 36 (sf_cv 10 [2, 2] 70 39) := ok_cv mt_70 cl_10 (by decide +kernel : decode (mb_ 62) 36 = .ok (.invokevirtual 67, 3)) tw_303 tw_305 ts_4 tw_5 rfl (by decide +kernel) (mh_ok rfl) (by decide) (by decide)
theorem ok_X7_kindNamed_39 : ok_S 62 39 (sf_if 0 44 42) := ok_if0 (by decide +kernel : decode (mb_ 62) 39 = .ok (.ifCond .eq 5, 3)) (by decide)
theorem ok_X7_kindNamed_42 : ok_S 62 42 (sf_push (0, 3) 43) := ok_iconst (by decide +kernel : decode (mb_ 62) 42 = .ok (.iconst 3, 1)) ⟨by decide, by decide⟩
theorem ok_X7_kindNamed_43 : ok_S 62 43 (sf_ret 0) := ok_ret0 (by decide +kernel : decode (mb_ 62) 43 = .ok (.ireturn, 1)) rfl
theorem ok_X7_kindNamed_44 : ok_S 62 44 (sf_ld 2 0 45) := ok_aload_n (by decide +kernel : decode (mb_ 62) 44 = .ok (.aload_n 0, 1)) rfl
theorem ok_X7_kindNamed_45 : ok_S 62 45 (sf_push (2, (-15)) 47) := ok_ldcs (tx := "turned") (by decide +kernel : decode (mb_ 62) 45 = .ok (.ldc 88, 2)) (by decide) (List.mem_of_getElem? (i := 5) rfl)
theorem ok_X7_kindNamed_47 : ok_S 62 47 (sf_cv 10 [2, 2] 70 50) := ok_cv mt_70 cl_10 (by decide +kernel : decode (mb_ 62) 47 = .ok (.invokevirtual 67, 3)) tw_303 tw_305 ts_4 tw_5 rfl (by decide +kernel) (mh_ok rfl) (by decide) (by decide)
theorem ok_X7_kindNamed_50 : ok_S 62 50 (sf_if 0 55 53) := ok_if0 (by decide +kernel : decode (mb_ 62) 50 = .ok (.ifCond .eq 5, 3)) (by decide)
theorem ok_X7_kindNamed_53 : ok_S 62 53 (sf_push (0, 4) 54) := ok_iconst (by decide +kernel : decode (mb_ 62) 53 = .ok (.iconst 4, 1)) ⟨by decide, by decide⟩
theorem ok_X7_kindNamed_54 : ok_S 62 54 (sf_ret 0) := ok_ret0 (by decide +kernel : decode (mb_ 62) 54 = .ok (.ireturn, 1)) rfl
theorem ok_X7_kindNamed_55 : ok_S 62 55 (sf_ld 2 0 56) := ok_aload_n (by decide +kernel : decode (mb_ 62) 55 = .ok (.aload_n 0, 1)) rfl
theorem ok_X7_kindNamed_56 : ok_S 62 56 (sf_push (2, (-16)) 58) := ok_ldcs (tx := "debt") (by decide +kernel : decode (mb_ 62) 56 = .ok (.ldc 90, 2)) (by decide) (List.mem_of_getElem? (i := 6) rfl)
theorem ok_X7_kindNamed_58 : ok_S 62 58 (sf_cv 10 [2, 2] 70 61) := ok_cv mt_70 cl_10 (by decide +kernel : decode (mb_ 62) 58 = .ok (.invokevirtual 67, 3)) tw_303 tw_305 ts_4 tw_5 rfl (by decide +kernel) (mh_ok rfl) (by decide) (by decide)
theorem ok_X7_kindNamed_61 : ok_S 62 61 (sf_if 0 68 64) := ok_if0 (by decide +kernel : decode (mb_ 62) 61 = .ok (.ifCond .eq 7, 3)) (by decide)
theorem ok_X7_kindNamed_64 : ok_S 62 64 (sf_push (0, 5) 65) := ok_iconst (by decide +kernel : decode (mb_ 62) 64 = .ok (.iconst 5, 1)) ⟨by decide, by decide⟩
theorem ok_X7_kindNamed_65 : ok_S 62 65 (sf_go 69) := ok_goto (by decide +kernel : decode (mb_ 62) 65 = .ok (.goto 4, 3)) (by decide)
theorem ok_X7_kindNamed_68 : ok_S 62 68 (sf_push (0, (-1)) 69) := ok_iconst (by decide +kernel : decode (mb_ 62) 68 = .ok (.iconst (-1), 1)) ⟨by decide, by decide⟩
theorem ok_X7_kindNamed_69 : ok_S 62 69 (sf_ret 0) := ok_ret0 (by decide +kernel : decode (mb_ 62) 69 = .ok (.ireturn, 1)) rfl
theorem ok_X7_kindNamed (pc : Nat) : ok_S 62 pc (cd_X7_kindNamed pc) :=
  (ok_bf (ok_bf (ok_bf (ok_bf (ok_bf (ok_bf (ok_lf pc ok_X7_kindNamed_69) (ok_lf pc ok_X7_kindNamed_68)) (ok_lf pc ok_X7_kindNamed_65)) (ok_bf (ok_lf pc ok_X7_kindNamed_64) (ok_lf pc ok_X7_kindNamed_61))) (ok_bf (ok_bf (ok_bf (ok_lf pc ok_X7_kindNamed_58) (ok_lf pc ok_X7_kindNamed_56)) (ok_lf pc ok_X7_kindNamed_55)) (ok_bf (ok_lf pc ok_X7_kindNamed_54) (ok_lf pc ok_X7_kindNamed_53)))) (ok_bf (ok_bf (ok_bf (ok_bf (ok_lf pc ok_X7_kindNamed_50) (ok_lf pc ok_X7_kindNamed_47)) (ok_lf pc ok_X7_kindNamed_45)) (ok_bf (ok_lf pc ok_X7_kindNamed_44) (ok_lf pc ok_X7_kindNamed_43))) (ok_bf (ok_bf (ok_lf pc ok_X7_kindNamed_42) (ok_lf pc ok_X7_kindNamed_39)) (ok_bf (ok_lf pc ok_X7_kindNamed_36) (ok_lf pc ok_X7_kindNamed_34))))) (ok_bf (ok_bf (ok_bf (ok_bf (ok_bf (ok_lf pc ok_X7_kindNamed_33) (ok_lf pc ok_X7_kindNamed_32)) (ok_lf pc ok_X7_kindNamed_31)) (ok_bf (ok_lf pc ok_X7_kindNamed_28) (ok_lf pc ok_X7_kindNamed_25))) (ok_bf (ok_bf (ok_bf (ok_lf pc ok_X7_kindNamed_23) (ok_lf pc ok_X7_kindNamed_22)) (ok_lf pc ok_X7_kindNamed_21)) (ok_bf (ok_lf pc ok_X7_kindNamed_20) (ok_lf pc ok_X7_kindNamed_17)))) (ok_bf (ok_bf (ok_bf (ok_bf (ok_lf pc ok_X7_kindNamed_14) (ok_lf pc ok_X7_kindNamed_12)) (ok_lf pc ok_X7_kindNamed_11)) (ok_bf (ok_lf pc ok_X7_kindNamed_10) (ok_lf pc ok_X7_kindNamed_9))) (ok_bf (ok_bf (ok_lf pc ok_X7_kindNamed_6) (ok_lf pc ok_X7_kindNamed_3)) (ok_bf (ok_lf pc ok_X7_kindNamed_1) (ok_lf pc ok_X7_kindNamed_0))))))
theorem mo_X7_kindNamed (pc : Nat) : mo_S (cd_X7_kindNamed pc) :=
  (mo_bf (mo_bf (mo_bf (mo_bf (mo_bf (mo_bf (mo_bf mo_ret mo_no) (mo_bf mo_push mo_no)) (mo_bf mo_go mo_no)) (mo_bf (mo_bf mo_push mo_no) (mo_bf mo_if mo_no))) (mo_bf (mo_bf (mo_bf (mo_bf mo_cv mo_no) (mo_bf mo_push mo_no)) (mo_bf mo_ld mo_no)) (mo_bf (mo_bf mo_ret mo_no) (mo_bf mo_push mo_no)))) (mo_bf (mo_bf (mo_bf (mo_bf (mo_bf mo_if mo_no) (mo_bf mo_cv mo_no)) (mo_bf mo_push mo_no)) (mo_bf (mo_bf mo_ld mo_no) (mo_bf mo_ret mo_no))) (mo_bf (mo_bf (mo_bf mo_push mo_no) (mo_bf mo_if mo_no)) (mo_bf (mo_bf mo_cv mo_no) (mo_bf mo_push mo_no))))) (mo_bf (mo_bf (mo_bf (mo_bf (mo_bf (mo_bf mo_ld mo_no) (mo_bf mo_ret mo_no)) (mo_bf mo_push mo_no)) (mo_bf (mo_bf mo_if mo_no) (mo_bf mo_cv mo_no))) (mo_bf (mo_bf (mo_bf (mo_bf mo_push mo_no) (mo_bf mo_ld mo_no)) (mo_bf mo_ret mo_no)) (mo_bf (mo_bf mo_push mo_no) (mo_bf mo_if mo_no)))) (mo_bf (mo_bf (mo_bf (mo_bf (mo_bf mo_cv mo_no) (mo_bf mo_push mo_no)) (mo_bf mo_ld mo_no)) (mo_bf (mo_bf mo_ret mo_no) (mo_bf mo_push mo_no))) (mo_bf (mo_bf (mo_bf mo_if mo_no) (mo_bf mo_cv mo_no)) (mo_bf (mo_bf mo_push mo_no) (mo_bf mo_ld mo_no))))))
theorem ok_X7_lineSortNamed_0 : ok_S 63 0 (sf_ld 2 0 1) := ok_aload_n (by decide +kernel : decode (mb_ 63) 0 = .ok (.aload_n 0, 1)) rfl
theorem ok_X7_lineSortNamed_1 : ok_S 63 1 (sf_push (2, (-17)) 3) := ok_ldcs (tx := "same") (by decide +kernel : decode (mb_ 63) 1 = .ok (.ldc 92, 2)) (by decide) (List.mem_of_getElem? (i := 7) rfl)
theorem ok_X7_lineSortNamed_3 : ok_S 63 3 (sf_cv 10 [2, 2] 70 6) := ok_cv mt_70 cl_10 (by decide +kernel : decode (mb_ 63) 3 = .ok (.invokevirtual 67, 3)) tw_303 tw_305 ts_4 tw_5 rfl (by decide +kernel) (mh_ok rfl) (by decide) (by decide)
theorem ok_X7_lineSortNamed_6 : ok_S 63 6 (sf_if 0 11 9) := ok_if0 (by decide +kernel : decode (mb_ 63) 6 = .ok (.ifCond .eq 5, 3)) (by decide)
theorem ok_X7_lineSortNamed_9 : ok_S 63 9 (sf_push (0, 0) 10) := ok_iconst (by decide +kernel : decode (mb_ 63) 9 = .ok (.iconst 0, 1)) ⟨by decide, by decide⟩
theorem ok_X7_lineSortNamed_10 : ok_S 63 10 (sf_ret 0) := ok_ret0 (by decide +kernel : decode (mb_ 63) 10 = .ok (.ireturn, 1)) rfl
theorem ok_X7_lineSortNamed_11 : ok_S 63 11 (sf_ld 2 0 12) := ok_aload_n (by decide +kernel : decode (mb_ 63) 11 = .ok (.aload_n 0, 1)) rfl
theorem ok_X7_lineSortNamed_12 : ok_S 63 12 (sf_push (2, (-18)) 14) := ok_ldcs (tx := "more") (by decide +kernel : decode (mb_ 63) 12 = .ok (.ldc 94, 2)) (by decide) (List.mem_of_getElem? (i := 8) rfl)
theorem ok_X7_lineSortNamed_14 : ok_S 63 14 (sf_cv 10 [2, 2] 70 17) := ok_cv mt_70 cl_10 (by decide +kernel : decode (mb_ 63) 14 = .ok (.invokevirtual 67, 3)) tw_303 tw_305 ts_4 tw_5 rfl (by decide +kernel) (mh_ok rfl) (by decide) (by decide)
theorem ok_X7_lineSortNamed_17 : ok_S 63 17 (sf_if 0 22 20) := ok_if0 (by decide +kernel : decode (mb_ 63) 17 = .ok (.ifCond .eq 5, 3)) (by decide)
theorem ok_X7_lineSortNamed_20 : ok_S 63 20 (sf_push (0, 1) 21) := ok_iconst (by decide +kernel : decode (mb_ 63) 20 = .ok (.iconst 1, 1)) ⟨by decide, by decide⟩
theorem ok_X7_lineSortNamed_21 : ok_S 63 21 (sf_ret 0) := ok_ret0 (by decide +kernel : decode (mb_ 63) 21 = .ok (.ireturn, 1)) rfl
theorem ok_X7_lineSortNamed_22 : ok_S 63 22 (sf_ld 2 0 23) := ok_aload_n (by decide +kernel : decode (mb_ 63) 22 = .ok (.aload_n 0, 1)) rfl
theorem ok_X7_lineSortNamed_23 : ok_S 63 23 (sf_push (2, (-19)) 25) := ok_ldcs (tx := "sum") (by decide +kernel : decode (mb_ 63) 23 = .ok (.ldc 96, 2)) (by decide) (List.mem_of_getElem? (i := 9) rfl)
theorem ok_X7_lineSortNamed_25 : ok_S 63 25 (sf_cv 10 [2, 2] 70 28) := ok_cv mt_70 cl_10 (by decide +kernel : decode (mb_ 63) 25 = .ok (.invokevirtual 67, 3)) tw_303 tw_305 ts_4 tw_5 rfl (by decide +kernel) (mh_ok rfl) (by decide) (by decide)
theorem ok_X7_lineSortNamed_28 : ok_S 63 28 (sf_if 0 33 31) := ok_if0 (by decide +kernel : decode (mb_ 63) 28 = .ok (.ifCond .eq 5, 3)) (by decide)
theorem ok_X7_lineSortNamed_31 : ok_S 63 31 (sf_push (0, 2) 32) := ok_iconst (by decide +kernel : decode (mb_ 63) 31 = .ok (.iconst 2, 1)) ⟨by decide, by decide⟩
theorem ok_X7_lineSortNamed_32 : ok_S 63 32 (sf_ret 0) := ok_ret0 (by decide +kernel : decode (mb_ 63) 32 = .ok (.ireturn, 1)) rfl
theorem ok_X7_lineSortNamed_33 : ok_S 63 33 (sf_ld 2 0 34) := ok_aload_n (by decide +kernel : decode (mb_ 63) 33 = .ok (.aload_n 0, 1)) rfl
theorem ok_X7_lineSortNamed_34 : ok_S 63 34 (sf_push (2, (-20)) 36) := ok_ldcs (tx := "whole") (by decide +kernel : decode (mb_ 63) 34 = .ok (.ldc 98, 2)) (by decide) (List.mem_of_getElem? (i := 10) rfl)
theorem ok_X7_lineSortNamed_36 : ok_S 63 36 (sf_cv 10 [2, 2] 70 39) := ok_cv mt_70 cl_10 (by decide +kernel : decode (mb_ 63) 36 = .ok (.invokevirtual 67, 3)) tw_303 tw_305 ts_4 tw_5 rfl (by decide +kernel) (mh_ok rfl) (by decide) (by decide)
theorem ok_X7_lineSortNamed_39 : ok_S 63 39 (sf_if 0 46 42) := ok_if0 (by decide +kernel : decode (mb_ 63) 39 = .ok (.ifCond .eq 7, 3)) (by decide)
theorem ok_X7_lineSortNamed_42 : ok_S 63 42 (sf_push (0, 3) 43) := ok_iconst (by decide +kernel : decode (mb_ 63) 42 = .ok (.iconst 3, 1)) ⟨by decide, by decide⟩
theorem ok_X7_lineSortNamed_43 : ok_S 63 43 (sf_go 47) := ok_goto (by decide +kernel : decode (mb_ 63) 43 = .ok (.goto 4, 3)) (by decide)
theorem ok_X7_lineSortNamed_46 : ok_S 63 46 (sf_push (0, (-1)) 47) := ok_iconst (by decide +kernel : decode (mb_ 63) 46 = .ok (.iconst (-1), 1)) ⟨by decide, by decide⟩
theorem ok_X7_lineSortNamed_47 : ok_S 63 47 (sf_ret 0) := ok_ret0 (by decide +kernel : decode (mb_ 63) 47 = .ok (.ireturn, 1)) rfl
theorem ok_X7_lineSortNamed (pc : Nat) : ok_S 63 pc (cd_X7_lineSortNamed pc) :=
  (ok_bf (ok_bf (ok_bf (ok_bf (ok_bf (ok_lf pc ok_X7_lineSortNamed_47) (ok_lf pc ok_X7_lineSortNamed_46)) (ok_bf (ok_lf pc ok_X7_lineSortNamed_43) (ok_lf pc ok_X7_lineSortNamed_42))) (ok_bf (ok_bf (ok_lf pc ok_X7_lineSortNamed_39) (ok_lf pc ok_X7_lineSortNamed_36)) (ok_lf pc ok_X7_lineSortNamed_34))) (ok_bf (ok_bf (ok_bf (ok_lf pc ok_X7_lineSortNamed_33) (ok_lf pc ok_X7_lineSortNamed_32)) (ok_lf pc ok_X7_lineSortNamed_31)) (ok_bf (ok_bf (ok_lf pc ok_X7_lineSortNamed_28) (ok_lf pc ok_X7_lineSortNamed_25)) (ok_lf pc ok_X7_lineSortNamed_23)))) (ok_bf (ok_bf (ok_bf (ok_bf (ok_lf pc ok_X7_lineSortNamed_22) (ok_lf pc ok_X7_lineSortNamed_21)) (ok_bf (ok_lf pc ok_X7_lineSortNamed_20) (ok_lf pc ok_X7_lineSortNamed_17))) (ok_bf (ok_bf (ok_lf pc ok_X7_lineSortNamed_14) (ok_lf pc ok_X7_lineSortNamed_12)) (ok_lf pc ok_X7_lineSortNamed_11))) (ok_bf (ok_bf (ok_bf (ok_lf pc ok_X7_lineSortNamed_10) (ok_lf pc ok_X7_lineSortNamed_9)) (ok_lf pc ok_X7_lineSortNamed_6)) (ok_bf (ok_bf (ok_lf pc ok_X7_lineSortNamed_3) (ok_lf pc ok_X7_lineSortNamed_1)) (ok_lf pc ok_X7_lineSortNamed_0)))))
theorem mo_X7_lineSortNamed (pc : Nat) : mo_S (cd_X7_lineSortNamed pc) :=
  (mo_bf (mo_bf (mo_bf (mo_bf (mo_bf (mo_bf mo_ret mo_no) (mo_bf mo_push mo_no)) (mo_bf (mo_bf mo_go mo_no) (mo_bf mo_push mo_no))) (mo_bf (mo_bf (mo_bf mo_if mo_no) (mo_bf mo_cv mo_no)) (mo_bf mo_push mo_no))) (mo_bf (mo_bf (mo_bf (mo_bf mo_ld mo_no) (mo_bf mo_ret mo_no)) (mo_bf mo_push mo_no)) (mo_bf (mo_bf (mo_bf mo_if mo_no) (mo_bf mo_cv mo_no)) (mo_bf mo_push mo_no)))) (mo_bf (mo_bf (mo_bf (mo_bf (mo_bf mo_ld mo_no) (mo_bf mo_ret mo_no)) (mo_bf (mo_bf mo_push mo_no) (mo_bf mo_if mo_no))) (mo_bf (mo_bf (mo_bf mo_cv mo_no) (mo_bf mo_push mo_no)) (mo_bf mo_ld mo_no))) (mo_bf (mo_bf (mo_bf (mo_bf mo_ret mo_no) (mo_bf mo_push mo_no)) (mo_bf mo_if mo_no)) (mo_bf (mo_bf (mo_bf mo_cv mo_no) (mo_bf mo_push mo_no)) (mo_bf mo_ld mo_no)))))
theorem ok_X7_noteTold_0 : ok_S 64 0 (sf_ld 2 0 1) := ok_aload_n (by decide +kernel : decode (mb_ 64) 0 = .ok (.aload_n 0, 1)) rfl
theorem ok_X7_noteTold_1 : ok_S 64 1 (sf_gr 10 10 0 4) := ok_gr fd_10_0 (by decide +kernel : decode (mb_ 64) 1 = .ok (.getfield 12, 3)) tw_146 (Or.inl rfl) rfl
theorem ok_X7_noteTold_4 : ok_S 64 4 (sf_gi 8 8 3 7) := ok_gi fd_8_3 (by decide +kernel : decode (mb_ 64) 4 = .ok (.getfield 100, 3)) tw_56 (Or.inl rfl) rfl
theorem ok_X7_noteTold_7 : ok_S 64 7 (sf_push (0, 6) 9) := ok_bipush (by decide +kernel : decode (mb_ 64) 7 = .ok (.bipush 6, 2)) ⟨by decide, by decide⟩ (by decide +kernel)
theorem ok_X7_noteTold_9 : ok_S 64 9 (sf_ic 2 14 12) := ok_ic2 (by decide +kernel : decode (mb_ 64) 9 = .ok (.if_icmp .lt 5, 3)) (by decide)
theorem ok_X7_noteTold_12 : ok_S 64 12 (sf_push (0, 0) 13) := ok_iconst (by decide +kernel : decode (mb_ 64) 12 = .ok (.iconst 0, 1)) ⟨by decide, by decide⟩
theorem ok_X7_noteTold_13 : ok_S 64 13 (sf_rr 0 1) := ok_rr (by decide +kernel : decode (mb_ 64) 13 = .ok (.ireturn, 1)) rfl (so_nz .boolean rfl rfl)
theorem ok_X7_noteTold_14 : ok_S 64 14 (sf_ld 2 0 15) := ok_aload_n (by decide +kernel : decode (mb_ 64) 14 = .ok (.aload_n 0, 1)) rfl
theorem ok_X7_noteTold_15 : ok_S 64 15 (sf_cv 10 [2] 71 18) := ok_cv mt_71 cl_10 (by decide +kernel : decode (mb_ 64) 15 = .ok (.invokevirtual 50, 3)) tw_280 tw_282 ts_0 tw_5 rfl (by decide +kernel) (mh_ok rfl) (by decide) (by decide)
theorem ok_X7_noteTold_18 : ok_S 64 18 (sf_ld 2 0 19) := ok_aload_n (by decide +kernel : decode (mb_ 64) 18 = .ok (.aload_n 0, 1)) rfl
theorem ok_X7_noteTold_19 : ok_S 64 19 (sf_push (0, 0) 20) := ok_iconst (by decide +kernel : decode (mb_ 64) 19 = .ok (.iconst 0, 1)) ⟨by decide, by decide⟩
theorem ok_X7_noteTold_20 : ok_S 64 20 (sf_push (0, 2) 21) := ok_iconst (by decide +kernel : decode (mb_ 64) 20 = .ok (.iconst 2, 1)) ⟨by decide, by decide⟩
theorem ok_X7_noteTold_21 : ok_S 64 21 (sf_cv 10 [2, 0, 0] 68 24) := ok_cv mt_68 cl_10 (by decide +kernel : decode (mb_ 64) 21 = .ok (.invokevirtual 103, 3)) tw_364 tw_366 ts_6 tw_5 rfl (by decide +kernel) (mh_ok rfl) (by decide) (by decide)
theorem ok_X7_noteTold_24 : ok_S 64 24 (sf_st 0 2 25) := ok_istore_n (by decide +kernel : decode (mb_ 64) 24 = .ok (.istore_n 2, 1)) rfl
theorem ok_X7_noteTold_25 : ok_S 64 25 (sf_ld 0 2 26) := ok_iload_n (by decide +kernel : decode (mb_ 64) 25 = .ok (.iload_n 2, 1)) rfl
theorem ok_X7_noteTold_26 : ok_S 64 26 (sf_if 3 31 29) := ok_if3 (by decide +kernel : decode (mb_ 64) 26 = .ok (.ifCond .ge 5, 3)) (by decide)
theorem ok_X7_noteTold_29 : ok_S 64 29 (sf_push (0, 0) 30) := ok_iconst (by decide +kernel : decode (mb_ 64) 29 = .ok (.iconst 0, 1)) ⟨by decide, by decide⟩
theorem ok_X7_noteTold_30 : ok_S 64 30 (sf_rr 0 1) := ok_rr (by decide +kernel : decode (mb_ 64) 30 = .ok (.ireturn, 1)) rfl (so_nz .boolean rfl rfl)
theorem ok_X7_noteTold_31 : ok_S 64 31 (sf_push (0, 0) 32) := ok_iconst (by decide +kernel : decode (mb_ 64) 31 = .ok (.iconst 0, 1)) ⟨by decide, by decide⟩
theorem ok_X7_noteTold_32 : ok_S 64 32 (sf_st 0 3 33) := ok_istore_n (by decide +kernel : decode (mb_ 64) 32 = .ok (.istore_n 3, 1)) rfl
theorem ok_X7_noteTold_33 : ok_S 64 33 (sf_ld 2 0 34) := ok_aload_n (by decide +kernel : decode (mb_ 64) 33 = .ok (.aload_n 0, 1)) rfl
theorem ok_X7_noteTold_34 : ok_S 64 34 (sf_push (2, (-21)) 36) := ok_ldcs (tx := "at") (by decide +kernel : decode (mb_ 64) 34 = .ok (.ldc 106, 2)) (by decide) (List.mem_of_getElem? (i := 11) rfl)
theorem ok_X7_noteTold_36 : ok_S 64 36 (sf_cv 10 [2, 2] 70 39) := ok_cv mt_70 cl_10 (by decide +kernel : decode (mb_ 64) 36 = .ok (.invokevirtual 67, 3)) tw_303 tw_305 ts_4 tw_5 rfl (by decide +kernel) (mh_ok rfl) (by decide) (by decide)
theorem ok_X7_noteTold_39 : ok_S 64 39 (sf_if 0 54 42) := ok_if0 (by decide +kernel : decode (mb_ 64) 39 = .ok (.ifCond .eq 15, 3)) (by decide)
theorem ok_X7_noteTold_42 : ok_S 64 42 (sf_ld 2 0 43) := ok_aload_n (by decide +kernel : decode (mb_ 64) 42 = .ok (.aload_n 0, 1)) rfl
theorem ok_X7_noteTold_43 : ok_S 64 43 (sf_cv 10 [2] 71 46) := ok_cv mt_71 cl_10 (by decide +kernel : decode (mb_ 64) 43 = .ok (.invokevirtual 50, 3)) tw_280 tw_282 ts_0 tw_5 rfl (by decide +kernel) (mh_ok rfl) (by decide) (by decide)
theorem ok_X7_noteTold_46 : ok_S 64 46 (sf_ld 2 0 47) := ok_aload_n (by decide +kernel : decode (mb_ 64) 46 = .ok (.aload_n 0, 1)) rfl
theorem ok_X7_noteTold_47 : ok_S 64 47 (sf_push (0, 0) 48) := ok_iconst (by decide +kernel : decode (mb_ 64) 47 = .ok (.iconst 0, 1)) ⟨by decide, by decide⟩
theorem ok_X7_noteTold_48 : ok_S 64 48 (sf_push (0, 6) 50) := ok_bipush (by decide +kernel : decode (mb_ 64) 48 = .ok (.bipush 6, 2)) ⟨by decide, by decide⟩ (by decide +kernel)
theorem ok_X7_noteTold_50 : ok_S 64 50 (sf_cv 10 [2, 0, 0] 68 53) := ok_cv mt_68 cl_10 (by decide +kernel : decode (mb_ 64) 50 = .ok (.invokevirtual 103, 3)) tw_364 tw_366 ts_6 tw_5 rfl (by decide +kernel) (mh_ok rfl) (by decide) (by decide)
theorem ok_X7_noteTold_53 : ok_S 64 53 (sf_st 0 3 54) := ok_istore_n (by decide +kernel : decode (mb_ 64) 53 = .ok (.istore_n 3, 1)) rfl
theorem ok_X7_noteTold_54 : ok_S 64 54 (sf_ld 0 3 55) := ok_iload_n (by decide +kernel : decode (mb_ 64) 54 = .ok (.iload_n 3, 1)) rfl
theorem ok_X7_noteTold_55 : ok_S 64 55 (sf_if 2 67 58) := ok_if2 (by decide +kernel : decode (mb_ 64) 55 = .ok (.ifCond .lt 12, 3)) (by decide)
theorem ok_X7_noteTold_58 : ok_S 64 58 (sf_ld 2 0 59) := ok_aload_n (by decide +kernel : decode (mb_ 64) 58 = .ok (.aload_n 0, 1)) rfl
theorem ok_X7_noteTold_59 : ok_S 64 59 (sf_push (0, 58) 61) := ok_bipush (by decide +kernel : decode (mb_ 64) 59 = .ok (.bipush 58, 2)) ⟨by decide, by decide⟩ (by decide +kernel)
theorem ok_X7_noteTold_61 : ok_S 64 61 (sf_cv 10 [2, 0] 69 64) := ok_cv mt_69 cl_10 (by decide +kernel : decode (mb_ 64) 61 = .ok (.invokevirtual 108, 3)) tw_369 tw_371 ts_7 tw_5 rfl (by decide +kernel) (mh_ok rfl) (by decide) (by decide)
theorem ok_X7_noteTold_64 : ok_S 64 64 (sf_if 1 69 67) := ok_if1 (by decide +kernel : decode (mb_ 64) 64 = .ok (.ifCond .ne 5, 3)) (by decide)
theorem ok_X7_noteTold_67 : ok_S 64 67 (sf_push (0, 0) 68) := ok_iconst (by decide +kernel : decode (mb_ 64) 67 = .ok (.iconst 0, 1)) ⟨by decide, by decide⟩
theorem ok_X7_noteTold_68 : ok_S 64 68 (sf_rr 0 1) := ok_rr (by decide +kernel : decode (mb_ 64) 68 = .ok (.ireturn, 1)) rfl (so_nz .boolean rfl rfl)
theorem ok_X7_noteTold_69 : ok_S 64 69 (sf_ld 2 0 70) := ok_aload_n (by decide +kernel : decode (mb_ 64) 69 = .ok (.aload_n 0, 1)) rfl
theorem ok_X7_noteTold_70 : ok_S 64 70 (sf_cv 10 [2] 65 73) := ok_cv mt_65 cl_10 (by decide +kernel : decode (mb_ 64) 70 = .ok (.invokevirtual 111, 3)) tw_373 tw_375 ts_8 tw_5 rfl (by decide +kernel) (mh_ok rfl) (by decide) (by decide)
theorem ok_X7_noteTold_73 : ok_S 64 73 (sf_st 0 4 75) := ok_istore (by decide +kernel : decode (mb_ 64) 73 = .ok (.istore 4, 2))
theorem ok_X7_noteTold_75 : ok_S 64 75 (sf_ld 0 4 77) := ok_iload (by decide +kernel : decode (mb_ 64) 75 = .ok (.iload 4, 2))
theorem ok_X7_noteTold_77 : ok_S 64 77 (sf_push (0, 1) 78) := ok_iconst (by decide +kernel : decode (mb_ 64) 77 = .ok (.iconst 1, 1)) ⟨by decide, by decide⟩
theorem ok_X7_noteTold_78 : ok_S 64 78 (sf_ic 2 90 81) := ok_ic2 (by decide +kernel : decode (mb_ 64) 78 = .ok (.if_icmp .lt 12, 3)) (by decide)
theorem ok_X7_noteTold_81 : ok_S 64 81 (sf_ld 2 0 82) := ok_aload_n (by decide +kernel : decode (mb_ 64) 81 = .ok (.aload_n 0, 1)) rfl
theorem ok_X7_noteTold_82 : ok_S 64 82 (sf_push (0, 59) 84) := ok_bipush (by decide +kernel : decode (mb_ 64) 82 = .ok (.bipush 59, 2)) ⟨by decide, by decide⟩ (by decide +kernel)
theorem ok_X7_noteTold_84 : ok_S 64 84 (sf_cv 10 [2, 0] 69 87) := ok_cv mt_69 cl_10 (by decide +kernel : decode (mb_ 64) 84 = .ok (.invokevirtual 108, 3)) tw_369 tw_371 ts_7 tw_5 rfl (by decide +kernel) (mh_ok rfl) (by decide) (by decide)
theorem ok_X7_noteTold_87 : ok_S 64 87 (sf_if 1 92 90) := ok_if1 (by decide +kernel : decode (mb_ 64) 87 = .ok (.ifCond .ne 5, 3)) (by decide)
theorem ok_X7_noteTold_90 : ok_S 64 90 (sf_push (0, 0) 91) := ok_iconst (by decide +kernel : decode (mb_ 64) 90 = .ok (.iconst 0, 1)) ⟨by decide, by decide⟩
theorem ok_X7_noteTold_91 : ok_S 64 91 (sf_rr 0 1) := ok_rr (by decide +kernel : decode (mb_ 64) 91 = .ok (.ireturn, 1)) rfl (so_nz .boolean rfl rfl)
theorem ok_X7_noteTold_92 : ok_S 64 92 (sf_ld 0 4 94) := ok_iload (by decide +kernel : decode (mb_ 64) 92 = .ok (.iload 4, 2))
theorem ok_X7_noteTold_94 : ok_S 64 94 (sf_newa 20 96) := ok_newa rfl (Or.inl ⟨rfl, rfl⟩) (by decide +kernel : decode (mb_ 64) 94 = .ok (.newarray .int, 2)) tw_81
theorem ok_X7_noteTold_96 : ok_S 64 96 (sf_st 2 5 98) := ok_astore (by decide +kernel : decode (mb_ 64) 96 = .ok (.astore 5, 2))
theorem ok_X7_noteTold_98 : ok_S 64 98 (sf_ld 2 0 99) := ok_aload_n (by decide +kernel : decode (mb_ 64) 98 = .ok (.aload_n 0, 1)) rfl
theorem ok_X7_noteTold_99 : ok_S 64 99 (sf_gr 10 10 2 102) := ok_gr fd_10_2 (by decide +kernel : decode (mb_ 64) 99 = .ok (.getfield 22, 3)) tw_150 (Or.inl rfl) rfl
theorem ok_X7_noteTold_102 : ok_S 64 102 (sf_push (0, 0) 103) := ok_iconst (by decide +kernel : decode (mb_ 64) 102 = .ok (.iconst 0, 1)) ⟨by decide, by decide⟩
theorem ok_X7_noteTold_103 : ok_S 64 103 (sf_ld 2 5 105) := ok_aload (by decide +kernel : decode (mb_ 64) 103 = .ok (.aload 5, 2))
theorem ok_X7_noteTold_105 : ok_S 64 105 (sf_push (0, 0) 106) := ok_iconst (by decide +kernel : decode (mb_ 64) 105 = .ok (.iconst 0, 1)) ⟨by decide, by decide⟩
theorem ok_X7_noteTold_106 : ok_S 64 106 (sf_ld 0 4 108) := ok_iload (by decide +kernel : decode (mb_ 64) 106 = .ok (.iload 4, 2))
theorem ok_X7_noteTold_108 : ok_S 64 108 (sf_copy 111) := ok_copy (by decide +kernel : decode (mb_ 64) 108 = .ok (.invokestatic 114, 3)) tw_377 tw_379 tw_378 tw_13
theorem ok_X7_noteTold_111 : ok_S 64 111 (sf_ld 2 0 112) := ok_aload_n (by decide +kernel : decode (mb_ 64) 111 = .ok (.aload_n 0, 1)) rfl
theorem ok_X7_noteTold_112 : ok_S 64 112 (sf_gr 10 10 0 115) := ok_gr fd_10_0 (by decide +kernel : decode (mb_ 64) 112 = .ok (.getfield 12, 3)) tw_146 (Or.inl rfl) rfl
theorem ok_X7_noteTold_115 : ok_S 64 115 (sf_ld 0 1 116) := ok_iload_n (by decide +kernel : decode (mb_ 64) 115 = .ok (.iload_n 1, 1)) rfl
theorem ok_X7_noteTold_116 : ok_S 64 116 (sf_ld 0 2 117) := ok_iload_n (by decide +kernel : decode (mb_ 64) 116 = .ok (.iload_n 2, 1)) rfl
theorem ok_X7_noteTold_117 : ok_S 64 117 (sf_ld 0 3 118) := ok_iload_n (by decide +kernel : decode (mb_ 64) 117 = .ok (.iload_n 3, 1)) rfl
theorem ok_X7_noteTold_118 : ok_S 64 118 (sf_ld 2 5 120) := ok_aload (by decide +kernel : decode (mb_ 64) 118 = .ok (.aload 5, 2))
theorem ok_X7_noteTold_120 : ok_S 64 120 (sf_cv 8 [2, 0, 0, 0, 2] 92 123) := ok_cv mt_92 cl_8 (by decide +kernel : decode (mb_ 64) 120 = .ok (.invokevirtual 120, 3)) tw_380 tw_381 tw_382 tw_3 rfl (by decide +kernel) (mh_ok rfl) (by decide) (by decide)
theorem ok_X7_noteTold_123 : ok_S 64 123 (sf_pop 124) := ok_pop (by decide +kernel : decode (mb_ 64) 123 = .ok (.pop, 1))
theorem ok_X7_noteTold_124 : ok_S 64 124 (sf_push (0, 1) 125) := ok_iconst (by decide +kernel : decode (mb_ 64) 124 = .ok (.iconst 1, 1)) ⟨by decide, by decide⟩
theorem ok_X7_noteTold_125 : ok_S 64 125 (sf_rr 0 1) := ok_rr (by decide +kernel : decode (mb_ 64) 125 = .ok (.ireturn, 1)) rfl (so_nz .boolean rfl rfl)
theorem ok_X7_noteTold (pc : Nat) : ok_S 64 pc (cd_X7_noteTold pc) :=
  (ok_bf (ok_bf (ok_bf (ok_bf (ok_bf (ok_bf (ok_bf (ok_lf pc ok_X7_noteTold_125) (ok_lf pc ok_X7_noteTold_124)) (ok_lf pc ok_X7_noteTold_123)) (ok_bf (ok_lf pc ok_X7_noteTold_120) (ok_lf pc ok_X7_noteTold_118))) (ok_bf (ok_bf (ok_lf pc ok_X7_noteTold_117) (ok_lf pc ok_X7_noteTold_116)) (ok_bf (ok_lf pc ok_X7_noteTold_115) (ok_lf pc ok_X7_noteTold_112)))) (ok_bf (ok_bf (ok_bf (ok_bf (ok_lf pc ok_X7_noteTold_111) (ok_lf pc ok_X7_noteTold_108)) (ok_lf pc ok_X7_noteTold_106)) (ok_bf (ok_lf pc ok_X7_noteTold_105) (ok_lf pc ok_X7_noteTold_103))) (ok_bf (ok_bf (ok_lf pc ok_X7_noteTold_102) (ok_lf pc ok_X7_noteTold_99)) (ok_bf (ok_lf pc ok_X7_noteTold_98) (ok_lf pc ok_X7_noteTold_96))))) (ok_bf (ok_bf (ok_bf (ok_bf (ok_bf (ok_lf pc ok_X7_noteTold_94) (ok_lf pc ok_X7_noteTold_92)) (ok_lf pc ok_X7_noteTold_91)) (ok_bf (ok_lf pc ok_X7_noteTold_90) (ok_lf pc ok_X7_noteTold_87))) (ok_bf (ok_bf (ok_lf pc ok_X7_noteTold_84) (ok_lf pc ok_X7_noteTold_82)) (ok_bf (ok_lf pc ok_X7_noteTold_81) (ok_lf pc ok_X7_noteTold_78)))) (ok_bf (ok_bf (ok_bf (ok_bf (ok_lf pc ok_X7_noteTold_77) (ok_lf pc ok_X7_noteTold_75)) (ok_lf pc ok_X7_noteTold_73)) (ok_bf (ok_lf pc ok_X7_noteTold_70) (ok_lf pc ok_X7_noteTold_69))) (ok_bf (ok_bf (ok_lf pc ok_X7_noteTold_68) (ok_lf pc ok_X7_noteTold_67)) (ok_bf (ok_lf pc ok_X7_noteTold_64) (ok_lf pc ok_X7_noteTold_61)))))) (ok_bf (ok_bf (ok_bf (ok_bf (ok_bf (ok_bf (ok_lf pc ok_X7_noteTold_59) (ok_lf pc ok_X7_noteTold_58)) (ok_lf pc ok_X7_noteTold_55)) (ok_bf (ok_lf pc ok_X7_noteTold_54) (ok_lf pc ok_X7_noteTold_53))) (ok_bf (ok_bf (ok_lf pc ok_X7_noteTold_50) (ok_lf pc ok_X7_noteTold_48)) (ok_bf (ok_lf pc ok_X7_noteTold_47) (ok_lf pc ok_X7_noteTold_46)))) (ok_bf (ok_bf (ok_bf (ok_bf (ok_lf pc ok_X7_noteTold_43) (ok_lf pc ok_X7_noteTold_42)) (ok_lf pc ok_X7_noteTold_39)) (ok_bf (ok_lf pc ok_X7_noteTold_36) (ok_lf pc ok_X7_noteTold_34))) (ok_bf (ok_bf (ok_lf pc ok_X7_noteTold_33) (ok_lf pc ok_X7_noteTold_32)) (ok_bf (ok_lf pc ok_X7_noteTold_31) (ok_lf pc ok_X7_noteTold_30))))) (ok_bf (ok_bf (ok_bf (ok_bf (ok_bf (ok_lf pc ok_X7_noteTold_29) (ok_lf pc ok_X7_noteTold_26)) (ok_lf pc ok_X7_noteTold_25)) (ok_bf (ok_lf pc ok_X7_noteTold_24) (ok_lf pc ok_X7_noteTold_21))) (ok_bf (ok_bf (ok_lf pc ok_X7_noteTold_20) (ok_lf pc ok_X7_noteTold_19)) (ok_bf (ok_lf pc ok_X7_noteTold_18) (ok_lf pc ok_X7_noteTold_15)))) (ok_bf (ok_bf (ok_bf (ok_lf pc ok_X7_noteTold_14) (ok_lf pc ok_X7_noteTold_13)) (ok_bf (ok_lf pc ok_X7_noteTold_12) (ok_lf pc ok_X7_noteTold_9))) (ok_bf (ok_bf (ok_lf pc ok_X7_noteTold_7) (ok_lf pc ok_X7_noteTold_4)) (ok_bf (ok_lf pc ok_X7_noteTold_1) (ok_lf pc ok_X7_noteTold_0)))))))
theorem mo_X7_noteTold (pc : Nat) : mo_S (cd_X7_noteTold pc) :=
  (mo_bf (mo_bf (mo_bf (mo_bf (mo_bf (mo_bf (mo_bf (mo_bf mo_rr mo_no) (mo_bf mo_push mo_no)) (mo_bf mo_pop mo_no)) (mo_bf (mo_bf mo_cv mo_no) (mo_bf mo_ld mo_no))) (mo_bf (mo_bf (mo_bf mo_ld mo_no) (mo_bf mo_ld mo_no)) (mo_bf (mo_bf mo_ld mo_no) (mo_bf mo_gr mo_no)))) (mo_bf (mo_bf (mo_bf (mo_bf (mo_bf mo_ld mo_no) (mo_bf mo_copy mo_no)) (mo_bf mo_ld mo_no)) (mo_bf (mo_bf mo_push mo_no) (mo_bf mo_ld mo_no))) (mo_bf (mo_bf (mo_bf mo_push mo_no) (mo_bf mo_gr mo_no)) (mo_bf (mo_bf mo_ld mo_no) (mo_bf mo_st mo_no))))) (mo_bf (mo_bf (mo_bf (mo_bf (mo_bf (mo_bf mo_newa mo_no) (mo_bf mo_ld mo_no)) (mo_bf mo_rr mo_no)) (mo_bf (mo_bf mo_push mo_no) (mo_bf mo_if mo_no))) (mo_bf (mo_bf (mo_bf mo_cv mo_no) (mo_bf mo_push mo_no)) (mo_bf (mo_bf mo_ld mo_no) (mo_bf mo_ic mo_no)))) (mo_bf (mo_bf (mo_bf (mo_bf (mo_bf mo_push mo_no) (mo_bf mo_ld mo_no)) (mo_bf mo_st mo_no)) (mo_bf (mo_bf mo_cv mo_no) (mo_bf mo_ld mo_no))) (mo_bf (mo_bf (mo_bf mo_rr mo_no) (mo_bf mo_push mo_no)) (mo_bf (mo_bf mo_if mo_no) (mo_bf mo_cv mo_no)))))) (mo_bf (mo_bf (mo_bf (mo_bf (mo_bf (mo_bf (mo_bf mo_push mo_no) (mo_bf mo_ld mo_no)) (mo_bf mo_if mo_no)) (mo_bf (mo_bf mo_ld mo_no) (mo_bf mo_st mo_no))) (mo_bf (mo_bf (mo_bf mo_cv mo_no) (mo_bf mo_push mo_no)) (mo_bf (mo_bf mo_push mo_no) (mo_bf mo_ld mo_no)))) (mo_bf (mo_bf (mo_bf (mo_bf (mo_bf mo_cv mo_no) (mo_bf mo_ld mo_no)) (mo_bf mo_if mo_no)) (mo_bf (mo_bf mo_cv mo_no) (mo_bf mo_push mo_no))) (mo_bf (mo_bf (mo_bf mo_ld mo_no) (mo_bf mo_st mo_no)) (mo_bf (mo_bf mo_push mo_no) (mo_bf mo_rr mo_no))))) (mo_bf (mo_bf (mo_bf (mo_bf (mo_bf (mo_bf mo_push mo_no) (mo_bf mo_if mo_no)) (mo_bf mo_ld mo_no)) (mo_bf (mo_bf mo_st mo_no) (mo_bf mo_cv mo_no))) (mo_bf (mo_bf (mo_bf mo_push mo_no) (mo_bf mo_push mo_no)) (mo_bf (mo_bf mo_ld mo_no) (mo_bf mo_cv mo_no)))) (mo_bf (mo_bf (mo_bf (mo_bf mo_ld mo_no) (mo_bf mo_rr mo_no)) (mo_bf (mo_bf mo_push mo_no) (mo_bf mo_ic mo_no))) (mo_bf (mo_bf (mo_bf mo_push mo_no) (mo_bf mo_gi mo_no)) (mo_bf (mo_bf mo_gr mo_no) (mo_bf mo_ld mo_no)))))))
theorem ok_X7_marksTold_0 : ok_S 65 0 (sf_push (0, 0) 1) := ok_iconst (by decide +kernel : decode (mb_ 65) 0 = .ok (.iconst 0, 1)) ⟨by decide, by decide⟩
theorem ok_X7_marksTold_1 : ok_S 65 1 (sf_st 0 1 2) := ok_istore_n (by decide +kernel : decode (mb_ 65) 1 = .ok (.istore_n 1, 1)) rfl
theorem ok_X7_marksTold_2 : ok_S 65 2 (sf_ld 0 1 3) := ok_iload_n (by decide +kernel : decode (mb_ 65) 2 = .ok (.iload_n 1, 1)) rfl
theorem ok_X7_marksTold_3 : ok_S 65 3 (sf_push (0, 6) 5) := ok_bipush (by decide +kernel : decode (mb_ 65) 3 = .ok (.bipush 6, 2)) ⟨by decide, by decide⟩ (by decide +kernel)
theorem ok_X7_marksTold_5 : ok_S 65 5 (sf_ic 3 51 8) := ok_ic3 (by decide +kernel : decode (mb_ 65) 5 = .ok (.if_icmp .ge 46, 3)) (by decide)
theorem ok_X7_marksTold_8 : ok_S 65 8 (sf_ld 2 0 9) := ok_aload_n (by decide +kernel : decode (mb_ 65) 8 = .ok (.aload_n 0, 1)) rfl
theorem ok_X7_marksTold_9 : ok_S 65 9 (sf_gr 10 10 2 12) := ok_gr fd_10_2 (by decide +kernel : decode (mb_ 65) 9 = .ok (.getfield 22, 3)) tw_150 (Or.inl rfl) rfl
theorem ok_X7_marksTold_12 : ok_S 65 12 (sf_ld 0 1 13) := ok_iload_n (by decide +kernel : decode (mb_ 65) 12 = .ok (.iload_n 1, 1)) rfl
theorem ok_X7_marksTold_13 : ok_S 65 13 (sf_ld 2 0 14) := ok_aload_n (by decide +kernel : decode (mb_ 65) 13 = .ok (.aload_n 0, 1)) rfl
theorem ok_X7_marksTold_14 : ok_S 65 14 (sf_push (0, 0) 15) := ok_iconst (by decide +kernel : decode (mb_ 65) 14 = .ok (.iconst 0, 1)) ⟨by decide, by decide⟩
theorem ok_X7_marksTold_15 : ok_S 65 15 (sf_push (0, 15) 17) := ok_bipush (by decide +kernel : decode (mb_ 65) 15 = .ok (.bipush 15, 2)) ⟨by decide, by decide⟩ (by decide +kernel)
theorem ok_X7_marksTold_17 : ok_S 65 17 (sf_cv 10 [2, 0, 0] 68 20) := ok_cv mt_68 cl_10 (by decide +kernel : decode (mb_ 65) 17 = .ok (.invokevirtual 103, 3)) tw_364 tw_366 ts_6 tw_5 rfl (by decide +kernel) (mh_ok rfl) (by decide) (by decide)
theorem ok_X7_marksTold_20 : ok_S 65 20 (sf_iast 21) := ok_iast (by decide +kernel : decode (mb_ 65) 20 = .ok (.iastore, 1))
theorem ok_X7_marksTold_21 : ok_S 65 21 (sf_ld 2 0 22) := ok_aload_n (by decide +kernel : decode (mb_ 65) 21 = .ok (.aload_n 0, 1)) rfl
theorem ok_X7_marksTold_22 : ok_S 65 22 (sf_gr 10 10 2 25) := ok_gr fd_10_2 (by decide +kernel : decode (mb_ 65) 22 = .ok (.getfield 22, 3)) tw_150 (Or.inl rfl) rfl
theorem ok_X7_marksTold_25 : ok_S 65 25 (sf_ld 0 1 26) := ok_iload_n (by decide +kernel : decode (mb_ 65) 25 = .ok (.iload_n 1, 1)) rfl
theorem ok_X7_marksTold_26 : ok_S 65 26 (sf_iald 27) := ok_iald (by decide +kernel : decode (mb_ 65) 26 = .ok (.iaload, 1))
theorem ok_X7_marksTold_27 : ok_S 65 27 (sf_if 3 32 30) := ok_if3 (by decide +kernel : decode (mb_ 65) 27 = .ok (.ifCond .ge 5, 3)) (by decide)
theorem ok_X7_marksTold_30 : ok_S 65 30 (sf_push (0, 0) 31) := ok_iconst (by decide +kernel : decode (mb_ 65) 30 = .ok (.iconst 0, 1)) ⟨by decide, by decide⟩
theorem ok_X7_marksTold_31 : ok_S 65 31 (sf_ret 0) := ok_ret0 (by decide +kernel : decode (mb_ 65) 31 = .ok (.ireturn, 1)) rfl
theorem ok_X7_marksTold_32 : ok_S 65 32 (sf_ld 2 0 33) := ok_aload_n (by decide +kernel : decode (mb_ 65) 32 = .ok (.aload_n 0, 1)) rfl
theorem ok_X7_marksTold_33 : ok_S 65 33 (sf_push (0, 44) 35) := ok_bipush (by decide +kernel : decode (mb_ 65) 33 = .ok (.bipush 44, 2)) ⟨by decide, by decide⟩ (by decide +kernel)
theorem ok_X7_marksTold_35 : ok_S 65 35 (sf_cv 10 [2, 0] 69 38) := ok_cv mt_69 cl_10 (by decide +kernel : decode (mb_ 65) 35 = .ok (.invokevirtual 108, 3)) tw_369 tw_371 ts_7 tw_5 rfl (by decide +kernel) (mh_ok rfl) (by decide) (by decide)
theorem ok_X7_marksTold_38 : ok_S 65 38 (sf_if 1 45 41) := ok_if1 (by decide +kernel : decode (mb_ 65) 38 = .ok (.ifCond .ne 7, 3)) (by decide)
theorem ok_X7_marksTold_41 : ok_S 65 41 (sf_ld 0 1 42) := ok_iload_n (by decide +kernel : decode (mb_ 65) 41 = .ok (.iload_n 1, 1)) rfl
theorem ok_X7_marksTold_42 : ok_S 65 42 (sf_push (0, 1) 43) := ok_iconst (by decide +kernel : decode (mb_ 65) 42 = .ok (.iconst 1, 1)) ⟨by decide, by decide⟩
theorem ok_X7_marksTold_43 : ok_S 65 43 (sf_i2 mx_add 44) := ok_iadd (by decide +kernel : decode (mb_ 65) 43 = .ok (.iadd, 1))
theorem ok_X7_marksTold_44 : ok_S 65 44 (sf_ret 0) := ok_ret0 (by decide +kernel : decode (mb_ 65) 44 = .ok (.ireturn, 1)) rfl
theorem ok_X7_marksTold_45 : ok_S 65 45 (sf_inc 1 1 48) := ok_iinc (by decide +kernel : decode (mb_ 65) 45 = .ok (.iinc 1 1, 3))
theorem ok_X7_marksTold_48 : ok_S 65 48 (sf_go 2) := ok_goto (by decide +kernel : decode (mb_ 65) 48 = .ok (.goto (-46), 3)) (by decide)
theorem ok_X7_marksTold_51 : ok_S 65 51 (sf_push (0, 0) 52) := ok_iconst (by decide +kernel : decode (mb_ 65) 51 = .ok (.iconst 0, 1)) ⟨by decide, by decide⟩
theorem ok_X7_marksTold_52 : ok_S 65 52 (sf_ret 0) := ok_ret0 (by decide +kernel : decode (mb_ 65) 52 = .ok (.ireturn, 1)) rfl
theorem ok_X7_marksTold (pc : Nat) : ok_S 65 pc (cd_X7_marksTold pc) :=
  (ok_bf (ok_bf (ok_bf (ok_bf (ok_bf (ok_lf pc ok_X7_marksTold_52) (ok_lf pc ok_X7_marksTold_51)) (ok_bf (ok_lf pc ok_X7_marksTold_48) (ok_lf pc ok_X7_marksTold_45))) (ok_bf (ok_bf (ok_lf pc ok_X7_marksTold_44) (ok_lf pc ok_X7_marksTold_43)) (ok_bf (ok_lf pc ok_X7_marksTold_42) (ok_lf pc ok_X7_marksTold_41)))) (ok_bf (ok_bf (ok_bf (ok_lf pc ok_X7_marksTold_38) (ok_lf pc ok_X7_marksTold_35)) (ok_bf (ok_lf pc ok_X7_marksTold_33) (ok_lf pc ok_X7_marksTold_32))) (ok_bf (ok_bf (ok_lf pc ok_X7_marksTold_31) (ok_lf pc ok_X7_marksTold_30)) (ok_bf (ok_lf pc ok_X7_marksTold_27) (ok_lf pc ok_X7_marksTold_26))))) (ok_bf (ok_bf (ok_bf (ok_bf (ok_lf pc ok_X7_marksTold_25) (ok_lf pc ok_X7_marksTold_22)) (ok_bf (ok_lf pc ok_X7_marksTold_21) (ok_lf pc ok_X7_marksTold_20))) (ok_bf (ok_bf (ok_lf pc ok_X7_marksTold_17) (ok_lf pc ok_X7_marksTold_15)) (ok_bf (ok_lf pc ok_X7_marksTold_14) (ok_lf pc ok_X7_marksTold_13)))) (ok_bf (ok_bf (ok_bf (ok_lf pc ok_X7_marksTold_12) (ok_lf pc ok_X7_marksTold_9)) (ok_bf (ok_lf pc ok_X7_marksTold_8) (ok_lf pc ok_X7_marksTold_5))) (ok_bf (ok_bf (ok_lf pc ok_X7_marksTold_3) (ok_lf pc ok_X7_marksTold_2)) (ok_bf (ok_lf pc ok_X7_marksTold_1) (ok_lf pc ok_X7_marksTold_0))))))
theorem mo_X7_marksTold (pc : Nat) : mo_S (cd_X7_marksTold pc) :=
  (mo_bf (mo_bf (mo_bf (mo_bf (mo_bf (mo_bf mo_ret mo_no) (mo_bf mo_push mo_no)) (mo_bf (mo_bf mo_go mo_no) (mo_bf mo_inc mo_no))) (mo_bf (mo_bf (mo_bf mo_ret mo_no) (mo_bf mo_i2 mo_no)) (mo_bf (mo_bf mo_push mo_no) (mo_bf mo_ld mo_no)))) (mo_bf (mo_bf (mo_bf (mo_bf mo_if mo_no) (mo_bf mo_cv mo_no)) (mo_bf (mo_bf mo_push mo_no) (mo_bf mo_ld mo_no))) (mo_bf (mo_bf (mo_bf mo_ret mo_no) (mo_bf mo_push mo_no)) (mo_bf (mo_bf mo_if mo_no) (mo_bf mo_iald mo_no))))) (mo_bf (mo_bf (mo_bf (mo_bf (mo_bf mo_ld mo_no) (mo_bf mo_gr mo_no)) (mo_bf (mo_bf mo_ld mo_no) (mo_bf mo_iast mo_no))) (mo_bf (mo_bf (mo_bf mo_cv mo_no) (mo_bf mo_push mo_no)) (mo_bf (mo_bf mo_push mo_no) (mo_bf mo_ld mo_no)))) (mo_bf (mo_bf (mo_bf (mo_bf mo_ld mo_no) (mo_bf mo_gr mo_no)) (mo_bf (mo_bf mo_ld mo_no) (mo_bf mo_ic mo_no))) (mo_bf (mo_bf (mo_bf mo_push mo_no) (mo_bf mo_ld mo_no)) (mo_bf (mo_bf mo_st mo_no) (mo_bf mo_push mo_no))))))
theorem ok_X7_eveningTold_0 : ok_S 66 0 (sf_ld 2 0 1) := ok_aload_n (by decide +kernel : decode (mb_ 66) 0 = .ok (.aload_n 0, 1)) rfl
theorem ok_X7_eveningTold_1 : ok_S 66 1 (sf_cv 10 [2] 71 4) := ok_cv mt_71 cl_10 (by decide +kernel : decode (mb_ 66) 1 = .ok (.invokevirtual 50, 3)) tw_280 tw_282 ts_0 tw_5 rfl (by decide +kernel) (mh_ok rfl) (by decide) (by decide)
theorem ok_X7_eveningTold_4 : ok_S 66 4 (sf_ld 2 0 5) := ok_aload_n (by decide +kernel : decode (mb_ 66) 4 = .ok (.aload_n 0, 1)) rfl
theorem ok_X7_eveningTold_5 : ok_S 66 5 (sf_push (0, 0) 6) := ok_iconst (by decide +kernel : decode (mb_ 66) 5 = .ok (.iconst 0, 1)) ⟨by decide, by decide⟩
theorem ok_X7_eveningTold_6 : ok_S 66 6 (sf_push (0, 2) 7) := ok_iconst (by decide +kernel : decode (mb_ 66) 6 = .ok (.iconst 2, 1)) ⟨by decide, by decide⟩
theorem ok_X7_eveningTold_7 : ok_S 66 7 (sf_cv 10 [2, 0, 0] 68 10) := ok_cv mt_68 cl_10 (by decide +kernel : decode (mb_ 66) 7 = .ok (.invokevirtual 103, 3)) tw_364 tw_366 ts_6 tw_5 rfl (by decide +kernel) (mh_ok rfl) (by decide) (by decide)
theorem ok_X7_eveningTold_10 : ok_S 66 10 (sf_st 0 1 11) := ok_istore_n (by decide +kernel : decode (mb_ 66) 10 = .ok (.istore_n 1, 1)) rfl
theorem ok_X7_eveningTold_11 : ok_S 66 11 (sf_ld 0 1 12) := ok_iload_n (by decide +kernel : decode (mb_ 66) 11 = .ok (.iload_n 1, 1)) rfl
theorem ok_X7_eveningTold_12 : ok_S 66 12 (sf_if 3 17 15) := ok_if3 (by decide +kernel : decode (mb_ 66) 12 = .ok (.ifCond .ge 5, 3)) (by decide)
theorem ok_X7_eveningTold_15 : ok_S 66 15 (sf_push (0, 0) 16) := ok_iconst (by decide +kernel : decode (mb_ 66) 15 = .ok (.iconst 0, 1)) ⟨by decide, by decide⟩
theorem ok_X7_eveningTold_16 : ok_S 66 16 (sf_rr 0 1) := ok_rr (by decide +kernel : decode (mb_ 66) 16 = .ok (.ireturn, 1)) rfl (so_nz .boolean rfl rfl)
theorem ok_X7_eveningTold_17 : ok_S 66 17 (sf_ld 2 0 18) := ok_aload_n (by decide +kernel : decode (mb_ 66) 17 = .ok (.aload_n 0, 1)) rfl
theorem ok_X7_eveningTold_18 : ok_S 66 18 (sf_push (0, 2) 19) := ok_iconst (by decide +kernel : decode (mb_ 66) 18 = .ok (.iconst 2, 1)) ⟨by decide, by decide⟩
theorem ok_X7_eveningTold_19 : ok_S 66 19 (sf_push (0, 16) 21) := ok_bipush (by decide +kernel : decode (mb_ 66) 19 = .ok (.bipush 16, 2)) ⟨by decide, by decide⟩ (by decide +kernel)
theorem ok_X7_eveningTold_21 : ok_S 66 21 (sf_cv 10 [2, 0, 0] 68 24) := ok_cv mt_68 cl_10 (by decide +kernel : decode (mb_ 66) 21 = .ok (.invokevirtual 103, 3)) tw_364 tw_366 ts_6 tw_5 rfl (by decide +kernel) (mh_ok rfl) (by decide) (by decide)
theorem ok_X7_eveningTold_24 : ok_S 66 24 (sf_st 0 2 25) := ok_istore_n (by decide +kernel : decode (mb_ 66) 24 = .ok (.istore_n 2, 1)) rfl
theorem ok_X7_eveningTold_25 : ok_S 66 25 (sf_ld 0 2 26) := ok_iload_n (by decide +kernel : decode (mb_ 66) 25 = .ok (.iload_n 2, 1)) rfl
theorem ok_X7_eveningTold_26 : ok_S 66 26 (sf_if 3 31 29) := ok_if3 (by decide +kernel : decode (mb_ 66) 26 = .ok (.ifCond .ge 5, 3)) (by decide)
theorem ok_X7_eveningTold_29 : ok_S 66 29 (sf_push (0, 0) 30) := ok_iconst (by decide +kernel : decode (mb_ 66) 29 = .ok (.iconst 0, 1)) ⟨by decide, by decide⟩
theorem ok_X7_eveningTold_30 : ok_S 66 30 (sf_rr 0 1) := ok_rr (by decide +kernel : decode (mb_ 66) 30 = .ok (.ireturn, 1)) rfl (so_nz .boolean rfl rfl)
theorem ok_X7_eveningTold_31 : ok_S 66 31 (sf_ld 2 0 32) := ok_aload_n (by decide +kernel : decode (mb_ 66) 31 = .ok (.aload_n 0, 1)) rfl
theorem ok_X7_eveningTold_32 : ok_S 66 32 (sf_ld 0 2 33) := ok_iload_n (by decide +kernel : decode (mb_ 66) 32 = .ok (.iload_n 2, 1)) rfl
theorem ok_X7_eveningTold_33 : ok_S 66 33 (sf_push (0, 16) 35) := ok_bipush (by decide +kernel : decode (mb_ 66) 33 = .ok (.bipush 16, 2)) ⟨by decide, by decide⟩ (by decide +kernel)
theorem ok_X7_eveningTold_35 : ok_S 66 35 (sf_cv 10 [2, 0, 0] 68 38) := ok_cv mt_68 cl_10 (by decide +kernel : decode (mb_ 66) 35 = .ok (.invokevirtual 103, 3)) tw_364 tw_366 ts_6 tw_5 rfl (by decide +kernel) (mh_ok rfl) (by decide) (by decide)
theorem ok_X7_eveningTold_38 : ok_S 66 38 (sf_st 0 3 39) := ok_istore_n (by decide +kernel : decode (mb_ 66) 38 = .ok (.istore_n 3, 1)) rfl
theorem ok_X7_eveningTold_39 : ok_S 66 39 (sf_ld 0 3 40) := ok_iload_n (by decide +kernel : decode (mb_ 66) 39 = .ok (.iload_n 3, 1)) rfl
theorem ok_X7_eveningTold_40 : ok_S 66 40 (sf_if 2 52 43) := ok_if2 (by decide +kernel : decode (mb_ 66) 40 = .ok (.ifCond .lt 12, 3)) (by decide)
theorem ok_X7_eveningTold_43 : ok_S 66 43 (sf_ld 2 0 44) := ok_aload_n (by decide +kernel : decode (mb_ 66) 43 = .ok (.aload_n 0, 1)) rfl
theorem ok_X7_eveningTold_44 : ok_S 66 44 (sf_push (0, 59) 46) := ok_bipush (by decide +kernel : decode (mb_ 66) 44 = .ok (.bipush 59, 2)) ⟨by decide, by decide⟩ (by decide +kernel)
theorem ok_X7_eveningTold_46 : ok_S 66 46 (sf_cv 10 [2, 0] 69 49) := ok_cv mt_69 cl_10 (by decide +kernel : decode (mb_ 66) 46 = .ok (.invokevirtual 108, 3)) tw_369 tw_371 ts_7 tw_5 rfl (by decide +kernel) (mh_ok rfl) (by decide) (by decide)
theorem ok_X7_eveningTold_49 : ok_S 66 49 (sf_if 1 54 52) := ok_if1 (by decide +kernel : decode (mb_ 66) 49 = .ok (.ifCond .ne 5, 3)) (by decide)
theorem ok_X7_eveningTold_52 : ok_S 66 52 (sf_push (0, 0) 53) := ok_iconst (by decide +kernel : decode (mb_ 66) 52 = .ok (.iconst 0, 1)) ⟨by decide, by decide⟩
theorem ok_X7_eveningTold_53 : ok_S 66 53 (sf_rr 0 1) := ok_rr (by decide +kernel : decode (mb_ 66) 53 = .ok (.ireturn, 1)) rfl (so_nz .boolean rfl rfl)
theorem ok_X7_eveningTold_54 : ok_S 66 54 (sf_ld 2 0 55) := ok_aload_n (by decide +kernel : decode (mb_ 66) 54 = .ok (.aload_n 0, 1)) rfl
theorem ok_X7_eveningTold_55 : ok_S 66 55 (sf_gr 10 10 0 58) := ok_gr fd_10_0 (by decide +kernel : decode (mb_ 66) 55 = .ok (.getfield 12, 3)) tw_146 (Or.inl rfl) rfl
theorem ok_X7_eveningTold_58 : ok_S 66 58 (sf_ld 0 1 59) := ok_iload_n (by decide +kernel : decode (mb_ 66) 58 = .ok (.iload_n 1, 1)) rfl
theorem ok_X7_eveningTold_59 : ok_S 66 59 (sf_ld 0 2 60) := ok_iload_n (by decide +kernel : decode (mb_ 66) 59 = .ok (.iload_n 2, 1)) rfl
theorem ok_X7_eveningTold_60 : ok_S 66 60 (sf_ld 0 3 61) := ok_iload_n (by decide +kernel : decode (mb_ 66) 60 = .ok (.iload_n 3, 1)) rfl
theorem ok_X7_eveningTold_61 : ok_S 66 61 (sf_cv 8 [2, 0, 0, 0] 88 64) := ok_cv mt_88 cl_8 (by decide +kernel : decode (mb_ 66) 61 = .ok (.invokevirtual 124, 3)) tw_494 tw_495 tw_496 tw_3 rfl (by decide +kernel) (mh_ok rfl) (by decide) (by decide)
theorem ok_X7_eveningTold_64 : ok_S 66 64 (sf_push (0, 1) 65) := ok_iconst (by decide +kernel : decode (mb_ 66) 64 = .ok (.iconst 1, 1)) ⟨by decide, by decide⟩
theorem ok_X7_eveningTold_65 : ok_S 66 65 (sf_rr 0 1) := ok_rr (by decide +kernel : decode (mb_ 66) 65 = .ok (.ireturn, 1)) rfl (so_nz .boolean rfl rfl)
theorem ok_X7_eveningTold (pc : Nat) : ok_S 66 pc (cd_X7_eveningTold pc) :=
  (ok_bf (ok_bf (ok_bf (ok_bf (ok_bf (ok_bf (ok_lf pc ok_X7_eveningTold_65) (ok_lf pc ok_X7_eveningTold_64)) (ok_lf pc ok_X7_eveningTold_61)) (ok_bf (ok_bf (ok_lf pc ok_X7_eveningTold_60) (ok_lf pc ok_X7_eveningTold_59)) (ok_lf pc ok_X7_eveningTold_58))) (ok_bf (ok_bf (ok_bf (ok_lf pc ok_X7_eveningTold_55) (ok_lf pc ok_X7_eveningTold_54)) (ok_lf pc ok_X7_eveningTold_53)) (ok_bf (ok_lf pc ok_X7_eveningTold_52) (ok_lf pc ok_X7_eveningTold_49)))) (ok_bf (ok_bf (ok_bf (ok_bf (ok_lf pc ok_X7_eveningTold_46) (ok_lf pc ok_X7_eveningTold_44)) (ok_lf pc ok_X7_eveningTold_43)) (ok_bf (ok_lf pc ok_X7_eveningTold_40) (ok_lf pc ok_X7_eveningTold_39))) (ok_bf (ok_bf (ok_bf (ok_lf pc ok_X7_eveningTold_38) (ok_lf pc ok_X7_eveningTold_35)) (ok_lf pc ok_X7_eveningTold_33)) (ok_bf (ok_lf pc ok_X7_eveningTold_32) (ok_lf pc ok_X7_eveningTold_31))))) (ok_bf (ok_bf (ok_bf (ok_bf (ok_bf (ok_lf pc ok_X7_eveningTold_30) (ok_lf pc ok_X7_eveningTold_29)) (ok_lf pc ok_X7_eveningTold_26)) (ok_bf (ok_lf pc ok_X7_eveningTold_25) (ok_lf pc ok_X7_eveningTold_24))) (ok_bf (ok_bf (ok_bf (ok_lf pc ok_X7_eveningTold_21) (ok_lf pc ok_X7_eveningTold_19)) (ok_lf pc ok_X7_eveningTold_18)) (ok_bf (ok_lf pc ok_X7_eveningTold_17) (ok_lf pc ok_X7_eveningTold_16)))) (ok_bf (ok_bf (ok_bf (ok_bf (ok_lf pc ok_X7_eveningTold_15) (ok_lf pc ok_X7_eveningTold_12)) (ok_lf pc ok_X7_eveningTold_11)) (ok_bf (ok_lf pc ok_X7_eveningTold_10) (ok_lf pc ok_X7_eveningTold_7))) (ok_bf (ok_bf (ok_bf (ok_lf pc ok_X7_eveningTold_6) (ok_lf pc ok_X7_eveningTold_5)) (ok_lf pc ok_X7_eveningTold_4)) (ok_bf (ok_lf pc ok_X7_eveningTold_1) (ok_lf pc ok_X7_eveningTold_0))))))
theorem mo_X7_eveningTold (pc : Nat) : mo_S (cd_X7_eveningTold pc) :=
  (mo_bf (mo_bf (mo_bf (mo_bf (mo_bf (mo_bf (mo_bf mo_rr mo_no) (mo_bf mo_push mo_no)) (mo_bf mo_cv mo_no)) (mo_bf (mo_bf (mo_bf mo_ld mo_no) (mo_bf mo_ld mo_no)) (mo_bf mo_ld mo_no))) (mo_bf (mo_bf (mo_bf (mo_bf mo_gr mo_no) (mo_bf mo_ld mo_no)) (mo_bf mo_rr mo_no)) (mo_bf (mo_bf mo_push mo_no) (mo_bf mo_if mo_no)))) (mo_bf (mo_bf (mo_bf (mo_bf (mo_bf mo_cv mo_no) (mo_bf mo_push mo_no)) (mo_bf mo_ld mo_no)) (mo_bf (mo_bf mo_if mo_no) (mo_bf mo_ld mo_no))) (mo_bf (mo_bf (mo_bf (mo_bf mo_st mo_no) (mo_bf mo_cv mo_no)) (mo_bf mo_push mo_no)) (mo_bf (mo_bf mo_ld mo_no) (mo_bf mo_ld mo_no))))) (mo_bf (mo_bf (mo_bf (mo_bf (mo_bf (mo_bf mo_rr mo_no) (mo_bf mo_push mo_no)) (mo_bf mo_if mo_no)) (mo_bf (mo_bf mo_ld mo_no) (mo_bf mo_st mo_no))) (mo_bf (mo_bf (mo_bf (mo_bf mo_cv mo_no) (mo_bf mo_push mo_no)) (mo_bf mo_push mo_no)) (mo_bf (mo_bf mo_ld mo_no) (mo_bf mo_rr mo_no)))) (mo_bf (mo_bf (mo_bf (mo_bf (mo_bf mo_push mo_no) (mo_bf mo_if mo_no)) (mo_bf mo_ld mo_no)) (mo_bf (mo_bf mo_st mo_no) (mo_bf mo_cv mo_no))) (mo_bf (mo_bf (mo_bf (mo_bf mo_push mo_no) (mo_bf mo_push mo_no)) (mo_bf mo_ld mo_no)) (mo_bf (mo_bf mo_cv mo_no) (mo_bf mo_ld mo_no))))))
theorem ok_X7_lineTold_0 : ok_S 67 0 (sf_ld 2 0 1) := ok_aload_n (by decide +kernel : decode (mb_ 67) 0 = .ok (.aload_n 0, 1)) rfl
theorem ok_X7_lineTold_1 : ok_S 67 1 (sf_gr 10 10 0 4) := ok_gr fd_10_0 (by decide +kernel : decode (mb_ 67) 1 = .ok (.getfield 12, 3)) tw_146 (Or.inl rfl) rfl
theorem ok_X7_lineTold_4 : ok_S 67 4 (sf_gi 8 8 4 7) := ok_gi fd_8_4 (by decide +kernel : decode (mb_ 67) 4 = .ok (.getfield 128, 3)) tw_59 (Or.inl rfl) rfl
theorem ok_X7_lineTold_7 : ok_S 67 7 (sf_push (0, 6) 9) := ok_bipush (by decide +kernel : decode (mb_ 67) 7 = .ok (.bipush 6, 2)) ⟨by decide, by decide⟩ (by decide +kernel)
theorem ok_X7_lineTold_9 : ok_S 67 9 (sf_ic 2 14 12) := ok_ic2 (by decide +kernel : decode (mb_ 67) 9 = .ok (.if_icmp .lt 5, 3)) (by decide)
theorem ok_X7_lineTold_12 : ok_S 67 12 (sf_push (0, 0) 13) := ok_iconst (by decide +kernel : decode (mb_ 67) 12 = .ok (.iconst 0, 1)) ⟨by decide, by decide⟩
theorem ok_X7_lineTold_13 : ok_S 67 13 (sf_rr 0 1) := ok_rr (by decide +kernel : decode (mb_ 67) 13 = .ok (.ireturn, 1)) rfl (so_nz .boolean rfl rfl)
theorem ok_X7_lineTold_14 : ok_S 67 14 (sf_ld 2 0 15) := ok_aload_n (by decide +kernel : decode (mb_ 67) 14 = .ok (.aload_n 0, 1)) rfl
theorem ok_X7_lineTold_15 : ok_S 67 15 (sf_cv 10 [2] 71 18) := ok_cv mt_71 cl_10 (by decide +kernel : decode (mb_ 67) 15 = .ok (.invokevirtual 50, 3)) tw_280 tw_282 ts_0 tw_5 rfl (by decide +kernel) (mh_ok rfl) (by decide) (by decide)
theorem ok_X7_lineTold_18 : ok_S 67 18 (sf_ld 2 0 19) := ok_aload_n (by decide +kernel : decode (mb_ 67) 18 = .ok (.aload_n 0, 1)) rfl
theorem ok_X7_lineTold_19 : ok_S 67 19 (sf_gr 10 10 0 22) := ok_gr fd_10_0 (by decide +kernel : decode (mb_ 67) 19 = .ok (.getfield 12, 3)) tw_146 (Or.inl rfl) rfl
theorem ok_X7_lineTold_22 : ok_S 67 22 (sf_gi 8 8 3 25) := ok_gi fd_8_3 (by decide +kernel : decode (mb_ 67) 22 = .ok (.getfield 100, 3)) tw_56 (Or.inl rfl) rfl
theorem ok_X7_lineTold_25 : ok_S 67 25 (sf_push (0, 1) 26) := ok_iconst (by decide +kernel : decode (mb_ 67) 25 = .ok (.iconst 1, 1)) ⟨by decide, by decide⟩
theorem ok_X7_lineTold_26 : ok_S 67 26 (sf_i2 mx_sub 27) := ok_isub (by decide +kernel : decode (mb_ 67) 26 = .ok (.isub, 1))
theorem ok_X7_lineTold_27 : ok_S 67 27 (sf_st 0 2 28) := ok_istore_n (by decide +kernel : decode (mb_ 67) 27 = .ok (.istore_n 2, 1)) rfl
theorem ok_X7_lineTold_28 : ok_S 67 28 (sf_ld 2 0 29) := ok_aload_n (by decide +kernel : decode (mb_ 67) 28 = .ok (.aload_n 0, 1)) rfl
theorem ok_X7_lineTold_29 : ok_S 67 29 (sf_push (0, 0) 30) := ok_iconst (by decide +kernel : decode (mb_ 67) 29 = .ok (.iconst 0, 1)) ⟨by decide, by decide⟩
theorem ok_X7_lineTold_30 : ok_S 67 30 (sf_ld 0 2 31) := ok_iload_n (by decide +kernel : decode (mb_ 67) 30 = .ok (.iload_n 2, 1)) rfl
theorem ok_X7_lineTold_31 : ok_S 67 31 (sf_cv 10 [2, 0, 0] 68 34) := ok_cv mt_68 cl_10 (by decide +kernel : decode (mb_ 67) 31 = .ok (.invokevirtual 103, 3)) tw_364 tw_366 ts_6 tw_5 rfl (by decide +kernel) (mh_ok rfl) (by decide) (by decide)
theorem ok_X7_lineTold_34 : ok_S 67 34 (sf_st 0 3 35) := ok_istore_n (by decide +kernel : decode (mb_ 67) 34 = .ok (.istore_n 3, 1)) rfl
theorem ok_X7_lineTold_35 : ok_S 67 35 (sf_ld 0 3 36) := ok_iload_n (by decide +kernel : decode (mb_ 67) 35 = .ok (.iload_n 3, 1)) rfl
theorem ok_X7_lineTold_36 : ok_S 67 36 (sf_if 3 41 39) := ok_if3 (by decide +kernel : decode (mb_ 67) 36 = .ok (.ifCond .ge 5, 3)) (by decide)
theorem ok_X7_lineTold_39 : ok_S 67 39 (sf_push (0, 0) 40) := ok_iconst (by decide +kernel : decode (mb_ 67) 39 = .ok (.iconst 0, 1)) ⟨by decide, by decide⟩
theorem ok_X7_lineTold_40 : ok_S 67 40 (sf_rr 0 1) := ok_rr (by decide +kernel : decode (mb_ 67) 40 = .ok (.ireturn, 1)) rfl (so_nz .boolean rfl rfl)
theorem ok_X7_lineTold_41 : ok_S 67 41 (sf_ld 0 1 42) := ok_iload_n (by decide +kernel : decode (mb_ 67) 41 = .ok (.iload_n 1, 1)) rfl
theorem ok_X7_lineTold_42 : ok_S 67 42 (sf_push (0, 3) 43) := ok_iconst (by decide +kernel : decode (mb_ 67) 42 = .ok (.iconst 3, 1)) ⟨by decide, by decide⟩
theorem ok_X7_lineTold_43 : ok_S 67 43 (sf_ic 1 50 46) := ok_ic1 (by decide +kernel : decode (mb_ 67) 43 = .ok (.if_icmp .ne 7, 3)) (by decide)
theorem ok_X7_lineTold_46 : ok_S 67 46 (sf_push (0, 0) 47) := ok_iconst (by decide +kernel : decode (mb_ 67) 46 = .ok (.iconst 0, 1)) ⟨by decide, by decide⟩
theorem ok_X7_lineTold_47 : ok_S 67 47 (sf_go 56) := ok_goto (by decide +kernel : decode (mb_ 67) 47 = .ok (.goto 9, 3)) (by decide)
theorem ok_X7_lineTold_50 : ok_S 67 50 (sf_ld 2 0 51) := ok_aload_n (by decide +kernel : decode (mb_ 67) 50 = .ok (.aload_n 0, 1)) rfl
theorem ok_X7_lineTold_51 : ok_S 67 51 (sf_push (0, 0) 52) := ok_iconst (by decide +kernel : decode (mb_ 67) 51 = .ok (.iconst 0, 1)) ⟨by decide, by decide⟩
theorem ok_X7_lineTold_52 : ok_S 67 52 (sf_ld 0 2 53) := ok_iload_n (by decide +kernel : decode (mb_ 67) 52 = .ok (.iload_n 2, 1)) rfl
theorem ok_X7_lineTold_53 : ok_S 67 53 (sf_cv 10 [2, 0, 0] 68 56) := ok_cv mt_68 cl_10 (by decide +kernel : decode (mb_ 67) 53 = .ok (.invokevirtual 103, 3)) tw_364 tw_366 ts_6 tw_5 rfl (by decide +kernel) (mh_ok rfl) (by decide) (by decide)
theorem ok_X7_lineTold_56 : ok_S 67 56 (sf_st 0 4 58) := ok_istore (by decide +kernel : decode (mb_ 67) 56 = .ok (.istore 4, 2))
theorem ok_X7_lineTold_58 : ok_S 67 58 (sf_ld 0 4 60) := ok_iload (by decide +kernel : decode (mb_ 67) 58 = .ok (.iload 4, 2))
theorem ok_X7_lineTold_60 : ok_S 67 60 (sf_if 3 65 63) := ok_if3 (by decide +kernel : decode (mb_ 67) 60 = .ok (.ifCond .ge 5, 3)) (by decide)
theorem ok_X7_lineTold_63 : ok_S 67 63 (sf_push (0, 0) 64) := ok_iconst (by decide +kernel : decode (mb_ 67) 63 = .ok (.iconst 0, 1)) ⟨by decide, by decide⟩
theorem ok_X7_lineTold_64 : ok_S 67 64 (sf_rr 0 1) := ok_rr (by decide +kernel : decode (mb_ 67) 64 = .ok (.ireturn, 1)) rfl (so_nz .boolean rfl rfl)
theorem ok_X7_lineTold_65 : ok_S 67 65 (sf_push (0, 0) 66) := ok_iconst (by decide +kernel : decode (mb_ 67) 65 = .ok (.iconst 0, 1)) ⟨by decide, by decide⟩
theorem ok_X7_lineTold_66 : ok_S 67 66 (sf_st 0 5 68) := ok_istore (by decide +kernel : decode (mb_ 67) 66 = .ok (.istore 5, 2))
theorem ok_X7_lineTold_68 : ok_S 67 68 (sf_ld 0 1 69) := ok_iload_n (by decide +kernel : decode (mb_ 67) 68 = .ok (.iload_n 1, 1)) rfl
theorem ok_X7_lineTold_69 : ok_S 67 69 (sf_push (0, 2) 70) := ok_iconst (by decide +kernel : decode (mb_ 67) 69 = .ok (.iconst 2, 1)) ⟨by decide, by decide⟩
theorem ok_X7_lineTold_70 : ok_S 67 70 (sf_ic 1 81 73) := ok_ic1 (by decide +kernel : decode (mb_ 67) 70 = .ok (.if_icmp .ne 11, 3)) (by decide)
theorem ok_X7_lineTold_73 : ok_S 67 73 (sf_ld 2 0 74) := ok_aload_n (by decide +kernel : decode (mb_ 67) 73 = .ok (.aload_n 0, 1)) rfl
theorem ok_X7_lineTold_74 : ok_S 67 74 (sf_push (0, 0) 75) := ok_iconst (by decide +kernel : decode (mb_ 67) 74 = .ok (.iconst 0, 1)) ⟨by decide, by decide⟩
theorem ok_X7_lineTold_75 : ok_S 67 75 (sf_ld 0 2 76) := ok_iload_n (by decide +kernel : decode (mb_ 67) 75 = .ok (.iload_n 2, 1)) rfl
theorem ok_X7_lineTold_76 : ok_S 67 76 (sf_cv 10 [2, 0, 0] 68 79) := ok_cv mt_68 cl_10 (by decide +kernel : decode (mb_ 67) 76 = .ok (.invokevirtual 103, 3)) tw_364 tw_366 ts_6 tw_5 rfl (by decide +kernel) (mh_ok rfl) (by decide) (by decide)
theorem ok_X7_lineTold_79 : ok_S 67 79 (sf_st 0 5 81) := ok_istore (by decide +kernel : decode (mb_ 67) 79 = .ok (.istore 5, 2))
theorem ok_X7_lineTold_81 : ok_S 67 81 (sf_ld 0 1 82) := ok_iload_n (by decide +kernel : decode (mb_ 67) 81 = .ok (.iload_n 1, 1)) rfl
theorem ok_X7_lineTold_82 : ok_S 67 82 (sf_push (0, 3) 83) := ok_iconst (by decide +kernel : decode (mb_ 67) 82 = .ok (.iconst 3, 1)) ⟨by decide, by decide⟩
theorem ok_X7_lineTold_83 : ok_S 67 83 (sf_ic 1 95 86) := ok_ic1 (by decide +kernel : decode (mb_ 67) 83 = .ok (.if_icmp .ne 12, 3)) (by decide)
theorem ok_X7_lineTold_86 : ok_S 67 86 (sf_ld 2 0 87) := ok_aload_n (by decide +kernel : decode (mb_ 67) 86 = .ok (.aload_n 0, 1)) rfl
theorem ok_X7_lineTold_87 : ok_S 67 87 (sf_push (0, 1) 88) := ok_iconst (by decide +kernel : decode (mb_ 67) 87 = .ok (.iconst 1, 1)) ⟨by decide, by decide⟩
theorem ok_X7_lineTold_88 : ok_S 67 88 (sf_push (0, 99) 90) := ok_bipush (by decide +kernel : decode (mb_ 67) 88 = .ok (.bipush 99, 2)) ⟨by decide, by decide⟩ (by decide +kernel)
theorem ok_X7_lineTold_90 : ok_S 67 90 (sf_cv 10 [2, 0, 0] 68 93) := ok_cv mt_68 cl_10 (by decide +kernel : decode (mb_ 67) 90 = .ok (.invokevirtual 103, 3)) tw_364 tw_366 ts_6 tw_5 rfl (by decide +kernel) (mh_ok rfl) (by decide) (by decide)
theorem ok_X7_lineTold_93 : ok_S 67 93 (sf_st 0 5 95) := ok_istore (by decide +kernel : decode (mb_ 67) 93 = .ok (.istore 5, 2))
theorem ok_X7_lineTold_95 : ok_S 67 95 (sf_ld 0 5 97) := ok_iload (by decide +kernel : decode (mb_ 67) 95 = .ok (.iload 5, 2))
theorem ok_X7_lineTold_97 : ok_S 67 97 (sf_if 2 109 100) := ok_if2 (by decide +kernel : decode (mb_ 67) 97 = .ok (.ifCond .lt 12, 3)) (by decide)
theorem ok_X7_lineTold_100 : ok_S 67 100 (sf_ld 2 0 101) := ok_aload_n (by decide +kernel : decode (mb_ 67) 100 = .ok (.aload_n 0, 1)) rfl
theorem ok_X7_lineTold_101 : ok_S 67 101 (sf_push (0, 59) 103) := ok_bipush (by decide +kernel : decode (mb_ 67) 101 = .ok (.bipush 59, 2)) ⟨by decide, by decide⟩ (by decide +kernel)
theorem ok_X7_lineTold_103 : ok_S 67 103 (sf_cv 10 [2, 0] 69 106) := ok_cv mt_69 cl_10 (by decide +kernel : decode (mb_ 67) 103 = .ok (.invokevirtual 108, 3)) tw_369 tw_371 ts_7 tw_5 rfl (by decide +kernel) (mh_ok rfl) (by decide) (by decide)
theorem ok_X7_lineTold_106 : ok_S 67 106 (sf_if 1 111 109) := ok_if1 (by decide +kernel : decode (mb_ 67) 106 = .ok (.ifCond .ne 5, 3)) (by decide)
theorem ok_X7_lineTold_109 : ok_S 67 109 (sf_push (0, 0) 110) := ok_iconst (by decide +kernel : decode (mb_ 67) 109 = .ok (.iconst 0, 1)) ⟨by decide, by decide⟩
theorem ok_X7_lineTold_110 : ok_S 67 110 (sf_rr 0 1) := ok_rr (by decide +kernel : decode (mb_ 67) 110 = .ok (.ireturn, 1)) rfl (so_nz .boolean rfl rfl)
theorem ok_X7_lineTold_111 : ok_S 67 111 (sf_ld 2 0 112) := ok_aload_n (by decide +kernel : decode (mb_ 67) 111 = .ok (.aload_n 0, 1)) rfl
theorem ok_X7_lineTold_112 : ok_S 67 112 (sf_gr 10 10 0 115) := ok_gr fd_10_0 (by decide +kernel : decode (mb_ 67) 112 = .ok (.getfield 12, 3)) tw_146 (Or.inl rfl) rfl
theorem ok_X7_lineTold_115 : ok_S 67 115 (sf_ld 0 1 116) := ok_iload_n (by decide +kernel : decode (mb_ 67) 115 = .ok (.iload_n 1, 1)) rfl
theorem ok_X7_lineTold_116 : ok_S 67 116 (sf_ld 0 3 117) := ok_iload_n (by decide +kernel : decode (mb_ 67) 116 = .ok (.iload_n 3, 1)) rfl
theorem ok_X7_lineTold_117 : ok_S 67 117 (sf_ld 0 4 119) := ok_iload (by decide +kernel : decode (mb_ 67) 117 = .ok (.iload 4, 2))
theorem ok_X7_lineTold_119 : ok_S 67 119 (sf_ld 0 5 121) := ok_iload (by decide +kernel : decode (mb_ 67) 119 = .ok (.iload 5, 2))
theorem ok_X7_lineTold_121 : ok_S 67 121 (sf_cv 8 [2, 0, 0, 0, 0] 94 124) := ok_cv mt_94 cl_8 (by decide +kernel : decode (mb_ 67) 121 = .ok (.invokevirtual 131, 3)) tw_510 tw_511 tw_512 tw_3 rfl (by decide +kernel) (mh_ok rfl) (by decide) (by decide)
theorem ok_X7_lineTold_124 : ok_S 67 124 (sf_pop 125) := ok_pop (by decide +kernel : decode (mb_ 67) 124 = .ok (.pop, 1))
theorem ok_X7_lineTold_125 : ok_S 67 125 (sf_push (0, 1) 126) := ok_iconst (by decide +kernel : decode (mb_ 67) 125 = .ok (.iconst 1, 1)) ⟨by decide, by decide⟩
theorem ok_X7_lineTold_126 : ok_S 67 126 (sf_rr 0 1) := ok_rr (by decide +kernel : decode (mb_ 67) 126 = .ok (.ireturn, 1)) rfl (so_nz .boolean rfl rfl)
theorem ok_X7_lineTold (pc : Nat) : ok_S 67 pc (cd_X7_lineTold pc) :=
  (ok_bf (ok_bf (ok_bf (ok_bf (ok_bf (ok_bf (ok_bf (ok_lf pc ok_X7_lineTold_126) (ok_lf pc ok_X7_lineTold_125)) (ok_lf pc ok_X7_lineTold_124)) (ok_bf (ok_lf pc ok_X7_lineTold_121) (ok_lf pc ok_X7_lineTold_119))) (ok_bf (ok_bf (ok_bf (ok_lf pc ok_X7_lineTold_117) (ok_lf pc ok_X7_lineTold_116)) (ok_lf pc ok_X7_lineTold_115)) (ok_bf (ok_lf pc ok_X7_lineTold_112) (ok_lf pc ok_X7_lineTold_111)))) (ok_bf (ok_bf (ok_bf (ok_bf (ok_lf pc ok_X7_lineTold_110) (ok_lf pc ok_X7_lineTold_109)) (ok_lf pc ok_X7_lineTold_106)) (ok_bf (ok_lf pc ok_X7_lineTold_103) (ok_lf pc ok_X7_lineTold_101))) (ok_bf (ok_bf (ok_lf pc ok_X7_lineTold_100) (ok_lf pc ok_X7_lineTold_97)) (ok_bf (ok_lf pc ok_X7_lineTold_95) (ok_lf pc ok_X7_lineTold_93))))) (ok_bf (ok_bf (ok_bf (ok_bf (ok_bf (ok_lf pc ok_X7_lineTold_90) (ok_lf pc ok_X7_lineTold_88)) (ok_lf pc ok_X7_lineTold_87)) (ok_bf (ok_lf pc ok_X7_lineTold_86) (ok_lf pc ok_X7_lineTold_83))) (ok_bf (ok_bf (ok_lf pc ok_X7_lineTold_82) (ok_lf pc ok_X7_lineTold_81)) (ok_bf (ok_lf pc ok_X7_lineTold_79) (ok_lf pc ok_X7_lineTold_76)))) (ok_bf (ok_bf (ok_bf (ok_bf (ok_lf pc ok_X7_lineTold_75) (ok_lf pc ok_X7_lineTold_74)) (ok_lf pc ok_X7_lineTold_73)) (ok_bf (ok_lf pc ok_X7_lineTold_70) (ok_lf pc ok_X7_lineTold_69))) (ok_bf (ok_bf (ok_lf pc ok_X7_lineTold_68) (ok_lf pc ok_X7_lineTold_66)) (ok_bf (ok_lf pc ok_X7_lineTold_65) (ok_lf pc ok_X7_lineTold_64)))))) (ok_bf (ok_bf (ok_bf (ok_bf (ok_bf (ok_bf (ok_lf pc ok_X7_lineTold_63) (ok_lf pc ok_X7_lineTold_60)) (ok_lf pc ok_X7_lineTold_58)) (ok_bf (ok_lf pc ok_X7_lineTold_56) (ok_lf pc ok_X7_lineTold_53))) (ok_bf (ok_bf (ok_bf (ok_lf pc ok_X7_lineTold_52) (ok_lf pc ok_X7_lineTold_51)) (ok_lf pc ok_X7_lineTold_50)) (ok_bf (ok_lf pc ok_X7_lineTold_47) (ok_lf pc ok_X7_lineTold_46)))) (ok_bf (ok_bf (ok_bf (ok_bf (ok_lf pc ok_X7_lineTold_43) (ok_lf pc ok_X7_lineTold_42)) (ok_lf pc ok_X7_lineTold_41)) (ok_bf (ok_lf pc ok_X7_lineTold_40) (ok_lf pc ok_X7_lineTold_39))) (ok_bf (ok_bf (ok_lf pc ok_X7_lineTold_36) (ok_lf pc ok_X7_lineTold_35)) (ok_bf (ok_lf pc ok_X7_lineTold_34) (ok_lf pc ok_X7_lineTold_31))))) (ok_bf (ok_bf (ok_bf (ok_bf (ok_bf (ok_lf pc ok_X7_lineTold_30) (ok_lf pc ok_X7_lineTold_29)) (ok_lf pc ok_X7_lineTold_28)) (ok_bf (ok_lf pc ok_X7_lineTold_27) (ok_lf pc ok_X7_lineTold_26))) (ok_bf (ok_bf (ok_lf pc ok_X7_lineTold_25) (ok_lf pc ok_X7_lineTold_22)) (ok_bf (ok_lf pc ok_X7_lineTold_19) (ok_lf pc ok_X7_lineTold_18)))) (ok_bf (ok_bf (ok_bf (ok_bf (ok_lf pc ok_X7_lineTold_15) (ok_lf pc ok_X7_lineTold_14)) (ok_lf pc ok_X7_lineTold_13)) (ok_bf (ok_lf pc ok_X7_lineTold_12) (ok_lf pc ok_X7_lineTold_9))) (ok_bf (ok_bf (ok_lf pc ok_X7_lineTold_7) (ok_lf pc ok_X7_lineTold_4)) (ok_bf (ok_lf pc ok_X7_lineTold_1) (ok_lf pc ok_X7_lineTold_0)))))))
theorem mo_X7_lineTold (pc : Nat) : mo_S (cd_X7_lineTold pc) :=
  (mo_bf (mo_bf (mo_bf (mo_bf (mo_bf (mo_bf (mo_bf (mo_bf mo_rr mo_no) (mo_bf mo_push mo_no)) (mo_bf mo_pop mo_no)) (mo_bf (mo_bf mo_cv mo_no) (mo_bf mo_ld mo_no))) (mo_bf (mo_bf (mo_bf (mo_bf mo_ld mo_no) (mo_bf mo_ld mo_no)) (mo_bf mo_ld mo_no)) (mo_bf (mo_bf mo_gr mo_no) (mo_bf mo_ld mo_no)))) (mo_bf (mo_bf (mo_bf (mo_bf (mo_bf mo_rr mo_no) (mo_bf mo_push mo_no)) (mo_bf mo_if mo_no)) (mo_bf (mo_bf mo_cv mo_no) (mo_bf mo_push mo_no))) (mo_bf (mo_bf (mo_bf mo_ld mo_no) (mo_bf mo_if mo_no)) (mo_bf (mo_bf mo_ld mo_no) (mo_bf mo_st mo_no))))) (mo_bf (mo_bf (mo_bf (mo_bf (mo_bf (mo_bf mo_cv mo_no) (mo_bf mo_push mo_no)) (mo_bf mo_push mo_no)) (mo_bf (mo_bf mo_ld mo_no) (mo_bf mo_ic mo_no))) (mo_bf (mo_bf (mo_bf mo_push mo_no) (mo_bf mo_ld mo_no)) (mo_bf (mo_bf mo_st mo_no) (mo_bf mo_cv mo_no)))) (mo_bf (mo_bf (mo_bf (mo_bf (mo_bf mo_ld mo_no) (mo_bf mo_push mo_no)) (mo_bf mo_ld mo_no)) (mo_bf (mo_bf mo_ic mo_no) (mo_bf mo_push mo_no))) (mo_bf (mo_bf (mo_bf mo_ld mo_no) (mo_bf mo_st mo_no)) (mo_bf (mo_bf mo_push mo_no) (mo_bf mo_rr mo_no)))))) (mo_bf (mo_bf (mo_bf (mo_bf (mo_bf (mo_bf (mo_bf mo_push mo_no) (mo_bf mo_if mo_no)) (mo_bf mo_ld mo_no)) (mo_bf (mo_bf mo_st mo_no) (mo_bf mo_cv mo_no))) (mo_bf (mo_bf (mo_bf (mo_bf mo_ld mo_no) (mo_bf mo_push mo_no)) (mo_bf mo_ld mo_no)) (mo_bf (mo_bf mo_go mo_no) (mo_bf mo_push mo_no)))) (mo_bf (mo_bf (mo_bf (mo_bf (mo_bf mo_ic mo_no) (mo_bf mo_push mo_no)) (mo_bf mo_ld mo_no)) (mo_bf (mo_bf mo_rr mo_no) (mo_bf mo_push mo_no))) (mo_bf (mo_bf (mo_bf mo_if mo_no) (mo_bf mo_ld mo_no)) (mo_bf (mo_bf mo_st mo_no) (mo_bf mo_cv mo_no))))) (mo_bf (mo_bf (mo_bf (mo_bf (mo_bf (mo_bf mo_ld mo_no) (mo_bf mo_push mo_no)) (mo_bf mo_ld mo_no)) (mo_bf (mo_bf mo_st mo_no) (mo_bf mo_i2 mo_no))) (mo_bf (mo_bf (mo_bf mo_push mo_no) (mo_bf mo_gi mo_no)) (mo_bf (mo_bf mo_gr mo_no) (mo_bf mo_ld mo_no)))) (mo_bf (mo_bf (mo_bf (mo_bf (mo_bf mo_cv mo_no) (mo_bf mo_ld mo_no)) (mo_bf mo_rr mo_no)) (mo_bf (mo_bf mo_push mo_no) (mo_bf mo_ic mo_no))) (mo_bf (mo_bf (mo_bf mo_push mo_no) (mo_bf mo_gi mo_no)) (mo_bf (mo_bf mo_gr mo_no) (mo_bf mo_ld mo_no)))))))
theorem ok_X7_number_0 : ok_S 68 0 (sf_ld 2 0 1) := ok_aload_n (by decide +kernel : decode (mb_ 68) 0 = .ok (.aload_n 0, 1)) rfl
theorem ok_X7_number_1 : ok_S 68 1 (sf_gi 10 10 6 4) := ok_gi fd_10_6 (by decide +kernel : decode (mb_ 68) 1 = .ok (.getfield 35, 3)) tw_154 (Or.inl rfl) rfl
theorem ok_X7_number_4 : ok_S 68 4 (sf_push (0, 2) 5) := ok_iconst (by decide +kernel : decode (mb_ 68) 4 = .ok (.iconst 2, 1)) ⟨by decide, by decide⟩
theorem ok_X7_number_5 : ok_S 68 5 (sf_ic 1 24 8) := ok_ic1 (by decide +kernel : decode (mb_ 68) 5 = .ok (.if_icmp .ne 19, 3)) (by decide)
theorem ok_X7_number_8 : ok_S 68 8 (sf_ld 2 0 9) := ok_aload_n (by decide +kernel : decode (mb_ 68) 8 = .ok (.aload_n 0, 1)) rfl
theorem ok_X7_number_9 : ok_S 68 9 (sf_gi 10 10 7 12) := ok_gi fd_10_7 (by decide +kernel : decode (mb_ 68) 9 = .ok (.getfield 38, 3)) tw_155 (Or.inl rfl) rfl
theorem ok_X7_number_12 : ok_S 68 12 (sf_ld 0 1 13) := ok_iload_n (by decide +kernel : decode (mb_ 68) 12 = .ok (.iload_n 1, 1)) rfl
theorem ok_X7_number_13 : ok_S 68 13 (sf_ic 2 24 16) := ok_ic2 (by decide +kernel : decode (mb_ 68) 13 = .ok (.if_icmp .lt 11, 3)) (by decide)
theorem ok_X7_number_16 : ok_S 68 16 (sf_ld 2 0 17) := ok_aload_n (by decide +kernel : decode (mb_ 68) 16 = .ok (.aload_n 0, 1)) rfl
theorem ok_X7_number_17 : ok_S 68 17 (sf_gi 10 10 7 20) := ok_gi fd_10_7 (by decide +kernel : decode (mb_ 68) 17 = .ok (.getfield 38, 3)) tw_155 (Or.inl rfl) rfl
theorem ok_X7_number_20 : ok_S 68 20 (sf_ld 0 2 21) := ok_iload_n (by decide +kernel : decode (mb_ 68) 20 = .ok (.iload_n 2, 1)) rfl
theorem ok_X7_number_21 : ok_S 68 21 (sf_ic 5 26 24) := ok_ic5 (by decide +kernel : decode (mb_ 68) 21 = .ok (.if_icmp .le 5, 3)) (by decide)
theorem ok_X7_number_24 : ok_S 68 24 (sf_push (0, (-1)) 25) := ok_iconst (by decide +kernel : decode (mb_ 68) 24 = .ok (.iconst (-1), 1)) ⟨by decide, by decide⟩
theorem ok_X7_number_25 : ok_S 68 25 (sf_ret 0) := ok_ret0 (by decide +kernel : decode (mb_ 68) 25 = .ok (.ireturn, 1)) rfl
theorem ok_X7_number_26 : ok_S 68 26 (sf_ld 2 0 27) := ok_aload_n (by decide +kernel : decode (mb_ 68) 26 = .ok (.aload_n 0, 1)) rfl
theorem ok_X7_number_27 : ok_S 68 27 (sf_gi 10 10 7 30) := ok_gi fd_10_7 (by decide +kernel : decode (mb_ 68) 27 = .ok (.getfield 38, 3)) tw_155 (Or.inl rfl) rfl
theorem ok_X7_number_30 : ok_S 68 30 (sf_st 0 3 31) := ok_istore_n (by decide +kernel : decode (mb_ 68) 30 = .ok (.istore_n 3, 1)) rfl
theorem ok_X7_number_31 : ok_S 68 31 (sf_ld 2 0 32) := ok_aload_n (by decide +kernel : decode (mb_ 68) 31 = .ok (.aload_n 0, 1)) rfl
theorem ok_X7_number_32 : ok_S 68 32 (sf_cv 10 [2] 71 35) := ok_cv mt_71 cl_10 (by decide +kernel : decode (mb_ 68) 32 = .ok (.invokevirtual 50, 3)) tw_280 tw_282 ts_0 tw_5 rfl (by decide +kernel) (mh_ok rfl) (by decide) (by decide)
theorem ok_X7_number_35 : ok_S 68 35 (sf_ld 0 3 36) := ok_iload_n (by decide +kernel : decode (mb_ 68) 35 = .ok (.iload_n 3, 1)) rfl
theorem ok_X7_number_36 : ok_S 68 36 (sf_ret 0) := ok_ret0 (by decide +kernel : decode (mb_ 68) 36 = .ok (.ireturn, 1)) rfl
theorem ok_X7_number (pc : Nat) : ok_S 68 pc (cd_X7_number pc) :=
  (ok_bf (ok_bf (ok_bf (ok_bf (ok_bf (ok_lf pc ok_X7_number_36) (ok_lf pc ok_X7_number_35)) (ok_lf pc ok_X7_number_32)) (ok_bf (ok_bf (ok_lf pc ok_X7_number_31) (ok_lf pc ok_X7_number_30)) (ok_lf pc ok_X7_number_27))) (ok_bf (ok_bf (ok_bf (ok_lf pc ok_X7_number_26) (ok_lf pc ok_X7_number_25)) (ok_lf pc ok_X7_number_24)) (ok_bf (ok_lf pc ok_X7_number_21) (ok_lf pc ok_X7_number_20)))) (ok_bf (ok_bf (ok_bf (ok_bf (ok_lf pc ok_X7_number_17) (ok_lf pc ok_X7_number_16)) (ok_lf pc ok_X7_number_13)) (ok_bf (ok_lf pc ok_X7_number_12) (ok_lf pc ok_X7_number_9))) (ok_bf (ok_bf (ok_bf (ok_lf pc ok_X7_number_8) (ok_lf pc ok_X7_number_5)) (ok_lf pc ok_X7_number_4)) (ok_bf (ok_lf pc ok_X7_number_1) (ok_lf pc ok_X7_number_0)))))
theorem mo_X7_number (pc : Nat) : mo_S (cd_X7_number pc) :=
  (mo_bf (mo_bf (mo_bf (mo_bf (mo_bf (mo_bf mo_ret mo_no) (mo_bf mo_ld mo_no)) (mo_bf mo_cv mo_no)) (mo_bf (mo_bf (mo_bf mo_ld mo_no) (mo_bf mo_st mo_no)) (mo_bf mo_gi mo_no))) (mo_bf (mo_bf (mo_bf (mo_bf mo_ld mo_no) (mo_bf mo_ret mo_no)) (mo_bf mo_push mo_no)) (mo_bf (mo_bf mo_ic mo_no) (mo_bf mo_ld mo_no)))) (mo_bf (mo_bf (mo_bf (mo_bf (mo_bf mo_gi mo_no) (mo_bf mo_ld mo_no)) (mo_bf mo_ic mo_no)) (mo_bf (mo_bf mo_ld mo_no) (mo_bf mo_gi mo_no))) (mo_bf (mo_bf (mo_bf (mo_bf mo_ld mo_no) (mo_bf mo_ic mo_no)) (mo_bf mo_push mo_no)) (mo_bf (mo_bf mo_gi mo_no) (mo_bf mo_ld mo_no)))))
theorem ok_X7_takes_0 : ok_S 69 0 (sf_ld 2 0 1) := ok_aload_n (by decide +kernel : decode (mb_ 69) 0 = .ok (.aload_n 0, 1)) rfl
theorem ok_X7_takes_1 : ok_S 69 1 (sf_gi 10 10 6 4) := ok_gi fd_10_6 (by decide +kernel : decode (mb_ 69) 1 = .ok (.getfield 35, 3)) tw_154 (Or.inl rfl) rfl
theorem ok_X7_takes_4 : ok_S 69 4 (sf_push (0, 3) 5) := ok_iconst (by decide +kernel : decode (mb_ 69) 4 = .ok (.iconst 3, 1)) ⟨by decide, by decide⟩
theorem ok_X7_takes_5 : ok_S 69 5 (sf_ic 1 16 8) := ok_ic1 (by decide +kernel : decode (mb_ 69) 5 = .ok (.if_icmp .ne 11, 3)) (by decide)
theorem ok_X7_takes_8 : ok_S 69 8 (sf_ld 2 0 9) := ok_aload_n (by decide +kernel : decode (mb_ 69) 8 = .ok (.aload_n 0, 1)) rfl
theorem ok_X7_takes_9 : ok_S 69 9 (sf_gi 10 10 7 12) := ok_gi fd_10_7 (by decide +kernel : decode (mb_ 69) 9 = .ok (.getfield 38, 3)) tw_155 (Or.inl rfl) rfl
theorem ok_X7_takes_12 : ok_S 69 12 (sf_ld 0 1 13) := ok_iload_n (by decide +kernel : decode (mb_ 69) 12 = .ok (.iload_n 1, 1)) rfl
theorem ok_X7_takes_13 : ok_S 69 13 (sf_ic 0 18 16) := ok_ic0 (by decide +kernel : decode (mb_ 69) 13 = .ok (.if_icmp .eq 5, 3)) (by decide)
theorem ok_X7_takes_16 : ok_S 69 16 (sf_push (0, 0) 17) := ok_iconst (by decide +kernel : decode (mb_ 69) 16 = .ok (.iconst 0, 1)) ⟨by decide, by decide⟩
theorem ok_X7_takes_17 : ok_S 69 17 (sf_rr 0 1) := ok_rr (by decide +kernel : decode (mb_ 69) 17 = .ok (.ireturn, 1)) rfl (so_nz .boolean rfl rfl)
theorem ok_X7_takes_18 : ok_S 69 18 (sf_ld 2 0 19) := ok_aload_n (by decide +kernel : decode (mb_ 69) 18 = .ok (.aload_n 0, 1)) rfl
theorem ok_X7_takes_19 : ok_S 69 19 (sf_cv 10 [2] 71 22) := ok_cv mt_71 cl_10 (by decide +kernel : decode (mb_ 69) 19 = .ok (.invokevirtual 50, 3)) tw_280 tw_282 ts_0 tw_5 rfl (by decide +kernel) (mh_ok rfl) (by decide) (by decide)
theorem ok_X7_takes_22 : ok_S 69 22 (sf_push (0, 1) 23) := ok_iconst (by decide +kernel : decode (mb_ 69) 22 = .ok (.iconst 1, 1)) ⟨by decide, by decide⟩
theorem ok_X7_takes_23 : ok_S 69 23 (sf_rr 0 1) := ok_rr (by decide +kernel : decode (mb_ 69) 23 = .ok (.ireturn, 1)) rfl (so_nz .boolean rfl rfl)
theorem ok_X7_takes (pc : Nat) : ok_S 69 pc (cd_X7_takes pc) :=
  (ok_bf (ok_bf (ok_bf (ok_bf (ok_lf pc ok_X7_takes_23) (ok_lf pc ok_X7_takes_22)) (ok_bf (ok_lf pc ok_X7_takes_19) (ok_lf pc ok_X7_takes_18))) (ok_bf (ok_bf (ok_lf pc ok_X7_takes_17) (ok_lf pc ok_X7_takes_16)) (ok_lf pc ok_X7_takes_13))) (ok_bf (ok_bf (ok_bf (ok_lf pc ok_X7_takes_12) (ok_lf pc ok_X7_takes_9)) (ok_bf (ok_lf pc ok_X7_takes_8) (ok_lf pc ok_X7_takes_5))) (ok_bf (ok_bf (ok_lf pc ok_X7_takes_4) (ok_lf pc ok_X7_takes_1)) (ok_lf pc ok_X7_takes_0))))
theorem mo_X7_takes (pc : Nat) : mo_S (cd_X7_takes pc) :=
  (mo_bf (mo_bf (mo_bf (mo_bf (mo_bf mo_rr mo_no) (mo_bf mo_push mo_no)) (mo_bf (mo_bf mo_cv mo_no) (mo_bf mo_ld mo_no))) (mo_bf (mo_bf (mo_bf mo_rr mo_no) (mo_bf mo_push mo_no)) (mo_bf mo_ic mo_no))) (mo_bf (mo_bf (mo_bf (mo_bf mo_ld mo_no) (mo_bf mo_gi mo_no)) (mo_bf (mo_bf mo_ld mo_no) (mo_bf mo_ic mo_no))) (mo_bf (mo_bf (mo_bf mo_push mo_no) (mo_bf mo_gi mo_no)) (mo_bf mo_ld mo_no))))
theorem ok_X7_isName_0 : ok_S 70 0 (sf_ld 2 0 1) := ok_aload_n (by decide +kernel : decode (mb_ 70) 0 = .ok (.aload_n 0, 1)) rfl
theorem ok_X7_isName_1 : ok_S 70 1 (sf_gi 10 10 6 4) := ok_gi fd_10_6 (by decide +kernel : decode (mb_ 70) 1 = .ok (.getfield 35, 3)) tw_154 (Or.inl rfl) rfl
theorem ok_X7_isName_4 : ok_S 70 4 (sf_push (0, 1) 5) := ok_iconst (by decide +kernel : decode (mb_ 70) 4 = .ok (.iconst 1, 1)) ⟨by decide, by decide⟩
theorem ok_X7_isName_5 : ok_S 70 5 (sf_ic 1 24 8) := ok_ic1 (by decide +kernel : decode (mb_ 70) 5 = .ok (.if_icmp .ne 19, 3)) (by decide)
theorem ok_X7_isName_8 : ok_S 70 8 (sf_ld 2 0 9) := ok_aload_n (by decide +kernel : decode (mb_ 70) 8 = .ok (.aload_n 0, 1)) rfl
theorem ok_X7_isName_9 : ok_S 70 9 (sf_gi 10 10 5 12) := ok_gi fd_10_5 (by decide +kernel : decode (mb_ 70) 9 = .ok (.getfield 32, 3)) tw_153 (Or.inl rfl) rfl
theorem ok_X7_isName_12 : ok_S 70 12 (sf_ld 2 0 13) := ok_aload_n (by decide +kernel : decode (mb_ 70) 12 = .ok (.aload_n 0, 1)) rfl
theorem ok_X7_isName_13 : ok_S 70 13 (sf_gi 10 10 1 16) := ok_gi fd_10_1 (by decide +kernel : decode (mb_ 70) 13 = .ok (.getfield 18, 3)) tw_148 (Or.inl rfl) rfl
theorem ok_X7_isName_16 : ok_S 70 16 (sf_i2 mx_sub 17) := ok_isub (by decide +kernel : decode (mb_ 70) 16 = .ok (.isub, 1))
theorem ok_X7_isName_17 : ok_S 70 17 (sf_ld 2 1 18) := ok_aload_n (by decide +kernel : decode (mb_ 70) 17 = .ok (.aload_n 1, 1)) rfl
theorem ok_X7_isName_18 : ok_S 70 18 (sf_cv 30 [2] 251 21) := ok_cvs mt_251 rfl (by decide +kernel : decode (mb_ 70) 18 = .ok (.invokevirtual 135, 3)) tw_307 tw_308 tw_309 tw_9 rfl (by decide +kernel) (mh_ok rfl) (by decide) (by decide)
theorem ok_X7_isName_21 : ok_S 70 21 (sf_ic 0 26 24) := ok_ic0 (by decide +kernel : decode (mb_ 70) 21 = .ok (.if_icmp .eq 5, 3)) (by decide)
theorem ok_X7_isName_24 : ok_S 70 24 (sf_push (0, 0) 25) := ok_iconst (by decide +kernel : decode (mb_ 70) 24 = .ok (.iconst 0, 1)) ⟨by decide, by decide⟩
theorem ok_X7_isName_25 : ok_S 70 25 (sf_rr 0 1) := ok_rr (by decide +kernel : decode (mb_ 70) 25 = .ok (.ireturn, 1)) rfl (so_nz .boolean rfl rfl)
theorem ok_X7_isName_26 : ok_S 70 26 (sf_push (0, 0) 27) := ok_iconst (by decide +kernel : decode (mb_ 70) 26 = .ok (.iconst 0, 1)) ⟨by decide, by decide⟩
theorem ok_X7_isName_27 : ok_S 70 27 (sf_st 0 2 28) := ok_istore_n (by decide +kernel : decode (mb_ 70) 27 = .ok (.istore_n 2, 1)) rfl
theorem ok_X7_isName_28 : ok_S 70 28 (sf_ld 0 2 29) := ok_iload_n (by decide +kernel : decode (mb_ 70) 28 = .ok (.iload_n 2, 1)) rfl
theorem ok_X7_isName_29 : ok_S 70 29 (sf_ld 2 1 30) := ok_aload_n (by decide +kernel : decode (mb_ 70) 29 = .ok (.aload_n 1, 1)) rfl
theorem ok_X7_isName_30 : ok_S 70 30 (sf_cv 30 [2] 251 33) := ok_cvs mt_251 rfl (by decide +kernel : decode (mb_ 70) 30 = .ok (.invokevirtual 135, 3)) tw_307 tw_308 tw_309 tw_9 rfl (by decide +kernel) (mh_ok rfl) (by decide) (by decide)
theorem ok_X7_isName_33 : ok_S 70 33 (sf_ic 3 63 36) := ok_ic3 (by decide +kernel : decode (mb_ 70) 33 = .ok (.if_icmp .ge 30, 3)) (by decide)
theorem ok_X7_isName_36 : ok_S 70 36 (sf_ld 2 0 37) := ok_aload_n (by decide +kernel : decode (mb_ 70) 36 = .ok (.aload_n 0, 1)) rfl
theorem ok_X7_isName_37 : ok_S 70 37 (sf_gr 10 10 3 40) := ok_gr fd_10_3 (by decide +kernel : decode (mb_ 70) 37 = .ok (.getfield 26, 3)) tw_151 (Or.inl rfl) rfl
theorem ok_X7_isName_40 : ok_S 70 40 (sf_ld 2 0 41) := ok_aload_n (by decide +kernel : decode (mb_ 70) 40 = .ok (.aload_n 0, 1)) rfl
theorem ok_X7_isName_41 : ok_S 70 41 (sf_gi 10 10 1 44) := ok_gi fd_10_1 (by decide +kernel : decode (mb_ 70) 41 = .ok (.getfield 18, 3)) tw_148 (Or.inl rfl) rfl
theorem ok_X7_isName_44 : ok_S 70 44 (sf_ld 0 2 45) := ok_iload_n (by decide +kernel : decode (mb_ 70) 44 = .ok (.iload_n 2, 1)) rfl
theorem ok_X7_isName_45 : ok_S 70 45 (sf_i2 mx_add 46) := ok_iadd (by decide +kernel : decode (mb_ 70) 45 = .ok (.iadd, 1))
theorem ok_X7_isName_46 : ok_S 70 46 (sf_iald 47) := ok_iald (by decide +kernel : decode (mb_ 70) 46 = .ok (.iaload, 1))
theorem ok_X7_isName_47 : ok_S 70 47 (sf_ld 2 1 48) := ok_aload_n (by decide +kernel : decode (mb_ 70) 47 = .ok (.aload_n 1, 1)) rfl
theorem ok_X7_isName_48 : ok_S 70 48 (sf_ld 0 2 49) := ok_iload_n (by decide +kernel : decode (mb_ 70) 48 = .ok (.iload_n 2, 1)) rfl
theorem ok_X7_isName_49 : ok_S 70 49 (sf_cv 30 [2, 0] 252 52) := ok_cvs mt_252 rfl (by decide +kernel : decode (mb_ 70) 49 = .ok (.invokevirtual 139, 3)) tw_317 tw_318 tw_319 tw_9 rfl (by decide +kernel) (mh_ok rfl) (by decide) (by decide)
theorem ok_X7_isName_52 : ok_S 70 52 (sf_ic 0 57 55) := ok_ic0 (by decide +kernel : decode (mb_ 70) 52 = .ok (.if_icmp .eq 5, 3)) (by decide)
theorem ok_X7_isName_55 : ok_S 70 55 (sf_push (0, 0) 56) := ok_iconst (by decide +kernel : decode (mb_ 70) 55 = .ok (.iconst 0, 1)) ⟨by decide, by decide⟩
theorem ok_X7_isName_56 : ok_S 70 56 (sf_rr 0 1) := ok_rr (by decide +kernel : decode (mb_ 70) 56 = .ok (.ireturn, 1)) rfl (so_nz .boolean rfl rfl)
theorem ok_X7_isName_57 : ok_S 70 57 (sf_inc 2 1 60) := ok_iinc (by decide +kernel : decode (mb_ 70) 57 = .ok (.iinc 2 1, 3))
theorem ok_X7_isName_60 : ok_S 70 60 (sf_go 28) := ok_goto (by decide +kernel : decode (mb_ 70) 60 = .ok (.goto (-32), 3)) (by decide)
theorem ok_X7_isName_63 : ok_S 70 63 (sf_push (0, 1) 64) := ok_iconst (by decide +kernel : decode (mb_ 70) 63 = .ok (.iconst 1, 1)) ⟨by decide, by decide⟩
theorem ok_X7_isName_64 : ok_S 70 64 (sf_rr 0 1) := ok_rr (by decide +kernel : decode (mb_ 70) 64 = .ok (.ireturn, 1)) rfl (so_nz .boolean rfl rfl)
theorem ok_X7_isName (pc : Nat) : ok_S 70 pc (cd_X7_isName pc) :=
  (ok_bf (ok_bf (ok_bf (ok_bf (ok_bf (ok_bf (ok_lf pc ok_X7_isName_64) (ok_lf pc ok_X7_isName_63)) (ok_lf pc ok_X7_isName_60)) (ok_bf (ok_lf pc ok_X7_isName_57) (ok_lf pc ok_X7_isName_56))) (ok_bf (ok_bf (ok_bf (ok_lf pc ok_X7_isName_55) (ok_lf pc ok_X7_isName_52)) (ok_lf pc ok_X7_isName_49)) (ok_bf (ok_lf pc ok_X7_isName_48) (ok_lf pc ok_X7_isName_47)))) (ok_bf (ok_bf (ok_bf (ok_bf (ok_lf pc ok_X7_isName_46) (ok_lf pc ok_X7_isName_45)) (ok_lf pc ok_X7_isName_44)) (ok_bf (ok_lf pc ok_X7_isName_41) (ok_lf pc ok_X7_isName_40))) (ok_bf (ok_bf (ok_lf pc ok_X7_isName_37) (ok_lf pc ok_X7_isName_36)) (ok_bf (ok_lf pc ok_X7_isName_33) (ok_lf pc ok_X7_isName_30))))) (ok_bf (ok_bf (ok_bf (ok_bf (ok_bf (ok_lf pc ok_X7_isName_29) (ok_lf pc ok_X7_isName_28)) (ok_lf pc ok_X7_isName_27)) (ok_bf (ok_lf pc ok_X7_isName_26) (ok_lf pc ok_X7_isName_25))) (ok_bf (ok_bf (ok_lf pc ok_X7_isName_24) (ok_lf pc ok_X7_isName_21)) (ok_bf (ok_lf pc ok_X7_isName_18) (ok_lf pc ok_X7_isName_17)))) (ok_bf (ok_bf (ok_bf (ok_bf (ok_lf pc ok_X7_isName_16) (ok_lf pc ok_X7_isName_13)) (ok_lf pc ok_X7_isName_12)) (ok_bf (ok_lf pc ok_X7_isName_9) (ok_lf pc ok_X7_isName_8))) (ok_bf (ok_bf (ok_lf pc ok_X7_isName_5) (ok_lf pc ok_X7_isName_4)) (ok_bf (ok_lf pc ok_X7_isName_1) (ok_lf pc ok_X7_isName_0))))))
theorem mo_X7_isName (pc : Nat) : mo_S (cd_X7_isName pc) :=
  (mo_bf (mo_bf (mo_bf (mo_bf (mo_bf (mo_bf (mo_bf mo_rr mo_no) (mo_bf mo_push mo_no)) (mo_bf mo_go mo_no)) (mo_bf (mo_bf mo_inc mo_no) (mo_bf mo_rr mo_no))) (mo_bf (mo_bf (mo_bf (mo_bf mo_push mo_no) (mo_bf mo_ic mo_no)) (mo_bf mo_cv mo_no)) (mo_bf (mo_bf mo_ld mo_no) (mo_bf mo_ld mo_no)))) (mo_bf (mo_bf (mo_bf (mo_bf (mo_bf mo_iald mo_no) (mo_bf mo_i2 mo_no)) (mo_bf mo_ld mo_no)) (mo_bf (mo_bf mo_gi mo_no) (mo_bf mo_ld mo_no))) (mo_bf (mo_bf (mo_bf mo_gr mo_no) (mo_bf mo_ld mo_no)) (mo_bf (mo_bf mo_ic mo_no) (mo_bf mo_cv mo_no))))) (mo_bf (mo_bf (mo_bf (mo_bf (mo_bf (mo_bf mo_ld mo_no) (mo_bf mo_ld mo_no)) (mo_bf mo_st mo_no)) (mo_bf (mo_bf mo_push mo_no) (mo_bf mo_rr mo_no))) (mo_bf (mo_bf (mo_bf mo_push mo_no) (mo_bf mo_ic mo_no)) (mo_bf (mo_bf mo_cv mo_no) (mo_bf mo_ld mo_no)))) (mo_bf (mo_bf (mo_bf (mo_bf (mo_bf mo_i2 mo_no) (mo_bf mo_gi mo_no)) (mo_bf mo_ld mo_no)) (mo_bf (mo_bf mo_gi mo_no) (mo_bf mo_ld mo_no))) (mo_bf (mo_bf (mo_bf mo_ic mo_no) (mo_bf mo_push mo_no)) (mo_bf (mo_bf mo_gi mo_no) (mo_bf mo_ld mo_no))))))
theorem ok_X7_next_0 : ok_S 71 0 (sf_ld 2 0 1) := ok_aload_n (by decide +kernel : decode (mb_ 71) 0 = .ok (.aload_n 0, 1)) rfl
theorem ok_X7_next_1 : ok_S 71 1 (sf_gi 10 10 5 4) := ok_gi fd_10_5 (by decide +kernel : decode (mb_ 71) 1 = .ok (.getfield 32, 3)) tw_153 (Or.inl rfl) rfl
theorem ok_X7_next_4 : ok_S 71 4 (sf_ld 2 0 5) := ok_aload_n (by decide +kernel : decode (mb_ 71) 4 = .ok (.aload_n 0, 1)) rfl
theorem ok_X7_next_5 : ok_S 71 5 (sf_gi 10 10 4 8) := ok_gi fd_10_4 (by decide +kernel : decode (mb_ 71) 5 = .ok (.getfield 29, 3)) tw_152 (Or.inl rfl) rfl
theorem ok_X7_next_8 : ok_S 71 8 (sf_ic 3 38 11) := ok_ic3 (by decide +kernel : decode (mb_ 71) 8 = .ok (.if_icmp .ge 30, 3)) (by decide)
theorem ok_X7_next_11 : ok_S 71 11 (sf_ld 2 0 12) := ok_aload_n (by decide +kernel : decode (mb_ 71) 11 = .ok (.aload_n 0, 1)) rfl
theorem ok_X7_next_12 : ok_S 71 12 (sf_gr 10 10 3 15) := ok_gr fd_10_3 (by decide +kernel : decode (mb_ 71) 12 = .ok (.getfield 26, 3)) tw_151 (Or.inl rfl) rfl
theorem ok_X7_next_15 : ok_S 71 15 (sf_ld 2 0 16) := ok_aload_n (by decide +kernel : decode (mb_ 71) 15 = .ok (.aload_n 0, 1)) rfl
theorem ok_X7_next_16 : ok_S 71 16 (sf_gi 10 10 5 19) := ok_gi fd_10_5 (by decide +kernel : decode (mb_ 71) 16 = .ok (.getfield 32, 3)) tw_153 (Or.inl rfl) rfl
theorem ok_X7_next_19 : ok_S 71 19 (sf_iald 20) := ok_iald (by decide +kernel : decode (mb_ 71) 19 = .ok (.iaload, 1))
theorem ok_X7_next_20 : ok_S 71 20 (sf_push (0, 32) 22) := ok_bipush (by decide +kernel : decode (mb_ 71) 20 = .ok (.bipush 32, 2)) ⟨by decide, by decide⟩ (by decide +kernel)
theorem ok_X7_next_22 : ok_S 71 22 (sf_ic 1 38 25) := ok_ic1 (by decide +kernel : decode (mb_ 71) 22 = .ok (.if_icmp .ne 16, 3)) (by decide)
theorem ok_X7_next_25 : ok_S 71 25 (sf_ld 2 0 26) := ok_aload_n (by decide +kernel : decode (mb_ 71) 25 = .ok (.aload_n 0, 1)) rfl
theorem ok_X7_next_26 : ok_S 71 26 (sf_dup 27) := ok_dup (by decide +kernel : decode (mb_ 71) 26 = .ok (.dup, 1))
theorem ok_X7_next_27 : ok_S 71 27 (sf_gi 10 10 5 30) := ok_gi fd_10_5 (by decide +kernel : decode (mb_ 71) 27 = .ok (.getfield 32, 3)) tw_153 (Or.inl rfl) rfl
theorem ok_X7_next_30 : ok_S 71 30 (sf_push (0, 1) 31) := ok_iconst (by decide +kernel : decode (mb_ 71) 30 = .ok (.iconst 1, 1)) ⟨by decide, by decide⟩
theorem ok_X7_next_31 : ok_S 71 31 (sf_i2 mx_add 32) := ok_iadd (by decide +kernel : decode (mb_ 71) 31 = .ok (.iadd, 1))
theorem ok_X7_next_32 : ok_S 71 32 (sf_pi 10 10 5 35) := ok_pi fd_10_5 (by decide +kernel : decode (mb_ 71) 32 = .ok (.putfield 32, 3)) tw_153 rfl (Or.inl ff_10_5) rfl
theorem ok_X7_next_35 : ok_S 71 35 (sf_go 0) := ok_goto (by decide +kernel : decode (mb_ 71) 35 = .ok (.goto (-35), 3)) (by decide)
theorem ok_X7_next_38 : ok_S 71 38 (sf_ld 2 0 39) := ok_aload_n (by decide +kernel : decode (mb_ 71) 38 = .ok (.aload_n 0, 1)) rfl
theorem ok_X7_next_39 : ok_S 71 39 (sf_ld 2 0 40) := ok_aload_n (by decide +kernel : decode (mb_ 71) 39 = .ok (.aload_n 0, 1)) rfl
theorem ok_X7_next_40 : ok_S 71 40 (sf_gi 10 10 5 43) := ok_gi fd_10_5 (by decide +kernel : decode (mb_ 71) 40 = .ok (.getfield 32, 3)) tw_153 (Or.inl rfl) rfl
theorem ok_X7_next_43 : ok_S 71 43 (sf_pi 10 10 1 46) := ok_pi fd_10_1 (by decide +kernel : decode (mb_ 71) 43 = .ok (.putfield 18, 3)) tw_148 rfl (Or.inl ff_10_1) rfl
theorem ok_X7_next_46 : ok_S 71 46 (sf_ld 2 0 47) := ok_aload_n (by decide +kernel : decode (mb_ 71) 46 = .ok (.aload_n 0, 1)) rfl
theorem ok_X7_next_47 : ok_S 71 47 (sf_push (0, (-1)) 48) := ok_iconst (by decide +kernel : decode (mb_ 71) 47 = .ok (.iconst (-1), 1)) ⟨by decide, by decide⟩
theorem ok_X7_next_48 : ok_S 71 48 (sf_pi 10 10 7 51) := ok_pi fd_10_7 (by decide +kernel : decode (mb_ 71) 48 = .ok (.putfield 38, 3)) tw_155 rfl (Or.inl ff_10_7) rfl
theorem ok_X7_next_51 : ok_S 71 51 (sf_ld 2 0 52) := ok_aload_n (by decide +kernel : decode (mb_ 71) 51 = .ok (.aload_n 0, 1)) rfl
theorem ok_X7_next_52 : ok_S 71 52 (sf_gi 10 10 5 55) := ok_gi fd_10_5 (by decide +kernel : decode (mb_ 71) 52 = .ok (.getfield 32, 3)) tw_153 (Or.inl rfl) rfl
theorem ok_X7_next_55 : ok_S 71 55 (sf_ld 2 0 56) := ok_aload_n (by decide +kernel : decode (mb_ 71) 55 = .ok (.aload_n 0, 1)) rfl
theorem ok_X7_next_56 : ok_S 71 56 (sf_gi 10 10 4 59) := ok_gi fd_10_4 (by decide +kernel : decode (mb_ 71) 56 = .ok (.getfield 29, 3)) tw_152 (Or.inl rfl) rfl
theorem ok_X7_next_59 : ok_S 71 59 (sf_ic 2 70 62) := ok_ic2 (by decide +kernel : decode (mb_ 71) 59 = .ok (.if_icmp .lt 11, 3)) (by decide)
theorem ok_X7_next_62 : ok_S 71 62 (sf_ld 2 0 63) := ok_aload_n (by decide +kernel : decode (mb_ 71) 62 = .ok (.aload_n 0, 1)) rfl
theorem ok_X7_next_63 : ok_S 71 63 (sf_push (0, 0) 64) := ok_iconst (by decide +kernel : decode (mb_ 71) 63 = .ok (.iconst 0, 1)) ⟨by decide, by decide⟩
theorem ok_X7_next_64 : ok_S 71 64 (sf_pi 10 10 6 67) := ok_pi fd_10_6 (by decide +kernel : decode (mb_ 71) 64 = .ok (.putfield 35, 3)) tw_154 rfl (Or.inl ff_10_6) rfl
theorem ok_X7_next_67 : ok_S 71 67 (sf_go 240) := ok_goto (by decide +kernel : decode (mb_ 71) 67 = .ok (.goto 173, 3)) (by decide)
theorem ok_X7_next_70 : ok_S 71 70 (sf_ld 2 0 71) := ok_aload_n (by decide +kernel : decode (mb_ 71) 70 = .ok (.aload_n 0, 1)) rfl
theorem ok_X7_next_71 : ok_S 71 71 (sf_gr 10 10 3 74) := ok_gr fd_10_3 (by decide +kernel : decode (mb_ 71) 71 = .ok (.getfield 26, 3)) tw_151 (Or.inl rfl) rfl
theorem ok_X7_next_74 : ok_S 71 74 (sf_ld 2 0 75) := ok_aload_n (by decide +kernel : decode (mb_ 71) 74 = .ok (.aload_n 0, 1)) rfl
theorem ok_X7_next_75 : ok_S 71 75 (sf_gi 10 10 5 78) := ok_gi fd_10_5 (by decide +kernel : decode (mb_ 71) 75 = .ok (.getfield 32, 3)) tw_153 (Or.inl rfl) rfl
theorem ok_X7_next_78 : ok_S 71 78 (sf_iald 79) := ok_iald (by decide +kernel : decode (mb_ 71) 78 = .ok (.iaload, 1))
theorem ok_X7_next_79 : ok_S 71 79 (sf_cs [0] 73 82) := ok_cs mt_73 (by decide +kernel : decode (mb_ 71) 79 = .ok (.invokestatic 143, 3)) tw_284 tw_285 tw_5 (by decide +kernel) (mh_ok rfl) (by decide) (by decide)
theorem ok_X7_next_82 : ok_S 71 82 (sf_if 0 129 85) := ok_if0 (by decide +kernel : decode (mb_ 71) 82 = .ok (.ifCond .eq 47, 3)) (by decide)
theorem ok_X7_next_85 : ok_S 71 85 (sf_ld 2 0 86) := ok_aload_n (by decide +kernel : decode (mb_ 71) 85 = .ok (.aload_n 0, 1)) rfl
theorem ok_X7_next_86 : ok_S 71 86 (sf_push (0, 1) 87) := ok_iconst (by decide +kernel : decode (mb_ 71) 86 = .ok (.iconst 1, 1)) ⟨by decide, by decide⟩
theorem ok_X7_next_87 : ok_S 71 87 (sf_pi 10 10 6 90) := ok_pi fd_10_6 (by decide +kernel : decode (mb_ 71) 87 = .ok (.putfield 35, 3)) tw_154 rfl (Or.inl ff_10_6) rfl
theorem ok_X7_next_90 : ok_S 71 90 (sf_ld 2 0 91) := ok_aload_n (by decide +kernel : decode (mb_ 71) 90 = .ok (.aload_n 0, 1)) rfl
theorem ok_X7_next_91 : ok_S 71 91 (sf_gi 10 10 5 94) := ok_gi fd_10_5 (by decide +kernel : decode (mb_ 71) 91 = .ok (.getfield 32, 3)) tw_153 (Or.inl rfl) rfl
theorem ok_X7_next_94 : ok_S 71 94 (sf_ld 2 0 95) := ok_aload_n (by decide +kernel : decode (mb_ 71) 94 = .ok (.aload_n 0, 1)) rfl
theorem ok_X7_next_95 : ok_S 71 95 (sf_gi 10 10 4 98) := ok_gi fd_10_4 (by decide +kernel : decode (mb_ 71) 95 = .ok (.getfield 29, 3)) tw_152 (Or.inl rfl) rfl
theorem ok_X7_next_98 : ok_S 71 98 (sf_ic 3 240 101) := ok_ic3 (by decide +kernel : decode (mb_ 71) 98 = .ok (.if_icmp .ge 142, 3)) (by decide)
theorem ok_X7_next_101 : ok_S 71 101 (sf_ld 2 0 102) := ok_aload_n (by decide +kernel : decode (mb_ 71) 101 = .ok (.aload_n 0, 1)) rfl
theorem ok_X7_next_102 : ok_S 71 102 (sf_gr 10 10 3 105) := ok_gr fd_10_3 (by decide +kernel : decode (mb_ 71) 102 = .ok (.getfield 26, 3)) tw_151 (Or.inl rfl) rfl
theorem ok_X7_next_105 : ok_S 71 105 (sf_ld 2 0 106) := ok_aload_n (by decide +kernel : decode (mb_ 71) 105 = .ok (.aload_n 0, 1)) rfl
theorem ok_X7_next_106 : ok_S 71 106 (sf_gi 10 10 5 109) := ok_gi fd_10_5 (by decide +kernel : decode (mb_ 71) 106 = .ok (.getfield 32, 3)) tw_153 (Or.inl rfl) rfl
theorem ok_X7_next_109 : ok_S 71 109 (sf_iald 110) := ok_iald (by decide +kernel : decode (mb_ 71) 109 = .ok (.iaload, 1))
theorem ok_X7_next_110 : ok_S 71 110 (sf_cs [0] 73 113) := ok_cs mt_73 (by decide +kernel : decode (mb_ 71) 110 = .ok (.invokestatic 143, 3)) tw_284 tw_285 tw_5 (by decide +kernel) (mh_ok rfl) (by decide) (by decide)
theorem ok_X7_next_113 : ok_S 71 113 (sf_if 0 240 116) := ok_if0 (by decide +kernel : decode (mb_ 71) 113 = .ok (.ifCond .eq 127, 3)) (by decide)
theorem ok_X7_next_116 : ok_S 71 116 (sf_ld 2 0 117) := ok_aload_n (by decide +kernel : decode (mb_ 71) 116 = .ok (.aload_n 0, 1)) rfl
theorem ok_X7_next_117 : ok_S 71 117 (sf_dup 118) := ok_dup (by decide +kernel : decode (mb_ 71) 117 = .ok (.dup, 1))
theorem ok_X7_next_118 : ok_S 71 118 (sf_gi 10 10 5 121) := ok_gi fd_10_5 (by decide +kernel : decode (mb_ 71) 118 = .ok (.getfield 32, 3)) tw_153 (Or.inl rfl) rfl
theorem ok_X7_next_121 : ok_S 71 121 (sf_push (0, 1) 122) := ok_iconst (by decide +kernel : decode (mb_ 71) 121 = .ok (.iconst 1, 1)) ⟨by decide, by decide⟩
theorem ok_X7_next_122 : ok_S 71 122 (sf_i2 mx_add 123) := ok_iadd (by decide +kernel : decode (mb_ 71) 122 = .ok (.iadd, 1))
theorem ok_X7_next_123 : ok_S 71 123 (sf_pi 10 10 5 126) := ok_pi fd_10_5 (by decide +kernel : decode (mb_ 71) 123 = .ok (.putfield 32, 3)) tw_153 rfl (Or.inl ff_10_5) rfl
theorem ok_X7_next_126 : ok_S 71 126 (sf_go 90) := ok_goto (by decide +kernel : decode (mb_ 71) 126 = .ok (.goto (-36), 3)) (by decide)
theorem ok_X7_next_129 : ok_S 71 129 (sf_ld 2 0 130) := ok_aload_n (by decide +kernel : decode (mb_ 71) 129 = .ok (.aload_n 0, 1)) rfl
theorem ok_X7_next_130 : ok_S 71 130 (sf_gr 10 10 3 133) := ok_gr fd_10_3 (by decide +kernel : decode (mb_ 71) 130 = .ok (.getfield 26, 3)) tw_151 (Or.inl rfl) rfl
theorem ok_X7_next_133 : ok_S 71 133 (sf_ld 2 0 134) := ok_aload_n (by decide +kernel : decode (mb_ 71) 133 = .ok (.aload_n 0, 1)) rfl
theorem ok_X7_next_134 : ok_S 71 134 (sf_gi 10 10 5 137) := ok_gi fd_10_5 (by decide +kernel : decode (mb_ 71) 134 = .ok (.getfield 32, 3)) tw_153 (Or.inl rfl) rfl
theorem ok_X7_next_137 : ok_S 71 137 (sf_iald 138) := ok_iald (by decide +kernel : decode (mb_ 71) 137 = .ok (.iaload, 1))
theorem ok_X7_next_138 : ok_S 71 138 (sf_cs [0] 74 141) := ok_cs mt_74 (by decide +kernel : decode (mb_ 71) 138 = .ok (.invokestatic 146, 3)) tw_287 tw_288 tw_5 (by decide +kernel) (mh_ok rfl) (by decide) (by decide)
theorem ok_X7_next_141 : ok_S 71 141 (sf_if 0 212 144) := ok_if0 (by decide +kernel : decode (mb_ 71) 141 = .ok (.ifCond .eq 71, 3)) (by decide)
theorem ok_X7_next_144 : ok_S 71 144 (sf_ld 2 0 145) := ok_aload_n (by decide +kernel : decode (mb_ 71) 144 = .ok (.aload_n 0, 1)) rfl
theorem ok_X7_next_145 : ok_S 71 145 (sf_push (0, 2) 146) := ok_iconst (by decide +kernel : decode (mb_ 71) 145 = .ok (.iconst 2, 1)) ⟨by decide, by decide⟩
theorem ok_X7_next_146 : ok_S 71 146 (sf_pi 10 10 6 149) := ok_pi fd_10_6 (by decide +kernel : decode (mb_ 71) 146 = .ok (.putfield 35, 3)) tw_154 rfl (Or.inl ff_10_6) rfl
theorem ok_X7_next_149 : ok_S 71 149 (sf_ld 2 0 150) := ok_aload_n (by decide +kernel : decode (mb_ 71) 149 = .ok (.aload_n 0, 1)) rfl
theorem ok_X7_next_150 : ok_S 71 150 (sf_gi 10 10 5 153) := ok_gi fd_10_5 (by decide +kernel : decode (mb_ 71) 150 = .ok (.getfield 32, 3)) tw_153 (Or.inl rfl) rfl
theorem ok_X7_next_153 : ok_S 71 153 (sf_ld 2 0 154) := ok_aload_n (by decide +kernel : decode (mb_ 71) 153 = .ok (.aload_n 0, 1)) rfl
theorem ok_X7_next_154 : ok_S 71 154 (sf_gi 10 10 4 157) := ok_gi fd_10_4 (by decide +kernel : decode (mb_ 71) 154 = .ok (.getfield 29, 3)) tw_152 (Or.inl rfl) rfl
theorem ok_X7_next_157 : ok_S 71 157 (sf_ic 3 188 160) := ok_ic3 (by decide +kernel : decode (mb_ 71) 157 = .ok (.if_icmp .ge 31, 3)) (by decide)
theorem ok_X7_next_160 : ok_S 71 160 (sf_ld 2 0 161) := ok_aload_n (by decide +kernel : decode (mb_ 71) 160 = .ok (.aload_n 0, 1)) rfl
theorem ok_X7_next_161 : ok_S 71 161 (sf_gr 10 10 3 164) := ok_gr fd_10_3 (by decide +kernel : decode (mb_ 71) 161 = .ok (.getfield 26, 3)) tw_151 (Or.inl rfl) rfl
theorem ok_X7_next_164 : ok_S 71 164 (sf_ld 2 0 165) := ok_aload_n (by decide +kernel : decode (mb_ 71) 164 = .ok (.aload_n 0, 1)) rfl
theorem ok_X7_next_165 : ok_S 71 165 (sf_gi 10 10 5 168) := ok_gi fd_10_5 (by decide +kernel : decode (mb_ 71) 165 = .ok (.getfield 32, 3)) tw_153 (Or.inl rfl) rfl
theorem ok_X7_next_168 : ok_S 71 168 (sf_iald 169) := ok_iald (by decide +kernel : decode (mb_ 71) 168 = .ok (.iaload, 1))
theorem ok_X7_next_169 : ok_S 71 169 (sf_cs [0] 74 172) := ok_cs mt_74 (by decide +kernel : decode (mb_ 71) 169 = .ok (.invokestatic 146, 3)) tw_287 tw_288 tw_5 (by decide +kernel) (mh_ok rfl) (by decide) (by decide)
theorem ok_X7_next_172 : ok_S 71 172 (sf_if 0 188 175) := ok_if0 (by decide +kernel : decode (mb_ 71) 172 = .ok (.ifCond .eq 16, 3)) (by decide)
theorem ok_X7_next_175 : ok_S 71 175 (sf_ld 2 0 176) := ok_aload_n (by decide +kernel : decode (mb_ 71) 175 = .ok (.aload_n 0, 1)) rfl
theorem ok_X7_next_176 : ok_S 71 176 (sf_dup 177) := ok_dup (by decide +kernel : decode (mb_ 71) 176 = .ok (.dup, 1))
theorem ok_X7_next_177 : ok_S 71 177 (sf_gi 10 10 5 180) := ok_gi fd_10_5 (by decide +kernel : decode (mb_ 71) 177 = .ok (.getfield 32, 3)) tw_153 (Or.inl rfl) rfl
theorem ok_X7_next_180 : ok_S 71 180 (sf_push (0, 1) 181) := ok_iconst (by decide +kernel : decode (mb_ 71) 180 = .ok (.iconst 1, 1)) ⟨by decide, by decide⟩
theorem ok_X7_next_181 : ok_S 71 181 (sf_i2 mx_add 182) := ok_iadd (by decide +kernel : decode (mb_ 71) 181 = .ok (.iadd, 1))
theorem ok_X7_next_182 : ok_S 71 182 (sf_pi 10 10 5 185) := ok_pi fd_10_5 (by decide +kernel : decode (mb_ 71) 182 = .ok (.putfield 32, 3)) tw_153 rfl (Or.inl ff_10_5) rfl
theorem ok_X7_next_185 : ok_S 71 185 (sf_go 149) := ok_goto (by decide +kernel : decode (mb_ 71) 185 = .ok (.goto (-36), 3)) (by decide)
theorem ok_X7_next_188 : ok_S 71 188 (sf_ld 2 0 189) := ok_aload_n (by decide +kernel : decode (mb_ 71) 188 = .ok (.aload_n 0, 1)) rfl
theorem ok_X7_next_189 : ok_S 71 189 (sf_gi 10 10 5 192) := ok_gi fd_10_5 (by decide +kernel : decode (mb_ 71) 189 = .ok (.getfield 32, 3)) tw_153 (Or.inl rfl) rfl
theorem ok_X7_next_192 : ok_S 71 192 (sf_ld 2 0 193) := ok_aload_n (by decide +kernel : decode (mb_ 71) 192 = .ok (.aload_n 0, 1)) rfl
theorem ok_X7_next_193 : ok_S 71 193 (sf_gi 10 10 1 196) := ok_gi fd_10_1 (by decide +kernel : decode (mb_ 71) 193 = .ok (.getfield 18, 3)) tw_148 (Or.inl rfl) rfl
theorem ok_X7_next_196 : ok_S 71 196 (sf_i2 mx_sub 197) := ok_isub (by decide +kernel : decode (mb_ 71) 196 = .ok (.isub, 1))
theorem ok_X7_next_197 : ok_S 71 197 (sf_push (0, 2) 198) := ok_iconst (by decide +kernel : decode (mb_ 71) 197 = .ok (.iconst 2, 1)) ⟨by decide, by decide⟩
theorem ok_X7_next_198 : ok_S 71 198 (sf_ic 4 240 201) := ok_ic4 (by decide +kernel : decode (mb_ 71) 198 = .ok (.if_icmp .gt 42, 3)) (by decide)
theorem ok_X7_next_201 : ok_S 71 201 (sf_ld 2 0 202) := ok_aload_n (by decide +kernel : decode (mb_ 71) 201 = .ok (.aload_n 0, 1)) rfl
theorem ok_X7_next_202 : ok_S 71 202 (sf_ld 2 0 203) := ok_aload_n (by decide +kernel : decode (mb_ 71) 202 = .ok (.aload_n 0, 1)) rfl
theorem ok_X7_next_203 : ok_S 71 203 (sf_cv 10 [2] 72 206) := ok_cv mt_72 cl_10 (by decide +kernel : decode (mb_ 71) 203 = .ok (.invokevirtual 149, 3)) tw_290 tw_292 ts_1 tw_5 rfl (by decide +kernel) (mh_ok rfl) (by decide) (by decide)
theorem ok_X7_next_206 : ok_S 71 206 (sf_pi 10 10 7 209) := ok_pi fd_10_7 (by decide +kernel : decode (mb_ 71) 206 = .ok (.putfield 38, 3)) tw_155 rfl (Or.inl ff_10_7) rfl
theorem ok_X7_next_209 : ok_S 71 209 (sf_go 240) := ok_goto (by decide +kernel : decode (mb_ 71) 209 = .ok (.goto 31, 3)) (by decide)
theorem ok_X7_next_212 : ok_S 71 212 (sf_ld 2 0 213) := ok_aload_n (by decide +kernel : decode (mb_ 71) 212 = .ok (.aload_n 0, 1)) rfl
theorem ok_X7_next_213 : ok_S 71 213 (sf_push (0, 3) 214) := ok_iconst (by decide +kernel : decode (mb_ 71) 213 = .ok (.iconst 3, 1)) ⟨by decide, by decide⟩
theorem ok_X7_next_214 : ok_S 71 214 (sf_pi 10 10 6 217) := ok_pi fd_10_6 (by decide +kernel : decode (mb_ 71) 214 = .ok (.putfield 35, 3)) tw_154 rfl (Or.inl ff_10_6) rfl
theorem ok_X7_next_217 : ok_S 71 217 (sf_ld 2 0 218) := ok_aload_n (by decide +kernel : decode (mb_ 71) 217 = .ok (.aload_n 0, 1)) rfl
theorem ok_X7_next_218 : ok_S 71 218 (sf_ld 2 0 219) := ok_aload_n (by decide +kernel : decode (mb_ 71) 218 = .ok (.aload_n 0, 1)) rfl
theorem ok_X7_next_219 : ok_S 71 219 (sf_gr 10 10 3 222) := ok_gr fd_10_3 (by decide +kernel : decode (mb_ 71) 219 = .ok (.getfield 26, 3)) tw_151 (Or.inl rfl) rfl
theorem ok_X7_next_222 : ok_S 71 222 (sf_ld 2 0 223) := ok_aload_n (by decide +kernel : decode (mb_ 71) 222 = .ok (.aload_n 0, 1)) rfl
theorem ok_X7_next_223 : ok_S 71 223 (sf_gi 10 10 5 226) := ok_gi fd_10_5 (by decide +kernel : decode (mb_ 71) 223 = .ok (.getfield 32, 3)) tw_153 (Or.inl rfl) rfl
theorem ok_X7_next_226 : ok_S 71 226 (sf_iald 227) := ok_iald (by decide +kernel : decode (mb_ 71) 226 = .ok (.iaload, 1))
theorem ok_X7_next_227 : ok_S 71 227 (sf_pi 10 10 7 230) := ok_pi fd_10_7 (by decide +kernel : decode (mb_ 71) 227 = .ok (.putfield 38, 3)) tw_155 rfl (Or.inl ff_10_7) rfl
theorem ok_X7_next_230 : ok_S 71 230 (sf_ld 2 0 231) := ok_aload_n (by decide +kernel : decode (mb_ 71) 230 = .ok (.aload_n 0, 1)) rfl
theorem ok_X7_next_231 : ok_S 71 231 (sf_dup 232) := ok_dup (by decide +kernel : decode (mb_ 71) 231 = .ok (.dup, 1))
theorem ok_X7_next_232 : ok_S 71 232 (sf_gi 10 10 5 235) := ok_gi fd_10_5 (by decide +kernel : decode (mb_ 71) 232 = .ok (.getfield 32, 3)) tw_153 (Or.inl rfl) rfl
theorem ok_X7_next_235 : ok_S 71 235 (sf_push (0, 1) 236) := ok_iconst (by decide +kernel : decode (mb_ 71) 235 = .ok (.iconst 1, 1)) ⟨by decide, by decide⟩
theorem ok_X7_next_236 : ok_S 71 236 (sf_i2 mx_add 237) := ok_iadd (by decide +kernel : decode (mb_ 71) 236 = .ok (.iadd, 1))
theorem ok_X7_next_237 : ok_S 71 237 (sf_pi 10 10 5 240) := ok_pi fd_10_5 (by decide +kernel : decode (mb_ 71) 237 = .ok (.putfield 32, 3)) tw_153 rfl (Or.inl ff_10_5) rfl
theorem ok_X7_next_240 : ok_S 71 240 (sf_retv) := ok_retv (by decide +kernel : decode (mb_ 71) 240 = .ok (.return_, 1)) rfl
theorem ok_X7_next (pc : Nat) : ok_S 71 pc (cd_X7_next pc) :=
  (ok_bf (ok_bf (ok_bf (ok_bf (ok_bf (ok_bf (ok_bf (ok_lf pc ok_X7_next_240) (ok_lf pc ok_X7_next_237)) (ok_bf (ok_lf pc ok_X7_next_236) (ok_lf pc ok_X7_next_235))) (ok_bf (ok_bf (ok_lf pc ok_X7_next_232) (ok_lf pc ok_X7_next_231)) (ok_bf (ok_lf pc ok_X7_next_230) (ok_lf pc ok_X7_next_227)))) (ok_bf (ok_bf (ok_bf (ok_lf pc ok_X7_next_226) (ok_lf pc ok_X7_next_223)) (ok_bf (ok_lf pc ok_X7_next_222) (ok_lf pc ok_X7_next_219))) (ok_bf (ok_bf (ok_lf pc ok_X7_next_218) (ok_lf pc ok_X7_next_217)) (ok_bf (ok_lf pc ok_X7_next_214) (ok_lf pc ok_X7_next_213))))) (ok_bf (ok_bf (ok_bf (ok_bf (ok_lf pc ok_X7_next_212) (ok_lf pc ok_X7_next_209)) (ok_bf (ok_lf pc ok_X7_next_206) (ok_lf pc ok_X7_next_203))) (ok_bf (ok_bf (ok_lf pc ok_X7_next_202) (ok_lf pc ok_X7_next_201)) (ok_bf (ok_lf pc ok_X7_next_198) (ok_lf pc ok_X7_next_197)))) (ok_bf (ok_bf (ok_bf (ok_lf pc ok_X7_next_196) (ok_lf pc ok_X7_next_193)) (ok_bf (ok_lf pc ok_X7_next_192) (ok_lf pc ok_X7_next_189))) (ok_bf (ok_bf (ok_lf pc ok_X7_next_188) (ok_lf pc ok_X7_next_185)) (ok_lf pc ok_X7_next_182))))) (ok_bf (ok_bf (ok_bf (ok_bf (ok_bf (ok_lf pc ok_X7_next_181) (ok_lf pc ok_X7_next_180)) (ok_bf (ok_lf pc ok_X7_next_177) (ok_lf pc ok_X7_next_176))) (ok_bf (ok_bf (ok_lf pc ok_X7_next_175) (ok_lf pc ok_X7_next_172)) (ok_bf (ok_lf pc ok_X7_next_169) (ok_lf pc ok_X7_next_168)))) (ok_bf (ok_bf (ok_bf (ok_lf pc ok_X7_next_165) (ok_lf pc ok_X7_next_164)) (ok_bf (ok_lf pc ok_X7_next_161) (ok_lf pc ok_X7_next_160))) (ok_bf (ok_bf (ok_lf pc ok_X7_next_157) (ok_lf pc ok_X7_next_154)) (ok_lf pc ok_X7_next_153)))) (ok_bf (ok_bf (ok_bf (ok_bf (ok_lf pc ok_X7_next_150) (ok_lf pc ok_X7_next_149)) (ok_bf (ok_lf pc ok_X7_next_146) (ok_lf pc ok_X7_next_145))) (ok_bf (ok_bf (ok_lf pc ok_X7_next_144) (ok_lf pc ok_X7_next_141)) (ok_bf (ok_lf pc ok_X7_next_138) (ok_lf pc ok_X7_next_137)))) (ok_bf (ok_bf (ok_bf (ok_lf pc ok_X7_next_134) (ok_lf pc ok_X7_next_133)) (ok_bf (ok_lf pc ok_X7_next_130) (ok_lf pc ok_X7_next_129))) (ok_bf (ok_bf (ok_lf pc ok_X7_next_126) (ok_lf pc ok_X7_next_123)) (ok_lf pc ok_X7_next_122)))))) (ok_bf (ok_bf (ok_bf (ok_bf (ok_bf (ok_bf (ok_lf pc ok_X7_next_121) (ok_lf pc ok_X7_next_118)) (ok_bf (ok_lf pc ok_X7_next_117) (ok_lf pc ok_X7_next_116))) (ok_bf (ok_bf (ok_lf pc ok_X7_next_113) (ok_lf pc ok_X7_next_110)) (ok_bf (ok_lf pc ok_X7_next_109) (ok_lf pc ok_X7_next_106)))) (ok_bf (ok_bf (ok_bf (ok_lf pc ok_X7_next_105) (ok_lf pc ok_X7_next_102)) (ok_bf (ok_lf pc ok_X7_next_101) (ok_lf pc ok_X7_next_98))) (ok_bf (ok_bf (ok_lf pc ok_X7_next_95) (ok_lf pc ok_X7_next_94)) (ok_bf (ok_lf pc ok_X7_next_91) (ok_lf pc ok_X7_next_90))))) (ok_bf (ok_bf (ok_bf (ok_bf (ok_lf pc ok_X7_next_87) (ok_lf pc ok_X7_next_86)) (ok_bf (ok_lf pc ok_X7_next_85) (ok_lf pc ok_X7_next_82))) (ok_bf (ok_bf (ok_lf pc ok_X7_next_79) (ok_lf pc ok_X7_next_78)) (ok_bf (ok_lf pc ok_X7_next_75) (ok_lf pc ok_X7_next_74)))) (ok_bf (ok_bf (ok_bf (ok_lf pc ok_X7_next_71) (ok_lf pc ok_X7_next_70)) (ok_bf (ok_lf pc ok_X7_next_67) (ok_lf pc ok_X7_next_64))) (ok_bf (ok_bf (ok_lf pc ok_X7_next_63) (ok_lf pc ok_X7_next_62)) (ok_lf pc ok_X7_next_59))))) (ok_bf (ok_bf (ok_bf (ok_bf (ok_bf (ok_lf pc ok_X7_next_56) (ok_lf pc ok_X7_next_55)) (ok_bf (ok_lf pc ok_X7_next_52) (ok_lf pc ok_X7_next_51))) (ok_bf (ok_bf (ok_lf pc ok_X7_next_48) (ok_lf pc ok_X7_next_47)) (ok_bf (ok_lf pc ok_X7_next_46) (ok_lf pc ok_X7_next_43)))) (ok_bf (ok_bf (ok_bf (ok_lf pc ok_X7_next_40) (ok_lf pc ok_X7_next_39)) (ok_bf (ok_lf pc ok_X7_next_38) (ok_lf pc ok_X7_next_35))) (ok_bf (ok_bf (ok_lf pc ok_X7_next_32) (ok_lf pc ok_X7_next_31)) (ok_lf pc ok_X7_next_30)))) (ok_bf (ok_bf (ok_bf (ok_bf (ok_lf pc ok_X7_next_27) (ok_lf pc ok_X7_next_26)) (ok_bf (ok_lf pc ok_X7_next_25) (ok_lf pc ok_X7_next_22))) (ok_bf (ok_bf (ok_lf pc ok_X7_next_20) (ok_lf pc ok_X7_next_19)) (ok_bf (ok_lf pc ok_X7_next_16) (ok_lf pc ok_X7_next_15)))) (ok_bf (ok_bf (ok_bf (ok_lf pc ok_X7_next_12) (ok_lf pc ok_X7_next_11)) (ok_bf (ok_lf pc ok_X7_next_8) (ok_lf pc ok_X7_next_5))) (ok_bf (ok_bf (ok_lf pc ok_X7_next_4) (ok_lf pc ok_X7_next_1)) (ok_lf pc ok_X7_next_0)))))))
theorem mo_X7_next (pc : Nat) : mo_S (cd_X7_next pc) :=
  (mo_bf (mo_bf (mo_bf (mo_bf (mo_bf (mo_bf (mo_bf (mo_bf mo_retv mo_no) (mo_bf mo_pi mo_no)) (mo_bf (mo_bf mo_i2 mo_no) (mo_bf mo_push mo_no))) (mo_bf (mo_bf (mo_bf mo_gi mo_no) (mo_bf mo_dup mo_no)) (mo_bf (mo_bf mo_ld mo_no) (mo_bf mo_pi mo_no)))) (mo_bf (mo_bf (mo_bf (mo_bf mo_iald mo_no) (mo_bf mo_gi mo_no)) (mo_bf (mo_bf mo_ld mo_no) (mo_bf mo_gr mo_no))) (mo_bf (mo_bf (mo_bf mo_ld mo_no) (mo_bf mo_ld mo_no)) (mo_bf (mo_bf mo_pi mo_no) (mo_bf mo_push mo_no))))) (mo_bf (mo_bf (mo_bf (mo_bf (mo_bf mo_ld mo_no) (mo_bf mo_go mo_no)) (mo_bf (mo_bf mo_pi mo_no) (mo_bf mo_cv mo_no))) (mo_bf (mo_bf (mo_bf mo_ld mo_no) (mo_bf mo_ld mo_no)) (mo_bf (mo_bf mo_ic mo_no) (mo_bf mo_push mo_no)))) (mo_bf (mo_bf (mo_bf (mo_bf mo_i2 mo_no) (mo_bf mo_gi mo_no)) (mo_bf (mo_bf mo_ld mo_no) (mo_bf mo_gi mo_no))) (mo_bf (mo_bf (mo_bf mo_ld mo_no) (mo_bf mo_go mo_no)) (mo_bf mo_pi mo_no))))) (mo_bf (mo_bf (mo_bf (mo_bf (mo_bf (mo_bf mo_i2 mo_no) (mo_bf mo_push mo_no)) (mo_bf (mo_bf mo_gi mo_no) (mo_bf mo_dup mo_no))) (mo_bf (mo_bf (mo_bf mo_ld mo_no) (mo_bf mo_if mo_no)) (mo_bf (mo_bf mo_cs mo_no) (mo_bf mo_iald mo_no)))) (mo_bf (mo_bf (mo_bf (mo_bf mo_gi mo_no) (mo_bf mo_ld mo_no)) (mo_bf (mo_bf mo_gr mo_no) (mo_bf mo_ld mo_no))) (mo_bf (mo_bf (mo_bf mo_ic mo_no) (mo_bf mo_gi mo_no)) (mo_bf mo_ld mo_no)))) (mo_bf (mo_bf (mo_bf (mo_bf (mo_bf mo_gi mo_no) (mo_bf mo_ld mo_no)) (mo_bf (mo_bf mo_pi mo_no) (mo_bf mo_push mo_no))) (mo_bf (mo_bf (mo_bf mo_ld mo_no) (mo_bf mo_if mo_no)) (mo_bf (mo_bf mo_cs mo_no) (mo_bf mo_iald mo_no)))) (mo_bf (mo_bf (mo_bf (mo_bf mo_gi mo_no) (mo_bf mo_ld mo_no)) (mo_bf (mo_bf mo_gr mo_no) (mo_bf mo_ld mo_no))) (mo_bf (mo_bf (mo_bf mo_go mo_no) (mo_bf mo_pi mo_no)) (mo_bf mo_i2 mo_no)))))) (mo_bf (mo_bf (mo_bf (mo_bf (mo_bf (mo_bf (mo_bf mo_push mo_no) (mo_bf mo_gi mo_no)) (mo_bf (mo_bf mo_dup mo_no) (mo_bf mo_ld mo_no))) (mo_bf (mo_bf (mo_bf mo_if mo_no) (mo_bf mo_cs mo_no)) (mo_bf (mo_bf mo_iald mo_no) (mo_bf mo_gi mo_no)))) (mo_bf (mo_bf (mo_bf (mo_bf mo_ld mo_no) (mo_bf mo_gr mo_no)) (mo_bf (mo_bf mo_ld mo_no) (mo_bf mo_ic mo_no))) (mo_bf (mo_bf (mo_bf mo_gi mo_no) (mo_bf mo_ld mo_no)) (mo_bf (mo_bf mo_gi mo_no) (mo_bf mo_ld mo_no))))) (mo_bf (mo_bf (mo_bf (mo_bf (mo_bf mo_pi mo_no) (mo_bf mo_push mo_no)) (mo_bf (mo_bf mo_ld mo_no) (mo_bf mo_if mo_no))) (mo_bf (mo_bf (mo_bf mo_cs mo_no) (mo_bf mo_iald mo_no)) (mo_bf (mo_bf mo_gi mo_no) (mo_bf mo_ld mo_no)))) (mo_bf (mo_bf (mo_bf (mo_bf mo_gr mo_no) (mo_bf mo_ld mo_no)) (mo_bf (mo_bf mo_go mo_no) (mo_bf mo_pi mo_no))) (mo_bf (mo_bf (mo_bf mo_push mo_no) (mo_bf mo_ld mo_no)) (mo_bf mo_ic mo_no))))) (mo_bf (mo_bf (mo_bf (mo_bf (mo_bf (mo_bf mo_gi mo_no) (mo_bf mo_ld mo_no)) (mo_bf (mo_bf mo_gi mo_no) (mo_bf mo_ld mo_no))) (mo_bf (mo_bf (mo_bf mo_pi mo_no) (mo_bf mo_push mo_no)) (mo_bf (mo_bf mo_ld mo_no) (mo_bf mo_pi mo_no)))) (mo_bf (mo_bf (mo_bf (mo_bf mo_gi mo_no) (mo_bf mo_ld mo_no)) (mo_bf (mo_bf mo_ld mo_no) (mo_bf mo_go mo_no))) (mo_bf (mo_bf (mo_bf mo_pi mo_no) (mo_bf mo_i2 mo_no)) (mo_bf mo_push mo_no)))) (mo_bf (mo_bf (mo_bf (mo_bf (mo_bf mo_gi mo_no) (mo_bf mo_dup mo_no)) (mo_bf (mo_bf mo_ld mo_no) (mo_bf mo_ic mo_no))) (mo_bf (mo_bf (mo_bf mo_push mo_no) (mo_bf mo_iald mo_no)) (mo_bf (mo_bf mo_gi mo_no) (mo_bf mo_ld mo_no)))) (mo_bf (mo_bf (mo_bf (mo_bf mo_gr mo_no) (mo_bf mo_ld mo_no)) (mo_bf (mo_bf mo_ic mo_no) (mo_bf mo_gi mo_no))) (mo_bf (mo_bf (mo_bf mo_ld mo_no) (mo_bf mo_gi mo_no)) (mo_bf mo_ld mo_no)))))))
theorem ok_X7_digitsWorth_0 : ok_S 72 0 (sf_push (0, 0) 1) := ok_iconst (by decide +kernel : decode (mb_ 72) 0 = .ok (.iconst 0, 1)) ⟨by decide, by decide⟩
theorem ok_X7_digitsWorth_1 : ok_S 72 1 (sf_st 0 1 2) := ok_istore_n (by decide +kernel : decode (mb_ 72) 1 = .ok (.istore_n 1, 1)) rfl
theorem ok_X7_digitsWorth_2 : ok_S 72 2 (sf_ld 2 0 3) := ok_aload_n (by decide +kernel : decode (mb_ 72) 2 = .ok (.aload_n 0, 1)) rfl
theorem ok_X7_digitsWorth_3 : ok_S 72 3 (sf_gi 10 10 1 6) := ok_gi fd_10_1 (by decide +kernel : decode (mb_ 72) 3 = .ok (.getfield 18, 3)) tw_148 (Or.inl rfl) rfl
theorem ok_X7_digitsWorth_6 : ok_S 72 6 (sf_st 0 2 7) := ok_istore_n (by decide +kernel : decode (mb_ 72) 6 = .ok (.istore_n 2, 1)) rfl
theorem ok_X7_digitsWorth_7 : ok_S 72 7 (sf_ld 0 2 8) := ok_iload_n (by decide +kernel : decode (mb_ 72) 7 = .ok (.iload_n 2, 1)) rfl
theorem ok_X7_digitsWorth_8 : ok_S 72 8 (sf_ld 2 0 9) := ok_aload_n (by decide +kernel : decode (mb_ 72) 8 = .ok (.aload_n 0, 1)) rfl
theorem ok_X7_digitsWorth_9 : ok_S 72 9 (sf_gi 10 10 5 12) := ok_gi fd_10_5 (by decide +kernel : decode (mb_ 72) 9 = .ok (.getfield 32, 3)) tw_153 (Or.inl rfl) rfl
theorem ok_X7_digitsWorth_12 : ok_S 72 12 (sf_ic 3 36 15) := ok_ic3 (by decide +kernel : decode (mb_ 72) 12 = .ok (.if_icmp .ge 24, 3)) (by decide)
theorem ok_X7_digitsWorth_15 : ok_S 72 15 (sf_ld 0 1 16) := ok_iload_n (by decide +kernel : decode (mb_ 72) 15 = .ok (.iload_n 1, 1)) rfl
theorem ok_X7_digitsWorth_16 : ok_S 72 16 (sf_push (0, 10) 18) := ok_bipush (by decide +kernel : decode (mb_ 72) 16 = .ok (.bipush 10, 2)) ⟨by decide, by decide⟩ (by decide +kernel)
theorem ok_X7_digitsWorth_18 : ok_S 72 18 (sf_i2 mx_mul 19) := ok_imul (by decide +kernel : decode (mb_ 72) 18 = .ok (.imul, 1))
theorem ok_X7_digitsWorth_19 : ok_S 72 19 (sf_ld 2 0 20) := ok_aload_n (by decide +kernel : decode (mb_ 72) 19 = .ok (.aload_n 0, 1)) rfl
theorem ok_X7_digitsWorth_20 : ok_S 72 20 (sf_gr 10 10 3 23) := ok_gr fd_10_3 (by decide +kernel : decode (mb_ 72) 20 = .ok (.getfield 26, 3)) tw_151 (Or.inl rfl) rfl
theorem ok_X7_digitsWorth_23 : ok_S 72 23 (sf_ld 0 2 24) := ok_iload_n (by decide +kernel : decode (mb_ 72) 23 = .ok (.iload_n 2, 1)) rfl
theorem ok_X7_digitsWorth_24 : ok_S 72 24 (sf_iald 25) := ok_iald (by decide +kernel : decode (mb_ 72) 24 = .ok (.iaload, 1))
theorem ok_X7_digitsWorth_25 : ok_S 72 25 (sf_i2 mx_add 26) := ok_iadd (by decide +kernel : decode (mb_ 72) 25 = .ok (.iadd, 1))
theorem ok_X7_digitsWorth_26 : ok_S 72 26 (sf_push (0, 48) 28) := ok_bipush (by decide +kernel : decode (mb_ 72) 26 = .ok (.bipush 48, 2)) ⟨by decide, by decide⟩ (by decide +kernel)
theorem ok_X7_digitsWorth_28 : ok_S 72 28 (sf_i2 mx_sub 29) := ok_isub (by decide +kernel : decode (mb_ 72) 28 = .ok (.isub, 1))
theorem ok_X7_digitsWorth_29 : ok_S 72 29 (sf_st 0 1 30) := ok_istore_n (by decide +kernel : decode (mb_ 72) 29 = .ok (.istore_n 1, 1)) rfl
theorem ok_X7_digitsWorth_30 : ok_S 72 30 (sf_inc 2 1 33) := ok_iinc (by decide +kernel : decode (mb_ 72) 30 = .ok (.iinc 2 1, 3))
theorem ok_X7_digitsWorth_33 : ok_S 72 33 (sf_go 7) := ok_goto (by decide +kernel : decode (mb_ 72) 33 = .ok (.goto (-26), 3)) (by decide)
theorem ok_X7_digitsWorth_36 : ok_S 72 36 (sf_ld 0 1 37) := ok_iload_n (by decide +kernel : decode (mb_ 72) 36 = .ok (.iload_n 1, 1)) rfl
theorem ok_X7_digitsWorth_37 : ok_S 72 37 (sf_ret 0) := ok_ret0 (by decide +kernel : decode (mb_ 72) 37 = .ok (.ireturn, 1)) rfl
theorem ok_X7_digitsWorth (pc : Nat) : ok_S 72 pc (cd_X7_digitsWorth pc) :=
  (ok_bf (ok_bf (ok_bf (ok_bf (ok_bf (ok_lf pc ok_X7_digitsWorth_37) (ok_lf pc ok_X7_digitsWorth_36)) (ok_lf pc ok_X7_digitsWorth_33)) (ok_bf (ok_bf (ok_lf pc ok_X7_digitsWorth_30) (ok_lf pc ok_X7_digitsWorth_29)) (ok_lf pc ok_X7_digitsWorth_28))) (ok_bf (ok_bf (ok_bf (ok_lf pc ok_X7_digitsWorth_26) (ok_lf pc ok_X7_digitsWorth_25)) (ok_lf pc ok_X7_digitsWorth_24)) (ok_bf (ok_bf (ok_lf pc ok_X7_digitsWorth_23) (ok_lf pc ok_X7_digitsWorth_20)) (ok_lf pc ok_X7_digitsWorth_19)))) (ok_bf (ok_bf (ok_bf (ok_bf (ok_lf pc ok_X7_digitsWorth_18) (ok_lf pc ok_X7_digitsWorth_16)) (ok_lf pc ok_X7_digitsWorth_15)) (ok_bf (ok_bf (ok_lf pc ok_X7_digitsWorth_12) (ok_lf pc ok_X7_digitsWorth_9)) (ok_lf pc ok_X7_digitsWorth_8))) (ok_bf (ok_bf (ok_bf (ok_lf pc ok_X7_digitsWorth_7) (ok_lf pc ok_X7_digitsWorth_6)) (ok_lf pc ok_X7_digitsWorth_3)) (ok_bf (ok_bf (ok_lf pc ok_X7_digitsWorth_2) (ok_lf pc ok_X7_digitsWorth_1)) (ok_lf pc ok_X7_digitsWorth_0)))))
theorem mo_X7_digitsWorth (pc : Nat) : mo_S (cd_X7_digitsWorth pc) :=
  (mo_bf (mo_bf (mo_bf (mo_bf (mo_bf (mo_bf mo_ret mo_no) (mo_bf mo_ld mo_no)) (mo_bf mo_go mo_no)) (mo_bf (mo_bf (mo_bf mo_inc mo_no) (mo_bf mo_st mo_no)) (mo_bf mo_i2 mo_no))) (mo_bf (mo_bf (mo_bf (mo_bf mo_push mo_no) (mo_bf mo_i2 mo_no)) (mo_bf mo_iald mo_no)) (mo_bf (mo_bf (mo_bf mo_ld mo_no) (mo_bf mo_gr mo_no)) (mo_bf mo_ld mo_no)))) (mo_bf (mo_bf (mo_bf (mo_bf (mo_bf mo_i2 mo_no) (mo_bf mo_push mo_no)) (mo_bf mo_ld mo_no)) (mo_bf (mo_bf (mo_bf mo_ic mo_no) (mo_bf mo_gi mo_no)) (mo_bf mo_ld mo_no))) (mo_bf (mo_bf (mo_bf (mo_bf mo_ld mo_no) (mo_bf mo_st mo_no)) (mo_bf mo_gi mo_no)) (mo_bf (mo_bf (mo_bf mo_ld mo_no) (mo_bf mo_st mo_no)) (mo_bf mo_push mo_no)))))
theorem ok_X7_isLetter_0 : ok_S 73 0 (sf_ld 0 0 1) := ok_iload_n (by decide +kernel : decode (mb_ 73) 0 = .ok (.iload_n 0, 1)) rfl
theorem ok_X7_isLetter_1 : ok_S 73 1 (sf_push (0, 97) 3) := ok_bipush (by decide +kernel : decode (mb_ 73) 1 = .ok (.bipush 97, 2)) ⟨by decide, by decide⟩ (by decide +kernel)
theorem ok_X7_isLetter_3 : ok_S 73 3 (sf_ic 2 16 6) := ok_ic2 (by decide +kernel : decode (mb_ 73) 3 = .ok (.if_icmp .lt 13, 3)) (by decide)
theorem ok_X7_isLetter_6 : ok_S 73 6 (sf_ld 0 0 7) := ok_iload_n (by decide +kernel : decode (mb_ 73) 6 = .ok (.iload_n 0, 1)) rfl
theorem ok_X7_isLetter_7 : ok_S 73 7 (sf_push (0, 122) 9) := ok_bipush (by decide +kernel : decode (mb_ 73) 7 = .ok (.bipush 122, 2)) ⟨by decide, by decide⟩ (by decide +kernel)
theorem ok_X7_isLetter_9 : ok_S 73 9 (sf_ic 4 16 12) := ok_ic4 (by decide +kernel : decode (mb_ 73) 9 = .ok (.if_icmp .gt 7, 3)) (by decide)
theorem ok_X7_isLetter_12 : ok_S 73 12 (sf_push (0, 1) 13) := ok_iconst (by decide +kernel : decode (mb_ 73) 12 = .ok (.iconst 1, 1)) ⟨by decide, by decide⟩
theorem ok_X7_isLetter_13 : ok_S 73 13 (sf_go 17) := ok_goto (by decide +kernel : decode (mb_ 73) 13 = .ok (.goto 4, 3)) (by decide)
theorem ok_X7_isLetter_16 : ok_S 73 16 (sf_push (0, 0) 17) := ok_iconst (by decide +kernel : decode (mb_ 73) 16 = .ok (.iconst 0, 1)) ⟨by decide, by decide⟩
theorem ok_X7_isLetter_17 : ok_S 73 17 (sf_rr 0 1) := ok_rr (by decide +kernel : decode (mb_ 73) 17 = .ok (.ireturn, 1)) rfl (so_nz .boolean rfl rfl)
theorem ok_X7_isLetter (pc : Nat) : ok_S 73 pc (cd_X7_isLetter pc) :=
  (ok_bf (ok_bf (ok_bf (ok_bf (ok_lf pc ok_X7_isLetter_17) (ok_lf pc ok_X7_isLetter_16)) (ok_lf pc ok_X7_isLetter_13)) (ok_bf (ok_lf pc ok_X7_isLetter_12) (ok_lf pc ok_X7_isLetter_9))) (ok_bf (ok_bf (ok_bf (ok_lf pc ok_X7_isLetter_7) (ok_lf pc ok_X7_isLetter_6)) (ok_lf pc ok_X7_isLetter_3)) (ok_bf (ok_lf pc ok_X7_isLetter_1) (ok_lf pc ok_X7_isLetter_0))))
theorem mo_X7_isLetter (pc : Nat) : mo_S (cd_X7_isLetter pc) :=
  (mo_bf (mo_bf (mo_bf (mo_bf (mo_bf mo_rr mo_no) (mo_bf mo_push mo_no)) (mo_bf mo_go mo_no)) (mo_bf (mo_bf mo_push mo_no) (mo_bf mo_ic mo_no))) (mo_bf (mo_bf (mo_bf (mo_bf mo_push mo_no) (mo_bf mo_ld mo_no)) (mo_bf mo_ic mo_no)) (mo_bf (mo_bf mo_push mo_no) (mo_bf mo_ld mo_no))))
theorem ok_X7_isDigit_0 : ok_S 74 0 (sf_ld 0 0 1) := ok_iload_n (by decide +kernel : decode (mb_ 74) 0 = .ok (.iload_n 0, 1)) rfl
theorem ok_X7_isDigit_1 : ok_S 74 1 (sf_push (0, 48) 3) := ok_bipush (by decide +kernel : decode (mb_ 74) 1 = .ok (.bipush 48, 2)) ⟨by decide, by decide⟩ (by decide +kernel)
theorem ok_X7_isDigit_3 : ok_S 74 3 (sf_ic 2 16 6) := ok_ic2 (by decide +kernel : decode (mb_ 74) 3 = .ok (.if_icmp .lt 13, 3)) (by decide)
theorem ok_X7_isDigit_6 : ok_S 74 6 (sf_ld 0 0 7) := ok_iload_n (by decide +kernel : decode (mb_ 74) 6 = .ok (.iload_n 0, 1)) rfl
theorem ok_X7_isDigit_7 : ok_S 74 7 (sf_push (0, 57) 9) := ok_bipush (by decide +kernel : decode (mb_ 74) 7 = .ok (.bipush 57, 2)) ⟨by decide, by decide⟩ (by decide +kernel)
theorem ok_X7_isDigit_9 : ok_S 74 9 (sf_ic 4 16 12) := ok_ic4 (by decide +kernel : decode (mb_ 74) 9 = .ok (.if_icmp .gt 7, 3)) (by decide)
theorem ok_X7_isDigit_12 : ok_S 74 12 (sf_push (0, 1) 13) := ok_iconst (by decide +kernel : decode (mb_ 74) 12 = .ok (.iconst 1, 1)) ⟨by decide, by decide⟩
theorem ok_X7_isDigit_13 : ok_S 74 13 (sf_go 17) := ok_goto (by decide +kernel : decode (mb_ 74) 13 = .ok (.goto 4, 3)) (by decide)
theorem ok_X7_isDigit_16 : ok_S 74 16 (sf_push (0, 0) 17) := ok_iconst (by decide +kernel : decode (mb_ 74) 16 = .ok (.iconst 0, 1)) ⟨by decide, by decide⟩
theorem ok_X7_isDigit_17 : ok_S 74 17 (sf_rr 0 1) := ok_rr (by decide +kernel : decode (mb_ 74) 17 = .ok (.ireturn, 1)) rfl (so_nz .boolean rfl rfl)
theorem ok_X7_isDigit (pc : Nat) : ok_S 74 pc (cd_X7_isDigit pc) :=
  (ok_bf (ok_bf (ok_bf (ok_bf (ok_lf pc ok_X7_isDigit_17) (ok_lf pc ok_X7_isDigit_16)) (ok_lf pc ok_X7_isDigit_13)) (ok_bf (ok_lf pc ok_X7_isDigit_12) (ok_lf pc ok_X7_isDigit_9))) (ok_bf (ok_bf (ok_bf (ok_lf pc ok_X7_isDigit_7) (ok_lf pc ok_X7_isDigit_6)) (ok_lf pc ok_X7_isDigit_3)) (ok_bf (ok_lf pc ok_X7_isDigit_1) (ok_lf pc ok_X7_isDigit_0))))
theorem mo_X7_isDigit (pc : Nat) : mo_S (cd_X7_isDigit pc) :=
  (mo_bf (mo_bf (mo_bf (mo_bf (mo_bf mo_rr mo_no) (mo_bf mo_push mo_no)) (mo_bf mo_go mo_no)) (mo_bf (mo_bf mo_push mo_no) (mo_bf mo_ic mo_no))) (mo_bf (mo_bf (mo_bf (mo_bf mo_push mo_no) (mo_bf mo_ld mo_no)) (mo_bf mo_ic mo_no)) (mo_bf (mo_bf mo_push mo_no) (mo_bf mo_ld mo_no))))
theorem ok_X10_init_0 : ok_S 85 0 (sf_ld 2 0 1) := ok_aload_n (by decide +kernel : decode (mb_ 85) 0 = .ok (.aload_n 0, 1)) rfl
theorem ok_X10_init_1 : ok_S 85 1 (sf_oini 4) := ok_oini (by decide +kernel : decode (mb_ 85) 1 = .ok (.invokespecial 3, 3)) tw_41 tw_28 tw_29
theorem ok_X10_init_4 : ok_S 85 4 (sf_ld 2 0 5) := ok_aload_n (by decide +kernel : decode (mb_ 85) 4 = .ok (.aload_n 0, 1)) rfl
theorem ok_X10_init_5 : ok_S 85 5 (sf_push (0, 3) 6) := ok_iconst (by decide +kernel : decode (mb_ 85) 5 = .ok (.iconst 3, 1)) ⟨by decide, by decide⟩
theorem ok_X10_init_6 : ok_S 85 6 (sf_newa 20 8) := ok_newa rfl (Or.inl ⟨rfl, rfl⟩) (by decide +kernel : decode (mb_ 85) 6 = .ok (.newarray .int, 2)) tw_81
theorem ok_X10_init_8 : ok_S 85 8 (sf_pr 8 8 0 11) := ok_pr fd_8_0 (by decide +kernel : decode (mb_ 85) 8 = .ok (.putfield 9, 3)) tw_47 rfl (Or.inr ⟨ff_8_0, rfl, rfl⟩) rfl (by decide +kernel : parseFieldDescriptor "[I" = some (.array .int)) (Or.inr ⟨_, rfl⟩)
theorem ok_X10_init_11 : ok_S 85 11 (sf_ld 2 0 12) := ok_aload_n (by decide +kernel : decode (mb_ 85) 11 = .ok (.aload_n 0, 1)) rfl
theorem ok_X10_init_12 : ok_S 85 12 (sf_push (0, 3) 13) := ok_iconst (by decide +kernel : decode (mb_ 85) 12 = .ok (.iconst 3, 1)) ⟨by decide, by decide⟩
theorem ok_X10_init_13 : ok_S 85 13 (sf_newa 20 15) := ok_newa rfl (Or.inl ⟨rfl, rfl⟩) (by decide +kernel : decode (mb_ 85) 13 = .ok (.newarray .int, 2)) tw_81
theorem ok_X10_init_15 : ok_S 85 15 (sf_pr 8 8 1 18) := ok_pr fd_8_1 (by decide +kernel : decode (mb_ 85) 15 = .ok (.putfield 15, 3)) tw_49 rfl (Or.inr ⟨ff_8_1, rfl, rfl⟩) rfl (by decide +kernel : parseFieldDescriptor "[I" = some (.array .int)) (Or.inr ⟨_, rfl⟩)
theorem ok_X10_init_18 : ok_S 85 18 (sf_ld 2 0 19) := ok_aload_n (by decide +kernel : decode (mb_ 85) 18 = .ok (.aload_n 0, 1)) rfl
theorem ok_X10_init_19 : ok_S 85 19 (sf_push (0, 24) 21) := ok_bipush (by decide +kernel : decode (mb_ 85) 19 = .ok (.bipush 24, 2)) ⟨by decide, by decide⟩ (by decide +kernel)
theorem ok_X10_init_21 : ok_S 85 21 (sf_newa 20 23) := ok_newa rfl (Or.inl ⟨rfl, rfl⟩) (by decide +kernel : decode (mb_ 85) 21 = .ok (.newarray .int, 2)) tw_81
theorem ok_X10_init_23 : ok_S 85 23 (sf_pr 8 8 2 26) := ok_pr fd_8_2 (by decide +kernel : decode (mb_ 85) 23 = .ok (.putfield 18, 3)) tw_51 rfl (Or.inr ⟨ff_8_2, rfl, rfl⟩) rfl (by decide +kernel : parseFieldDescriptor "[I" = some (.array .int)) (Or.inr ⟨_, rfl⟩)
theorem ok_X10_init_26 : ok_S 85 26 (sf_ld 2 0 27) := ok_aload_n (by decide +kernel : decode (mb_ 85) 26 = .ok (.aload_n 0, 1)) rfl
theorem ok_X10_init_27 : ok_S 85 27 (sf_push (0, 0) 28) := ok_iconst (by decide +kernel : decode (mb_ 85) 27 = .ok (.iconst 0, 1)) ⟨by decide, by decide⟩
theorem ok_X10_init_28 : ok_S 85 28 (sf_pi 8 8 3 31) := ok_pi fd_8_3 (by decide +kernel : decode (mb_ 85) 28 = .ok (.putfield 21, 3)) tw_54 rfl (Or.inl ff_8_3) rfl
theorem ok_X10_init_31 : ok_S 85 31 (sf_ld 2 0 32) := ok_aload_n (by decide +kernel : decode (mb_ 85) 31 = .ok (.aload_n 0, 1)) rfl
theorem ok_X10_init_32 : ok_S 85 32 (sf_push (0, 0) 33) := ok_iconst (by decide +kernel : decode (mb_ 85) 32 = .ok (.iconst 0, 1)) ⟨by decide, by decide⟩
theorem ok_X10_init_33 : ok_S 85 33 (sf_pi 8 8 4 36) := ok_pi fd_8_4 (by decide +kernel : decode (mb_ 85) 33 = .ok (.putfield 25, 3)) tw_58 rfl (Or.inl ff_8_4) rfl
theorem ok_X10_init_36 : ok_S 85 36 (sf_ld 2 0 37) := ok_aload_n (by decide +kernel : decode (mb_ 85) 36 = .ok (.aload_n 0, 1)) rfl
theorem ok_X10_init_37 : ok_S 85 37 (sf_push (0, 0) 38) := ok_iconst (by decide +kernel : decode (mb_ 85) 37 = .ok (.iconst 0, 1)) ⟨by decide, by decide⟩
theorem ok_X10_init_38 : ok_S 85 38 (sf_pi 8 8 5 41) := ok_pi fd_8_5 (by decide +kernel : decode (mb_ 85) 38 = .ok (.putfield 28, 3)) tw_62 rfl (Or.inl ff_8_5) rfl
theorem ok_X10_init_41 : ok_S 85 41 (sf_ld 2 0 42) := ok_aload_n (by decide +kernel : decode (mb_ 85) 41 = .ok (.aload_n 0, 1)) rfl
theorem ok_X10_init_42 : ok_S 85 42 (sf_push (0, 6) 44) := ok_bipush (by decide +kernel : decode (mb_ 85) 42 = .ok (.bipush 6, 2)) ⟨by decide, by decide⟩ (by decide +kernel)
theorem ok_X10_init_44 : ok_S 85 44 (sf_newa 22 47) := ok_newr (Or.inl ⟨rfl, rfl⟩) (by decide +kernel : decode (mb_ 85) 44 = .ok (.anewarray 31, 3)) tw_42
theorem ok_X10_init_47 : ok_S 85 47 (sf_pr 8 8 6 50) := ok_pr fd_8_6 (by decide +kernel : decode (mb_ 85) 47 = .ok (.putfield 33, 3)) tw_65 rfl (Or.inr ⟨ff_8_6, rfl, rfl⟩) rfl (by decide +kernel : parseFieldDescriptor "[LRoomNumbers$Note;" = some (.array (.object "RoomNumbers$Note"))) (Or.inr ⟨_, rfl⟩)
theorem ok_X10_init_50 : ok_S 85 50 (sf_ld 2 0 51) := ok_aload_n (by decide +kernel : decode (mb_ 85) 50 = .ok (.aload_n 0, 1)) rfl
theorem ok_X10_init_51 : ok_S 85 51 (sf_gr 8 8 0 54) := ok_gr fd_8_0 (by decide +kernel : decode (mb_ 85) 51 = .ok (.getfield 9, 3)) tw_47 (Or.inl rfl) rfl
theorem ok_X10_init_54 : ok_S 85 54 (sf_push (0, 2) 55) := ok_iconst (by decide +kernel : decode (mb_ 85) 54 = .ok (.iconst 2, 1)) ⟨by decide, by decide⟩
theorem ok_X10_init_55 : ok_S 85 55 (sf_cs [2, 0] 257 58) := ok_cs mt_257 (by decide +kernel : decode (mb_ 85) 55 = .ok (.invokestatic 37, 3)) tw_44 tw_45 tw_4 (by decide +kernel) (mh_ok rfl) (by decide) (by decide)
theorem ok_X10_init_58 : ok_S 85 58 (sf_ld 2 0 59) := ok_aload_n (by decide +kernel : decode (mb_ 85) 58 = .ok (.aload_n 0, 1)) rfl
theorem ok_X10_init_59 : ok_S 85 59 (sf_gr 8 8 1 62) := ok_gr fd_8_1 (by decide +kernel : decode (mb_ 85) 59 = .ok (.getfield 15, 3)) tw_49 (Or.inl rfl) rfl
theorem ok_X10_init_62 : ok_S 85 62 (sf_push (0, 16) 64) := ok_bipush (by decide +kernel : decode (mb_ 85) 62 = .ok (.bipush 16, 2)) ⟨by decide, by decide⟩ (by decide +kernel)
theorem ok_X10_init_64 : ok_S 85 64 (sf_cs [2, 0] 257 67) := ok_cs mt_257 (by decide +kernel : decode (mb_ 85) 64 = .ok (.invokestatic 37, 3)) tw_44 tw_45 tw_4 (by decide +kernel) (mh_ok rfl) (by decide) (by decide)
theorem ok_X10_init_67 : ok_S 85 67 (sf_retv) := ok_retv (by decide +kernel : decode (mb_ 85) 67 = .ok (.return_, 1)) rfl
theorem ok_X10_init (pc : Nat) : ok_S 85 pc (cd_X10_init pc) :=
  (ok_bf (ok_bf (ok_bf (ok_bf (ok_bf (ok_bf (ok_lf pc ok_X10_init_67) (ok_lf pc ok_X10_init_64)) (ok_lf pc ok_X10_init_62)) (ok_bf (ok_lf pc ok_X10_init_59) (ok_lf pc ok_X10_init_58))) (ok_bf (ok_bf (ok_lf pc ok_X10_init_55) (ok_lf pc ok_X10_init_54)) (ok_bf (ok_lf pc ok_X10_init_51) (ok_lf pc ok_X10_init_50)))) (ok_bf (ok_bf (ok_bf (ok_bf (ok_lf pc ok_X10_init_47) (ok_lf pc ok_X10_init_44)) (ok_lf pc ok_X10_init_42)) (ok_bf (ok_lf pc ok_X10_init_41) (ok_lf pc ok_X10_init_38))) (ok_bf (ok_bf (ok_lf pc ok_X10_init_37) (ok_lf pc ok_X10_init_36)) (ok_bf (ok_lf pc ok_X10_init_33) (ok_lf pc ok_X10_init_32))))) (ok_bf (ok_bf (ok_bf (ok_bf (ok_bf (ok_lf pc ok_X10_init_31) (ok_lf pc ok_X10_init_28)) (ok_lf pc ok_X10_init_27)) (ok_bf (ok_lf pc ok_X10_init_26) (ok_lf pc ok_X10_init_23))) (ok_bf (ok_bf (ok_lf pc ok_X10_init_21) (ok_lf pc ok_X10_init_19)) (ok_bf (ok_lf pc ok_X10_init_18) (ok_lf pc ok_X10_init_15)))) (ok_bf (ok_bf (ok_bf (ok_bf (ok_lf pc ok_X10_init_13) (ok_lf pc ok_X10_init_12)) (ok_lf pc ok_X10_init_11)) (ok_bf (ok_lf pc ok_X10_init_8) (ok_lf pc ok_X10_init_6))) (ok_bf (ok_bf (ok_lf pc ok_X10_init_5) (ok_lf pc ok_X10_init_4)) (ok_bf (ok_lf pc ok_X10_init_1) (ok_lf pc ok_X10_init_0))))))
theorem mo_X10_init (pc : Nat) : mo_S (cd_X10_init pc) :=
  (mo_bf (mo_bf (mo_bf (mo_bf (mo_bf (mo_bf (mo_bf mo_retv mo_no) (mo_bf mo_cs mo_no)) (mo_bf mo_push mo_no)) (mo_bf (mo_bf mo_gr mo_no) (mo_bf mo_ld mo_no))) (mo_bf (mo_bf (mo_bf mo_cs mo_no) (mo_bf mo_push mo_no)) (mo_bf (mo_bf mo_gr mo_no) (mo_bf mo_ld mo_no)))) (mo_bf (mo_bf (mo_bf (mo_bf (mo_bf mo_pr mo_no) (mo_bf mo_newa mo_no)) (mo_bf mo_push mo_no)) (mo_bf (mo_bf mo_ld mo_no) (mo_bf mo_pi mo_no))) (mo_bf (mo_bf (mo_bf mo_push mo_no) (mo_bf mo_ld mo_no)) (mo_bf (mo_bf mo_pi mo_no) (mo_bf mo_push mo_no))))) (mo_bf (mo_bf (mo_bf (mo_bf (mo_bf (mo_bf mo_ld mo_no) (mo_bf mo_pi mo_no)) (mo_bf mo_push mo_no)) (mo_bf (mo_bf mo_ld mo_no) (mo_bf mo_pr mo_no))) (mo_bf (mo_bf (mo_bf mo_newa mo_no) (mo_bf mo_push mo_no)) (mo_bf (mo_bf mo_ld mo_no) (mo_bf mo_pr mo_no)))) (mo_bf (mo_bf (mo_bf (mo_bf (mo_bf mo_newa mo_no) (mo_bf mo_push mo_no)) (mo_bf mo_ld mo_no)) (mo_bf (mo_bf mo_pr mo_no) (mo_bf mo_newa mo_no))) (mo_bf (mo_bf (mo_bf mo_push mo_no) (mo_bf mo_ld mo_no)) (mo_bf (mo_bf mo_oini mo_no) (mo_bf mo_ld mo_no))))))
theorem ok_X10_clear_0 : ok_S 86 0 (sf_ld 2 0 1) := ok_aload_n (by decide +kernel : decode (mb_ 86) 0 = .ok (.aload_n 0, 1)) rfl
theorem ok_X10_clear_1 : ok_S 86 1 (sf_gr 8 8 0 4) := ok_gr fd_8_0 (by decide +kernel : decode (mb_ 86) 1 = .ok (.getfield 9, 3)) tw_47 (Or.inl rfl) rfl
theorem ok_X10_clear_4 : ok_S 86 4 (sf_push (0, 2) 5) := ok_iconst (by decide +kernel : decode (mb_ 86) 4 = .ok (.iconst 2, 1)) ⟨by decide, by decide⟩
theorem ok_X10_clear_5 : ok_S 86 5 (sf_cs [2, 0] 257 8) := ok_cs mt_257 (by decide +kernel : decode (mb_ 86) 5 = .ok (.invokestatic 37, 3)) tw_44 tw_45 tw_4 (by decide +kernel) (mh_ok rfl) (by decide) (by decide)
theorem ok_X10_clear_8 : ok_S 86 8 (sf_ld 2 0 9) := ok_aload_n (by decide +kernel : decode (mb_ 86) 8 = .ok (.aload_n 0, 1)) rfl
theorem ok_X10_clear_9 : ok_S 86 9 (sf_gr 8 8 1 12) := ok_gr fd_8_1 (by decide +kernel : decode (mb_ 86) 9 = .ok (.getfield 15, 3)) tw_49 (Or.inl rfl) rfl
theorem ok_X10_clear_12 : ok_S 86 12 (sf_push (0, 16) 14) := ok_bipush (by decide +kernel : decode (mb_ 86) 12 = .ok (.bipush 16, 2)) ⟨by decide, by decide⟩ (by decide +kernel)
theorem ok_X10_clear_14 : ok_S 86 14 (sf_cs [2, 0] 257 17) := ok_cs mt_257 (by decide +kernel : decode (mb_ 86) 14 = .ok (.invokestatic 37, 3)) tw_44 tw_45 tw_4 (by decide +kernel) (mh_ok rfl) (by decide) (by decide)
theorem ok_X10_clear_17 : ok_S 86 17 (sf_ld 2 0 18) := ok_aload_n (by decide +kernel : decode (mb_ 86) 17 = .ok (.aload_n 0, 1)) rfl
theorem ok_X10_clear_18 : ok_S 86 18 (sf_push (0, 0) 19) := ok_iconst (by decide +kernel : decode (mb_ 86) 18 = .ok (.iconst 0, 1)) ⟨by decide, by decide⟩
theorem ok_X10_clear_19 : ok_S 86 19 (sf_pi 8 8 3 22) := ok_pi fd_8_3 (by decide +kernel : decode (mb_ 86) 19 = .ok (.putfield 21, 3)) tw_54 rfl (Or.inl ff_8_3) rfl
theorem ok_X10_clear_22 : ok_S 86 22 (sf_ld 2 0 23) := ok_aload_n (by decide +kernel : decode (mb_ 86) 22 = .ok (.aload_n 0, 1)) rfl
theorem ok_X10_clear_23 : ok_S 86 23 (sf_push (0, 0) 24) := ok_iconst (by decide +kernel : decode (mb_ 86) 23 = .ok (.iconst 0, 1)) ⟨by decide, by decide⟩
theorem ok_X10_clear_24 : ok_S 86 24 (sf_pi 8 8 4 27) := ok_pi fd_8_4 (by decide +kernel : decode (mb_ 86) 24 = .ok (.putfield 25, 3)) tw_58 rfl (Or.inl ff_8_4) rfl
theorem ok_X10_clear_27 : ok_S 86 27 (sf_ld 2 0 28) := ok_aload_n (by decide +kernel : decode (mb_ 86) 27 = .ok (.aload_n 0, 1)) rfl
theorem ok_X10_clear_28 : ok_S 86 28 (sf_dup 29) := ok_dup (by decide +kernel : decode (mb_ 86) 28 = .ok (.dup, 1))
theorem ok_X10_clear_29 : ok_S 86 29 (sf_gi 8 8 5 32) := ok_gi fd_8_5 (by decide +kernel : decode (mb_ 86) 29 = .ok (.getfield 28, 3)) tw_62 (Or.inl rfl) rfl
theorem ok_X10_clear_32 : ok_S 86 32 (sf_push (0, 1) 33) := ok_iconst (by decide +kernel : decode (mb_ 86) 32 = .ok (.iconst 1, 1)) ⟨by decide, by decide⟩
theorem ok_X10_clear_33 : ok_S 86 33 (sf_i2 mx_add 34) := ok_iadd (by decide +kernel : decode (mb_ 86) 33 = .ok (.iadd, 1))
theorem ok_X10_clear_34 : ok_S 86 34 (sf_pi 8 8 5 37) := ok_pi fd_8_5 (by decide +kernel : decode (mb_ 86) 34 = .ok (.putfield 28, 3)) tw_62 rfl (Or.inl ff_8_5) rfl
theorem ok_X10_clear_37 : ok_S 86 37 (sf_retv) := ok_retv (by decide +kernel : decode (mb_ 86) 37 = .ok (.return_, 1)) rfl
theorem ok_X10_clear (pc : Nat) : ok_S 86 pc (cd_X10_clear pc) :=
  (ok_bf (ok_bf (ok_bf (ok_bf (ok_bf (ok_lf pc ok_X10_clear_37) (ok_lf pc ok_X10_clear_34)) (ok_lf pc ok_X10_clear_33)) (ok_bf (ok_bf (ok_lf pc ok_X10_clear_32) (ok_lf pc ok_X10_clear_29)) (ok_lf pc ok_X10_clear_28))) (ok_bf (ok_bf (ok_bf (ok_lf pc ok_X10_clear_27) (ok_lf pc ok_X10_clear_24)) (ok_lf pc ok_X10_clear_23)) (ok_bf (ok_lf pc ok_X10_clear_22) (ok_lf pc ok_X10_clear_19)))) (ok_bf (ok_bf (ok_bf (ok_bf (ok_lf pc ok_X10_clear_18) (ok_lf pc ok_X10_clear_17)) (ok_lf pc ok_X10_clear_14)) (ok_bf (ok_lf pc ok_X10_clear_12) (ok_lf pc ok_X10_clear_9))) (ok_bf (ok_bf (ok_bf (ok_lf pc ok_X10_clear_8) (ok_lf pc ok_X10_clear_5)) (ok_lf pc ok_X10_clear_4)) (ok_bf (ok_lf pc ok_X10_clear_1) (ok_lf pc ok_X10_clear_0)))))
theorem mo_X10_clear (pc : Nat) : mo_S (cd_X10_clear pc) :=
  (mo_bf (mo_bf (mo_bf (mo_bf (mo_bf (mo_bf mo_retv mo_no) (mo_bf mo_pi mo_no)) (mo_bf mo_i2 mo_no)) (mo_bf (mo_bf (mo_bf mo_push mo_no) (mo_bf mo_gi mo_no)) (mo_bf mo_dup mo_no))) (mo_bf (mo_bf (mo_bf (mo_bf mo_ld mo_no) (mo_bf mo_pi mo_no)) (mo_bf mo_push mo_no)) (mo_bf (mo_bf mo_ld mo_no) (mo_bf mo_pi mo_no)))) (mo_bf (mo_bf (mo_bf (mo_bf (mo_bf mo_push mo_no) (mo_bf mo_ld mo_no)) (mo_bf mo_cs mo_no)) (mo_bf (mo_bf mo_push mo_no) (mo_bf mo_gr mo_no))) (mo_bf (mo_bf (mo_bf (mo_bf mo_ld mo_no) (mo_bf mo_cs mo_no)) (mo_bf mo_push mo_no)) (mo_bf (mo_bf mo_gr mo_no) (mo_bf mo_ld mo_no)))))
theorem ok_X10_become_0 : ok_S 87 0 (sf_ld 2 0 1) := ok_aload_n (by decide +kernel : decode (mb_ 87) 0 = .ok (.aload_n 0, 1)) rfl
theorem ok_X10_become_1 : ok_S 87 1 (sf_cv 8 [2] 86 4) := ok_cv mt_86 cl_8 (by decide +kernel : decode (mb_ 87) 1 = .ok (.invokevirtual 43, 3)) tw_518 tw_277 tw_278 tw_3 rfl (by decide +kernel) (mh_ok rfl) (by decide) (by decide)
theorem ok_X10_become_4 : ok_S 87 4 (sf_ld 2 1 5) := ok_aload_n (by decide +kernel : decode (mb_ 87) 4 = .ok (.aload_n 1, 1)) rfl
theorem ok_X10_become_5 : ok_S 87 5 (sf_gr 8 8 0 8) := ok_gr fd_8_0 (by decide +kernel : decode (mb_ 87) 5 = .ok (.getfield 9, 3)) tw_47 (Or.inl rfl) rfl
theorem ok_X10_become_8 : ok_S 87 8 (sf_push (0, 0) 9) := ok_iconst (by decide +kernel : decode (mb_ 87) 8 = .ok (.iconst 0, 1)) ⟨by decide, by decide⟩
theorem ok_X10_become_9 : ok_S 87 9 (sf_ld 2 0 10) := ok_aload_n (by decide +kernel : decode (mb_ 87) 9 = .ok (.aload_n 0, 1)) rfl
theorem ok_X10_become_10 : ok_S 87 10 (sf_gr 8 8 0 13) := ok_gr fd_8_0 (by decide +kernel : decode (mb_ 87) 10 = .ok (.getfield 9, 3)) tw_47 (Or.inl rfl) rfl
theorem ok_X10_become_13 : ok_S 87 13 (sf_push (0, 0) 14) := ok_iconst (by decide +kernel : decode (mb_ 87) 13 = .ok (.iconst 0, 1)) ⟨by decide, by decide⟩
theorem ok_X10_become_14 : ok_S 87 14 (sf_push (0, 3) 15) := ok_iconst (by decide +kernel : decode (mb_ 87) 14 = .ok (.iconst 3, 1)) ⟨by decide, by decide⟩
theorem ok_X10_become_15 : ok_S 87 15 (sf_copy 18) := ok_copy (by decide +kernel : decode (mb_ 87) 15 = .ok (.invokestatic 46, 3)) tw_519 tw_379 tw_378 tw_13
theorem ok_X10_become_18 : ok_S 87 18 (sf_ld 2 1 19) := ok_aload_n (by decide +kernel : decode (mb_ 87) 18 = .ok (.aload_n 1, 1)) rfl
theorem ok_X10_become_19 : ok_S 87 19 (sf_gr 8 8 1 22) := ok_gr fd_8_1 (by decide +kernel : decode (mb_ 87) 19 = .ok (.getfield 15, 3)) tw_49 (Or.inl rfl) rfl
theorem ok_X10_become_22 : ok_S 87 22 (sf_push (0, 0) 23) := ok_iconst (by decide +kernel : decode (mb_ 87) 22 = .ok (.iconst 0, 1)) ⟨by decide, by decide⟩
theorem ok_X10_become_23 : ok_S 87 23 (sf_ld 2 0 24) := ok_aload_n (by decide +kernel : decode (mb_ 87) 23 = .ok (.aload_n 0, 1)) rfl
theorem ok_X10_become_24 : ok_S 87 24 (sf_gr 8 8 1 27) := ok_gr fd_8_1 (by decide +kernel : decode (mb_ 87) 24 = .ok (.getfield 15, 3)) tw_49 (Or.inl rfl) rfl
theorem ok_X10_become_27 : ok_S 87 27 (sf_push (0, 0) 28) := ok_iconst (by decide +kernel : decode (mb_ 87) 27 = .ok (.iconst 0, 1)) ⟨by decide, by decide⟩
theorem ok_X10_become_28 : ok_S 87 28 (sf_push (0, 3) 29) := ok_iconst (by decide +kernel : decode (mb_ 87) 28 = .ok (.iconst 3, 1)) ⟨by decide, by decide⟩
theorem ok_X10_become_29 : ok_S 87 29 (sf_copy 32) := ok_copy (by decide +kernel : decode (mb_ 87) 29 = .ok (.invokestatic 46, 3)) tw_519 tw_379 tw_378 tw_13
theorem ok_X10_become_32 : ok_S 87 32 (sf_push (0, 0) 33) := ok_iconst (by decide +kernel : decode (mb_ 87) 32 = .ok (.iconst 0, 1)) ⟨by decide, by decide⟩
theorem ok_X10_become_33 : ok_S 87 33 (sf_st 0 2 34) := ok_istore_n (by decide +kernel : decode (mb_ 87) 33 = .ok (.istore_n 2, 1)) rfl
theorem ok_X10_become_34 : ok_S 87 34 (sf_ld 0 2 35) := ok_iload_n (by decide +kernel : decode (mb_ 87) 34 = .ok (.iload_n 2, 1)) rfl
theorem ok_X10_become_35 : ok_S 87 35 (sf_ld 2 1 36) := ok_aload_n (by decide +kernel : decode (mb_ 87) 35 = .ok (.aload_n 1, 1)) rfl
theorem ok_X10_become_36 : ok_S 87 36 (sf_gi 8 8 3 39) := ok_gi fd_8_3 (by decide +kernel : decode (mb_ 87) 36 = .ok (.getfield 21, 3)) tw_54 (Or.inl rfl) rfl
theorem ok_X10_become_39 : ok_S 87 39 (sf_ic 3 85 42) := ok_ic3 (by decide +kernel : decode (mb_ 87) 39 = .ok (.if_icmp .ge 46, 3)) (by decide)
theorem ok_X10_become_42 : ok_S 87 42 (sf_ld 2 1 43) := ok_aload_n (by decide +kernel : decode (mb_ 87) 42 = .ok (.aload_n 1, 1)) rfl
theorem ok_X10_become_43 : ok_S 87 43 (sf_ld 0 2 44) := ok_iload_n (by decide +kernel : decode (mb_ 87) 43 = .ok (.iload_n 2, 1)) rfl
theorem ok_X10_become_44 : ok_S 87 44 (sf_cv 8 [2, 0] 91 47) := ok_cv mt_91 cl_8 (by decide +kernel : decode (mb_ 87) 44 = .ok (.invokevirtual 52, 3)) tw_520 tw_521 tw_522 tw_3 rfl (by decide +kernel) (mh_ok rfl) (by decide) (by decide)
theorem ok_X10_become_47 : ok_S 87 47 (sf_st 2 3 48) := ok_astore_n (by decide +kernel : decode (mb_ 87) 47 = .ok (.astore_n 3, 1)) rfl
theorem ok_X10_become_48 : ok_S 87 48 (sf_ld 2 3 49) := ok_aload_n (by decide +kernel : decode (mb_ 87) 48 = .ok (.aload_n 3, 1)) rfl
theorem ok_X10_become_49 : ok_S 87 49 (sf_nul 79 52) := ok_nul (by decide +kernel : decode (mb_ 87) 49 = .ok (.ifnull 30, 3)) (by decide)
theorem ok_X10_become_52 : ok_S 87 52 (sf_ld 2 0 53) := ok_aload_n (by decide +kernel : decode (mb_ 87) 52 = .ok (.aload_n 0, 1)) rfl
theorem ok_X10_become_53 : ok_S 87 53 (sf_ld 2 3 54) := ok_aload_n (by decide +kernel : decode (mb_ 87) 53 = .ok (.aload_n 3, 1)) rfl
theorem ok_X10_become_54 : ok_S 87 54 (sf_cu [(1, 39), (2, 55), (3, 1), (4, 34), (5, 81), (6, 8)] [2] 57) := ok_cu (x := ⟨"RoomNumbers$Note", "kind", "()I"⟩) (ow := "RoomNumbers$Note") ⟨tw_524, tw_527, tw_525, ⟨_, _, _, tw_543⟩, mh_ok rfl, (by decide +kernel)⟩ (List.forall_mem_cons.mpr ⟨⟨"RoomNumbers$Note", cl_1, mt_39, tw_526, tw_525, tw_14, by decide, by decide⟩, (List.forall_mem_cons.mpr ⟨⟨"RoomNumbers$Strokes", cl_2, mt_55, tw_537, tw_538, tw_15, by decide, by decide⟩, (List.forall_mem_cons.mpr ⟨⟨"RoomNumbers$Broken", cl_3, mt_1, tw_528, tw_529, tw_16, by decide, by decide⟩, (List.forall_mem_cons.mpr ⟨⟨"RoomNumbers$Left", cl_4, mt_34, tw_534, tw_535, tw_17, by decide, by decide⟩, (List.forall_mem_cons.mpr ⟨⟨"RoomNumbers$Turned", cl_5, mt_81, tw_540, tw_541, tw_18, by decide, by decide⟩, (List.forall_mem_cons.mpr ⟨⟨"RoomNumbers$Debt", cl_6, mt_8, tw_531, tw_532, tw_19, by decide, by decide⟩, (fun _ h => absurd h List.not_mem_nil)⟩)⟩)⟩)⟩)⟩)⟩) (by decide +kernel : decode (mb_ 87) 54 = .ok (.invokevirtual 56, 3)) rfl
theorem ok_X10_become_57 : ok_S 87 57 (sf_ld 2 3 58) := ok_aload_n (by decide +kernel : decode (mb_ 87) 57 = .ok (.aload_n 3, 1)) rfl
theorem ok_X10_become_58 : ok_S 87 58 (sf_gi 1 6 3 61) := ok_gi fd_1_3 (by decide +kernel : decode (mb_ 87) 58 = .ok (.getfield 60, 3)) tw_425 (Or.inl rfl) rfl
theorem ok_X10_become_61 : ok_S 87 61 (sf_ld 2 3 62) := ok_aload_n (by decide +kernel : decode (mb_ 87) 61 = .ok (.aload_n 3, 1)) rfl
theorem ok_X10_become_62 : ok_S 87 62 (sf_gi 1 6 1 65) := ok_gi fd_1_1 (by decide +kernel : decode (mb_ 87) 62 = .ok (.getfield 63, 3)) tw_406 (Or.inl rfl) rfl
theorem ok_X10_become_65 : ok_S 87 65 (sf_ld 2 3 66) := ok_aload_n (by decide +kernel : decode (mb_ 87) 65 = .ok (.aload_n 3, 1)) rfl
theorem ok_X10_become_66 : ok_S 87 66 (sf_gr 1 6 2 69) := ok_gr fd_1_2 (by decide +kernel : decode (mb_ 87) 66 = .ok (.getfield 66, 3)) tw_419 (Or.inl rfl) rfl
theorem ok_X10_become_69 : ok_S 87 69 (sf_clon 72) := ok_clon (by decide +kernel : decode (mb_ 87) 69 = .ok (.invokevirtual 69, 3)) tw_544 tw_545 tw_546 tw_547 tw_548 (List.mem_of_getElem? (i := 0) rfl)
theorem ok_X10_become_72 : ok_S 87 72 (sf_cast 75) := ok_cast (by decide +kernel : decode (mb_ 87) 72 = .ok (.checkcast 70, 3)) tw_550
theorem ok_X10_become_75 : ok_S 87 75 (sf_cv 8 [2, 0, 0, 0, 2] 92 78) := ok_cv mt_92 cl_8 (by decide +kernel : decode (mb_ 87) 75 = .ok (.invokevirtual 74, 3)) tw_551 tw_381 tw_382 tw_3 rfl (by decide +kernel) (mh_ok rfl) (by decide) (by decide)
theorem ok_X10_become_78 : ok_S 87 78 (sf_pop 79) := ok_pop (by decide +kernel : decode (mb_ 87) 78 = .ok (.pop, 1))
theorem ok_X10_become_79 : ok_S 87 79 (sf_inc 2 1 82) := ok_iinc (by decide +kernel : decode (mb_ 87) 79 = .ok (.iinc 2 1, 3))
theorem ok_X10_become_82 : ok_S 87 82 (sf_go 34) := ok_goto (by decide +kernel : decode (mb_ 87) 82 = .ok (.goto (-48), 3)) (by decide)
theorem ok_X10_become_85 : ok_S 87 85 (sf_ld 2 1 86) := ok_aload_n (by decide +kernel : decode (mb_ 87) 85 = .ok (.aload_n 1, 1)) rfl
theorem ok_X10_become_86 : ok_S 87 86 (sf_gr 8 8 2 89) := ok_gr fd_8_2 (by decide +kernel : decode (mb_ 87) 86 = .ok (.getfield 18, 3)) tw_51 (Or.inl rfl) rfl
theorem ok_X10_become_89 : ok_S 87 89 (sf_push (0, 0) 90) := ok_iconst (by decide +kernel : decode (mb_ 87) 89 = .ok (.iconst 0, 1)) ⟨by decide, by decide⟩
theorem ok_X10_become_90 : ok_S 87 90 (sf_ld 2 0 91) := ok_aload_n (by decide +kernel : decode (mb_ 87) 90 = .ok (.aload_n 0, 1)) rfl
theorem ok_X10_become_91 : ok_S 87 91 (sf_gr 8 8 2 94) := ok_gr fd_8_2 (by decide +kernel : decode (mb_ 87) 91 = .ok (.getfield 18, 3)) tw_51 (Or.inl rfl) rfl
theorem ok_X10_become_94 : ok_S 87 94 (sf_push (0, 0) 95) := ok_iconst (by decide +kernel : decode (mb_ 87) 94 = .ok (.iconst 0, 1)) ⟨by decide, by decide⟩
theorem ok_X10_become_95 : ok_S 87 95 (sf_ld 2 0 96) := ok_aload_n (by decide +kernel : decode (mb_ 87) 95 = .ok (.aload_n 0, 1)) rfl
theorem ok_X10_become_96 : ok_S 87 96 (sf_gr 8 8 2 99) := ok_gr fd_8_2 (by decide +kernel : decode (mb_ 87) 96 = .ok (.getfield 18, 3)) tw_51 (Or.inl rfl) rfl
theorem ok_X10_become_99 : ok_S 87 99 (sf_alen 100) := ok_alen (by decide +kernel : decode (mb_ 87) 99 = .ok (.arraylength, 1))
theorem ok_X10_become_100 : ok_S 87 100 (sf_copy 103) := ok_copy (by decide +kernel : decode (mb_ 87) 100 = .ok (.invokestatic 46, 3)) tw_519 tw_379 tw_378 tw_13
theorem ok_X10_become_103 : ok_S 87 103 (sf_ld 2 0 104) := ok_aload_n (by decide +kernel : decode (mb_ 87) 103 = .ok (.aload_n 0, 1)) rfl
theorem ok_X10_become_104 : ok_S 87 104 (sf_ld 2 1 105) := ok_aload_n (by decide +kernel : decode (mb_ 87) 104 = .ok (.aload_n 1, 1)) rfl
theorem ok_X10_become_105 : ok_S 87 105 (sf_gi 8 8 4 108) := ok_gi fd_8_4 (by decide +kernel : decode (mb_ 87) 105 = .ok (.getfield 25, 3)) tw_58 (Or.inl rfl) rfl
theorem ok_X10_become_108 : ok_S 87 108 (sf_pi 8 8 4 111) := ok_pi fd_8_4 (by decide +kernel : decode (mb_ 87) 108 = .ok (.putfield 25, 3)) tw_58 rfl (Or.inl ff_8_4) rfl
theorem ok_X10_become_111 : ok_S 87 111 (sf_retv) := ok_retv (by decide +kernel : decode (mb_ 87) 111 = .ok (.return_, 1)) rfl
theorem ok_X10_become (pc : Nat) : ok_S 87 pc (cd_X10_become pc) :=
  (ok_bf (ok_bf (ok_bf (ok_bf (ok_bf (ok_bf (ok_lf pc ok_X10_become_111) (ok_lf pc ok_X10_become_108)) (ok_bf (ok_lf pc ok_X10_become_105) (ok_lf pc ok_X10_become_104))) (ok_bf (ok_bf (ok_lf pc ok_X10_become_103) (ok_lf pc ok_X10_become_100)) (ok_bf (ok_lf pc ok_X10_become_99) (ok_lf pc ok_X10_become_96)))) (ok_bf (ok_bf (ok_bf (ok_lf pc ok_X10_become_95) (ok_lf pc ok_X10_become_94)) (ok_bf (ok_lf pc ok_X10_become_91) (ok_lf pc ok_X10_become_90))) (ok_bf (ok_bf (ok_lf pc ok_X10_become_89) (ok_lf pc ok_X10_become_86)) (ok_lf pc ok_X10_become_85)))) (ok_bf (ok_bf (ok_bf (ok_bf (ok_lf pc ok_X10_become_82) (ok_lf pc ok_X10_become_79)) (ok_bf (ok_lf pc ok_X10_become_78) (ok_lf pc ok_X10_become_75))) (ok_bf (ok_bf (ok_lf pc ok_X10_become_72) (ok_lf pc ok_X10_become_69)) (ok_bf (ok_lf pc ok_X10_become_66) (ok_lf pc ok_X10_become_65)))) (ok_bf (ok_bf (ok_bf (ok_lf pc ok_X10_become_62) (ok_lf pc ok_X10_become_61)) (ok_bf (ok_lf pc ok_X10_become_58) (ok_lf pc ok_X10_become_57))) (ok_bf (ok_bf (ok_lf pc ok_X10_become_54) (ok_lf pc ok_X10_become_53)) (ok_lf pc ok_X10_become_52))))) (ok_bf (ok_bf (ok_bf (ok_bf (ok_bf (ok_lf pc ok_X10_become_49) (ok_lf pc ok_X10_become_48)) (ok_bf (ok_lf pc ok_X10_become_47) (ok_lf pc ok_X10_become_44))) (ok_bf (ok_bf (ok_lf pc ok_X10_become_43) (ok_lf pc ok_X10_become_42)) (ok_bf (ok_lf pc ok_X10_become_39) (ok_lf pc ok_X10_become_36)))) (ok_bf (ok_bf (ok_bf (ok_lf pc ok_X10_become_35) (ok_lf pc ok_X10_become_34)) (ok_bf (ok_lf pc ok_X10_become_33) (ok_lf pc ok_X10_become_32))) (ok_bf (ok_bf (ok_lf pc ok_X10_become_29) (ok_lf pc ok_X10_become_28)) (ok_lf pc ok_X10_become_27)))) (ok_bf (ok_bf (ok_bf (ok_bf (ok_lf pc ok_X10_become_24) (ok_lf pc ok_X10_become_23)) (ok_bf (ok_lf pc ok_X10_become_22) (ok_lf pc ok_X10_become_19))) (ok_bf (ok_bf (ok_lf pc ok_X10_become_18) (ok_lf pc ok_X10_become_15)) (ok_bf (ok_lf pc ok_X10_become_14) (ok_lf pc ok_X10_become_13)))) (ok_bf (ok_bf (ok_bf (ok_lf pc ok_X10_become_10) (ok_lf pc ok_X10_become_9)) (ok_bf (ok_lf pc ok_X10_become_8) (ok_lf pc ok_X10_become_5))) (ok_bf (ok_bf (ok_lf pc ok_X10_become_4) (ok_lf pc ok_X10_become_1)) (ok_lf pc ok_X10_become_0))))))
theorem mo_X10_become (pc : Nat) : mo_S (cd_X10_become pc) :=
  (mo_bf (mo_bf (mo_bf (mo_bf (mo_bf (mo_bf (mo_bf mo_retv mo_no) (mo_bf mo_pi mo_no)) (mo_bf (mo_bf mo_gi mo_no) (mo_bf mo_ld mo_no))) (mo_bf (mo_bf (mo_bf mo_ld mo_no) (mo_bf mo_copy mo_no)) (mo_bf (mo_bf mo_alen mo_no) (mo_bf mo_gr mo_no)))) (mo_bf (mo_bf (mo_bf (mo_bf mo_ld mo_no) (mo_bf mo_push mo_no)) (mo_bf (mo_bf mo_gr mo_no) (mo_bf mo_ld mo_no))) (mo_bf (mo_bf (mo_bf mo_push mo_no) (mo_bf mo_gr mo_no)) (mo_bf mo_ld mo_no)))) (mo_bf (mo_bf (mo_bf (mo_bf (mo_bf mo_go mo_no) (mo_bf mo_inc mo_no)) (mo_bf (mo_bf mo_pop mo_no) (mo_bf mo_cv mo_no))) (mo_bf (mo_bf (mo_bf mo_cast mo_no) (mo_bf mo_clon mo_no)) (mo_bf (mo_bf mo_gr mo_no) (mo_bf mo_ld mo_no)))) (mo_bf (mo_bf (mo_bf (mo_bf mo_gi mo_no) (mo_bf mo_ld mo_no)) (mo_bf (mo_bf mo_gi mo_no) (mo_bf mo_ld mo_no))) (mo_bf (mo_bf (mo_bf mo_cu mo_no) (mo_bf mo_ld mo_no)) (mo_bf mo_ld mo_no))))) (mo_bf (mo_bf (mo_bf (mo_bf (mo_bf (mo_bf mo_nul mo_no) (mo_bf mo_ld mo_no)) (mo_bf (mo_bf mo_st mo_no) (mo_bf mo_cv mo_no))) (mo_bf (mo_bf (mo_bf mo_ld mo_no) (mo_bf mo_ld mo_no)) (mo_bf (mo_bf mo_ic mo_no) (mo_bf mo_gi mo_no)))) (mo_bf (mo_bf (mo_bf (mo_bf mo_ld mo_no) (mo_bf mo_ld mo_no)) (mo_bf (mo_bf mo_st mo_no) (mo_bf mo_push mo_no))) (mo_bf (mo_bf (mo_bf mo_copy mo_no) (mo_bf mo_push mo_no)) (mo_bf mo_push mo_no)))) (mo_bf (mo_bf (mo_bf (mo_bf (mo_bf mo_gr mo_no) (mo_bf mo_ld mo_no)) (mo_bf (mo_bf mo_push mo_no) (mo_bf mo_gr mo_no))) (mo_bf (mo_bf (mo_bf mo_ld mo_no) (mo_bf mo_copy mo_no)) (mo_bf (mo_bf mo_push mo_no) (mo_bf mo_push mo_no)))) (mo_bf (mo_bf (mo_bf (mo_bf mo_gr mo_no) (mo_bf mo_ld mo_no)) (mo_bf (mo_bf mo_push mo_no) (mo_bf mo_gr mo_no))) (mo_bf (mo_bf (mo_bf mo_ld mo_no) (mo_bf mo_cv mo_no)) (mo_bf mo_ld mo_no))))))
theorem ok_X10_setEvening_0 : ok_S 88 0 (sf_ld 2 0 1) := ok_aload_n (by decide +kernel : decode (mb_ 88) 0 = .ok (.aload_n 0, 1)) rfl
theorem ok_X10_setEvening_1 : ok_S 88 1 (sf_gr 8 8 0 4) := ok_gr fd_8_0 (by decide +kernel : decode (mb_ 88) 1 = .ok (.getfield 9, 3)) tw_47 (Or.inl rfl) rfl
theorem ok_X10_setEvening_4 : ok_S 88 4 (sf_ld 0 1 5) := ok_iload_n (by decide +kernel : decode (mb_ 88) 4 = .ok (.iload_n 1, 1)) rfl
theorem ok_X10_setEvening_5 : ok_S 88 5 (sf_ld 0 2 6) := ok_iload_n (by decide +kernel : decode (mb_ 88) 5 = .ok (.iload_n 2, 1)) rfl
theorem ok_X10_setEvening_6 : ok_S 88 6 (sf_iast 7) := ok_iast (by decide +kernel : decode (mb_ 88) 6 = .ok (.iastore, 1))
theorem ok_X10_setEvening_7 : ok_S 88 7 (sf_ld 2 0 8) := ok_aload_n (by decide +kernel : decode (mb_ 88) 7 = .ok (.aload_n 0, 1)) rfl
theorem ok_X10_setEvening_8 : ok_S 88 8 (sf_gr 8 8 1 11) := ok_gr fd_8_1 (by decide +kernel : decode (mb_ 88) 8 = .ok (.getfield 15, 3)) tw_49 (Or.inl rfl) rfl
theorem ok_X10_setEvening_11 : ok_S 88 11 (sf_ld 0 1 12) := ok_iload_n (by decide +kernel : decode (mb_ 88) 11 = .ok (.iload_n 1, 1)) rfl
theorem ok_X10_setEvening_12 : ok_S 88 12 (sf_ld 0 3 13) := ok_iload_n (by decide +kernel : decode (mb_ 88) 12 = .ok (.iload_n 3, 1)) rfl
theorem ok_X10_setEvening_13 : ok_S 88 13 (sf_iast 14) := ok_iast (by decide +kernel : decode (mb_ 88) 13 = .ok (.iastore, 1))
theorem ok_X10_setEvening_14 : ok_S 88 14 (sf_ld 2 0 15) := ok_aload_n (by decide +kernel : decode (mb_ 88) 14 = .ok (.aload_n 0, 1)) rfl
theorem ok_X10_setEvening_15 : ok_S 88 15 (sf_dup 16) := ok_dup (by decide +kernel : decode (mb_ 88) 15 = .ok (.dup, 1))
theorem ok_X10_setEvening_16 : ok_S 88 16 (sf_gi 8 8 5 19) := ok_gi fd_8_5 (by decide +kernel : decode (mb_ 88) 16 = .ok (.getfield 28, 3)) tw_62 (Or.inl rfl) rfl
theorem ok_X10_setEvening_19 : ok_S 88 19 (sf_push (0, 1) 20) := ok_iconst (by decide +kernel : decode (mb_ 88) 19 = .ok (.iconst 1, 1)) ⟨by decide, by decide⟩
theorem ok_X10_setEvening_20 : ok_S 88 20 (sf_i2 mx_add 21) := ok_iadd (by decide +kernel : decode (mb_ 88) 20 = .ok (.iadd, 1))
theorem ok_X10_setEvening_21 : ok_S 88 21 (sf_pi 8 8 5 24) := ok_pi fd_8_5 (by decide +kernel : decode (mb_ 88) 21 = .ok (.putfield 28, 3)) tw_62 rfl (Or.inl ff_8_5) rfl
theorem ok_X10_setEvening_24 : ok_S 88 24 (sf_retv) := ok_retv (by decide +kernel : decode (mb_ 88) 24 = .ok (.return_, 1)) rfl
theorem ok_X10_setEvening (pc : Nat) : ok_S 88 pc (cd_X10_setEvening pc) :=
  (ok_bf (ok_bf (ok_bf (ok_bf (ok_bf (ok_lf pc ok_X10_setEvening_24) (ok_lf pc ok_X10_setEvening_21)) (ok_lf pc ok_X10_setEvening_20)) (ok_bf (ok_lf pc ok_X10_setEvening_19) (ok_lf pc ok_X10_setEvening_16))) (ok_bf (ok_bf (ok_lf pc ok_X10_setEvening_15) (ok_lf pc ok_X10_setEvening_14)) (ok_bf (ok_lf pc ok_X10_setEvening_13) (ok_lf pc ok_X10_setEvening_12)))) (ok_bf (ok_bf (ok_bf (ok_lf pc ok_X10_setEvening_11) (ok_lf pc ok_X10_setEvening_8)) (ok_bf (ok_lf pc ok_X10_setEvening_7) (ok_lf pc ok_X10_setEvening_6))) (ok_bf (ok_bf (ok_lf pc ok_X10_setEvening_5) (ok_lf pc ok_X10_setEvening_4)) (ok_bf (ok_lf pc ok_X10_setEvening_1) (ok_lf pc ok_X10_setEvening_0)))))
theorem mo_X10_setEvening (pc : Nat) : mo_S (cd_X10_setEvening pc) :=
  (mo_bf (mo_bf (mo_bf (mo_bf (mo_bf (mo_bf mo_retv mo_no) (mo_bf mo_pi mo_no)) (mo_bf mo_i2 mo_no)) (mo_bf (mo_bf mo_push mo_no) (mo_bf mo_gi mo_no))) (mo_bf (mo_bf (mo_bf mo_dup mo_no) (mo_bf mo_ld mo_no)) (mo_bf (mo_bf mo_iast mo_no) (mo_bf mo_ld mo_no)))) (mo_bf (mo_bf (mo_bf (mo_bf mo_ld mo_no) (mo_bf mo_gr mo_no)) (mo_bf (mo_bf mo_ld mo_no) (mo_bf mo_iast mo_no))) (mo_bf (mo_bf (mo_bf mo_ld mo_no) (mo_bf mo_ld mo_no)) (mo_bf (mo_bf mo_gr mo_no) (mo_bf mo_ld mo_no)))))
theorem ok_X10_notesOf_0 : ok_S 89 0 (sf_push (0, 0) 1) := ok_iconst (by decide +kernel : decode (mb_ 89) 0 = .ok (.iconst 0, 1)) ⟨by decide, by decide⟩
theorem ok_X10_notesOf_1 : ok_S 89 1 (sf_st 0 2 2) := ok_istore_n (by decide +kernel : decode (mb_ 89) 1 = .ok (.istore_n 2, 1)) rfl
theorem ok_X10_notesOf_2 : ok_S 89 2 (sf_push (0, 0) 3) := ok_iconst (by decide +kernel : decode (mb_ 89) 2 = .ok (.iconst 0, 1)) ⟨by decide, by decide⟩
theorem ok_X10_notesOf_3 : ok_S 89 3 (sf_st 0 3 4) := ok_istore_n (by decide +kernel : decode (mb_ 89) 3 = .ok (.istore_n 3, 1)) rfl
theorem ok_X10_notesOf_4 : ok_S 89 4 (sf_ld 0 3 5) := ok_iload_n (by decide +kernel : decode (mb_ 89) 4 = .ok (.iload_n 3, 1)) rfl
theorem ok_X10_notesOf_5 : ok_S 89 5 (sf_ld 2 0 6) := ok_aload_n (by decide +kernel : decode (mb_ 89) 5 = .ok (.aload_n 0, 1)) rfl
theorem ok_X10_notesOf_6 : ok_S 89 6 (sf_gi 8 8 3 9) := ok_gi fd_8_3 (by decide +kernel : decode (mb_ 89) 6 = .ok (.getfield 21, 3)) tw_54 (Or.inl rfl) rfl
theorem ok_X10_notesOf_9 : ok_S 89 9 (sf_ic 3 45 12) := ok_ic3 (by decide +kernel : decode (mb_ 89) 9 = .ok (.if_icmp .ge 36, 3)) (by decide)
theorem ok_X10_notesOf_12 : ok_S 89 12 (sf_ld 2 0 13) := ok_aload_n (by decide +kernel : decode (mb_ 89) 12 = .ok (.aload_n 0, 1)) rfl
theorem ok_X10_notesOf_13 : ok_S 89 13 (sf_ld 0 3 14) := ok_iload_n (by decide +kernel : decode (mb_ 89) 13 = .ok (.iload_n 3, 1)) rfl
theorem ok_X10_notesOf_14 : ok_S 89 14 (sf_cv 8 [2, 0] 91 17) := ok_cv mt_91 cl_8 (by decide +kernel : decode (mb_ 89) 14 = .ok (.invokevirtual 52, 3)) tw_520 tw_521 tw_522 tw_3 rfl (by decide +kernel) (mh_ok rfl) (by decide) (by decide)
theorem ok_X10_notesOf_17 : ok_S 89 17 (sf_st 2 4 19) := ok_astore (by decide +kernel : decode (mb_ 89) 17 = .ok (.astore 4, 2))
theorem ok_X10_notesOf_19 : ok_S 89 19 (sf_ld 2 4 21) := ok_aload (by decide +kernel : decode (mb_ 89) 19 = .ok (.aload 4, 2))
theorem ok_X10_notesOf_21 : ok_S 89 21 (sf_nul 39 24) := ok_nul (by decide +kernel : decode (mb_ 89) 21 = .ok (.ifnull 18, 3)) (by decide)
theorem ok_X10_notesOf_24 : ok_S 89 24 (sf_ld 2 4 26) := ok_aload (by decide +kernel : decode (mb_ 89) 24 = .ok (.aload 4, 2))
theorem ok_X10_notesOf_26 : ok_S 89 26 (sf_gi 1 6 3 29) := ok_gi fd_1_3 (by decide +kernel : decode (mb_ 89) 26 = .ok (.getfield 60, 3)) tw_425 (Or.inl rfl) rfl
theorem ok_X10_notesOf_29 : ok_S 89 29 (sf_ld 0 1 30) := ok_iload_n (by decide +kernel : decode (mb_ 89) 29 = .ok (.iload_n 1, 1)) rfl
theorem ok_X10_notesOf_30 : ok_S 89 30 (sf_ic 1 39 33) := ok_ic1 (by decide +kernel : decode (mb_ 89) 30 = .ok (.if_icmp .ne 9, 3)) (by decide)
theorem ok_X10_notesOf_33 : ok_S 89 33 (sf_ld 0 2 34) := ok_iload_n (by decide +kernel : decode (mb_ 89) 33 = .ok (.iload_n 2, 1)) rfl
theorem ok_X10_notesOf_34 : ok_S 89 34 (sf_push (0, 1) 35) := ok_iconst (by decide +kernel : decode (mb_ 89) 34 = .ok (.iconst 1, 1)) ⟨by decide, by decide⟩
theorem ok_X10_notesOf_35 : ok_S 89 35 (sf_ld 0 3 36) := ok_iload_n (by decide +kernel : decode (mb_ 89) 35 = .ok (.iload_n 3, 1)) rfl
theorem ok_X10_notesOf_36 : ok_S 89 36 (sf_i2 mx_shl 37) := ok_ishl (by decide +kernel : decode (mb_ 89) 36 = .ok (.ishl, 1))
theorem ok_X10_notesOf_37 : ok_S 89 37 (sf_i2 mx_or 38) := ok_ior (by decide +kernel : decode (mb_ 89) 37 = .ok (.ior, 1))
theorem ok_X10_notesOf_38 : ok_S 89 38 (sf_st 0 2 39) := ok_istore_n (by decide +kernel : decode (mb_ 89) 38 = .ok (.istore_n 2, 1)) rfl
theorem ok_X10_notesOf_39 : ok_S 89 39 (sf_inc 3 1 42) := ok_iinc (by decide +kernel : decode (mb_ 89) 39 = .ok (.iinc 3 1, 3))
theorem ok_X10_notesOf_42 : ok_S 89 42 (sf_go 4) := ok_goto (by decide +kernel : decode (mb_ 89) 42 = .ok (.goto (-38), 3)) (by decide)
theorem ok_X10_notesOf_45 : ok_S 89 45 (sf_ld 0 2 46) := ok_iload_n (by decide +kernel : decode (mb_ 89) 45 = .ok (.iload_n 2, 1)) rfl
theorem ok_X10_notesOf_46 : ok_S 89 46 (sf_ret 0) := ok_ret0 (by decide +kernel : decode (mb_ 89) 46 = .ok (.ireturn, 1)) rfl
theorem ok_X10_notesOf (pc : Nat) : ok_S 89 pc (cd_X10_notesOf pc) :=
  (ok_bf (ok_bf (ok_bf (ok_bf (ok_bf (ok_lf pc ok_X10_notesOf_46) (ok_lf pc ok_X10_notesOf_45)) (ok_bf (ok_lf pc ok_X10_notesOf_42) (ok_lf pc ok_X10_notesOf_39))) (ok_bf (ok_bf (ok_lf pc ok_X10_notesOf_38) (ok_lf pc ok_X10_notesOf_37)) (ok_lf pc ok_X10_notesOf_36))) (ok_bf (ok_bf (ok_bf (ok_lf pc ok_X10_notesOf_35) (ok_lf pc ok_X10_notesOf_34)) (ok_bf (ok_lf pc ok_X10_notesOf_33) (ok_lf pc ok_X10_notesOf_30))) (ok_bf (ok_bf (ok_lf pc ok_X10_notesOf_29) (ok_lf pc ok_X10_notesOf_26)) (ok_lf pc ok_X10_notesOf_24)))) (ok_bf (ok_bf (ok_bf (ok_bf (ok_lf pc ok_X10_notesOf_21) (ok_lf pc ok_X10_notesOf_19)) (ok_bf (ok_lf pc ok_X10_notesOf_17) (ok_lf pc ok_X10_notesOf_14))) (ok_bf (ok_bf (ok_lf pc ok_X10_notesOf_13) (ok_lf pc ok_X10_notesOf_12)) (ok_lf pc ok_X10_notesOf_9))) (ok_bf (ok_bf (ok_bf (ok_lf pc ok_X10_notesOf_6) (ok_lf pc ok_X10_notesOf_5)) (ok_bf (ok_lf pc ok_X10_notesOf_4) (ok_lf pc ok_X10_notesOf_3))) (ok_bf (ok_bf (ok_lf pc ok_X10_notesOf_2) (ok_lf pc ok_X10_notesOf_1)) (ok_lf pc ok_X10_notesOf_0)))))
theorem mo_X10_notesOf (pc : Nat) : mo_S (cd_X10_notesOf pc) :=
  (mo_bf (mo_bf (mo_bf (mo_bf (mo_bf (mo_bf mo_ret mo_no) (mo_bf mo_ld mo_no)) (mo_bf (mo_bf mo_go mo_no) (mo_bf mo_inc mo_no))) (mo_bf (mo_bf (mo_bf mo_st mo_no) (mo_bf mo_i2 mo_no)) (mo_bf mo_i2 mo_no))) (mo_bf (mo_bf (mo_bf (mo_bf mo_ld mo_no) (mo_bf mo_push mo_no)) (mo_bf (mo_bf mo_ld mo_no) (mo_bf mo_ic mo_no))) (mo_bf (mo_bf (mo_bf mo_ld mo_no) (mo_bf mo_gi mo_no)) (mo_bf mo_ld mo_no)))) (mo_bf (mo_bf (mo_bf (mo_bf (mo_bf mo_nul mo_no) (mo_bf mo_ld mo_no)) (mo_bf (mo_bf mo_st mo_no) (mo_bf mo_cv mo_no))) (mo_bf (mo_bf (mo_bf mo_ld mo_no) (mo_bf mo_ld mo_no)) (mo_bf mo_ic mo_no))) (mo_bf (mo_bf (mo_bf (mo_bf mo_gi mo_no) (mo_bf mo_ld mo_no)) (mo_bf (mo_bf mo_ld mo_no) (mo_bf mo_st mo_no))) (mo_bf (mo_bf (mo_bf mo_push mo_no) (mo_bf mo_st mo_no)) (mo_bf mo_push mo_no)))))
theorem ok_X10_basesOf_0 : ok_S 90 0 (sf_push (0, 1) 1) := ok_iconst (by decide +kernel : decode (mb_ 90) 0 = .ok (.iconst 1, 1)) ⟨by decide, by decide⟩
theorem ok_X10_basesOf_1 : ok_S 90 1 (sf_ld 2 0 2) := ok_aload_n (by decide +kernel : decode (mb_ 90) 1 = .ok (.aload_n 0, 1)) rfl
theorem ok_X10_basesOf_2 : ok_S 90 2 (sf_gr 8 8 1 5) := ok_gr fd_8_1 (by decide +kernel : decode (mb_ 90) 2 = .ok (.getfield 15, 3)) tw_49 (Or.inl rfl) rfl
theorem ok_X10_basesOf_5 : ok_S 90 5 (sf_ld 0 1 6) := ok_iload_n (by decide +kernel : decode (mb_ 90) 5 = .ok (.iload_n 1, 1)) rfl
theorem ok_X10_basesOf_6 : ok_S 90 6 (sf_iald 7) := ok_iald (by decide +kernel : decode (mb_ 90) 6 = .ok (.iaload, 1))
theorem ok_X10_basesOf_7 : ok_S 90 7 (sf_push (0, 1) 8) := ok_iconst (by decide +kernel : decode (mb_ 90) 7 = .ok (.iconst 1, 1)) ⟨by decide, by decide⟩
theorem ok_X10_basesOf_8 : ok_S 90 8 (sf_i2 mx_add 9) := ok_iadd (by decide +kernel : decode (mb_ 90) 8 = .ok (.iadd, 1))
theorem ok_X10_basesOf_9 : ok_S 90 9 (sf_i2 mx_shl 10) := ok_ishl (by decide +kernel : decode (mb_ 90) 9 = .ok (.ishl, 1))
theorem ok_X10_basesOf_10 : ok_S 90 10 (sf_push (0, 1) 11) := ok_iconst (by decide +kernel : decode (mb_ 90) 10 = .ok (.iconst 1, 1)) ⟨by decide, by decide⟩
theorem ok_X10_basesOf_11 : ok_S 90 11 (sf_ld 2 0 12) := ok_aload_n (by decide +kernel : decode (mb_ 90) 11 = .ok (.aload_n 0, 1)) rfl
theorem ok_X10_basesOf_12 : ok_S 90 12 (sf_gr 8 8 0 15) := ok_gr fd_8_0 (by decide +kernel : decode (mb_ 90) 12 = .ok (.getfield 9, 3)) tw_47 (Or.inl rfl) rfl
theorem ok_X10_basesOf_15 : ok_S 90 15 (sf_ld 0 1 16) := ok_iload_n (by decide +kernel : decode (mb_ 90) 15 = .ok (.iload_n 1, 1)) rfl
theorem ok_X10_basesOf_16 : ok_S 90 16 (sf_iald 17) := ok_iald (by decide +kernel : decode (mb_ 90) 16 = .ok (.iaload, 1))
theorem ok_X10_basesOf_17 : ok_S 90 17 (sf_i2 mx_shl 18) := ok_ishl (by decide +kernel : decode (mb_ 90) 17 = .ok (.ishl, 1))
theorem ok_X10_basesOf_18 : ok_S 90 18 (sf_i2 mx_sub 19) := ok_isub (by decide +kernel : decode (mb_ 90) 18 = .ok (.isub, 1))
theorem ok_X10_basesOf_19 : ok_S 90 19 (sf_ret 0) := ok_ret0 (by decide +kernel : decode (mb_ 90) 19 = .ok (.ireturn, 1)) rfl
theorem ok_X10_basesOf (pc : Nat) : ok_S 90 pc (cd_X10_basesOf pc) :=
  (ok_bf (ok_bf (ok_bf (ok_bf (ok_lf pc ok_X10_basesOf_19) (ok_lf pc ok_X10_basesOf_18)) (ok_bf (ok_lf pc ok_X10_basesOf_17) (ok_lf pc ok_X10_basesOf_16))) (ok_bf (ok_bf (ok_lf pc ok_X10_basesOf_15) (ok_lf pc ok_X10_basesOf_12)) (ok_bf (ok_lf pc ok_X10_basesOf_11) (ok_lf pc ok_X10_basesOf_10)))) (ok_bf (ok_bf (ok_bf (ok_lf pc ok_X10_basesOf_9) (ok_lf pc ok_X10_basesOf_8)) (ok_bf (ok_lf pc ok_X10_basesOf_7) (ok_lf pc ok_X10_basesOf_6))) (ok_bf (ok_bf (ok_lf pc ok_X10_basesOf_5) (ok_lf pc ok_X10_basesOf_2)) (ok_bf (ok_lf pc ok_X10_basesOf_1) (ok_lf pc ok_X10_basesOf_0)))))
theorem mo_X10_basesOf (pc : Nat) : mo_S (cd_X10_basesOf pc) :=
  (mo_bf (mo_bf (mo_bf (mo_bf (mo_bf mo_ret mo_no) (mo_bf mo_i2 mo_no)) (mo_bf (mo_bf mo_i2 mo_no) (mo_bf mo_iald mo_no))) (mo_bf (mo_bf (mo_bf mo_ld mo_no) (mo_bf mo_gr mo_no)) (mo_bf (mo_bf mo_ld mo_no) (mo_bf mo_push mo_no)))) (mo_bf (mo_bf (mo_bf (mo_bf mo_i2 mo_no) (mo_bf mo_i2 mo_no)) (mo_bf (mo_bf mo_push mo_no) (mo_bf mo_iald mo_no))) (mo_bf (mo_bf (mo_bf mo_ld mo_no) (mo_bf mo_gr mo_no)) (mo_bf (mo_bf mo_ld mo_no) (mo_bf mo_push mo_no)))))
theorem ok_X10_noteAt_0 : ok_S 91 0 (sf_ld 0 1 1) := ok_iload_n (by decide +kernel : decode (mb_ 91) 0 = .ok (.iload_n 1, 1)) rfl
theorem ok_X10_noteAt_1 : ok_S 91 1 (sf_if 2 21 4) := ok_if2 (by decide +kernel : decode (mb_ 91) 1 = .ok (.ifCond .lt 20, 3)) (by decide)
theorem ok_X10_noteAt_4 : ok_S 91 4 (sf_ld 0 1 5) := ok_iload_n (by decide +kernel : decode (mb_ 91) 4 = .ok (.iload_n 1, 1)) rfl
theorem ok_X10_noteAt_5 : ok_S 91 5 (sf_ld 2 0 6) := ok_aload_n (by decide +kernel : decode (mb_ 91) 5 = .ok (.aload_n 0, 1)) rfl
theorem ok_X10_noteAt_6 : ok_S 91 6 (sf_gi 8 8 3 9) := ok_gi fd_8_3 (by decide +kernel : decode (mb_ 91) 6 = .ok (.getfield 21, 3)) tw_54 (Or.inl rfl) rfl
theorem ok_X10_noteAt_9 : ok_S 91 9 (sf_ic 3 21 12) := ok_ic3 (by decide +kernel : decode (mb_ 91) 9 = .ok (.if_icmp .ge 12, 3)) (by decide)
theorem ok_X10_noteAt_12 : ok_S 91 12 (sf_ld 2 0 13) := ok_aload_n (by decide +kernel : decode (mb_ 91) 12 = .ok (.aload_n 0, 1)) rfl
theorem ok_X10_noteAt_13 : ok_S 91 13 (sf_gr 8 8 6 16) := ok_gr fd_8_6 (by decide +kernel : decode (mb_ 91) 13 = .ok (.getfield 33, 3)) tw_65 (Or.inl rfl) rfl
theorem ok_X10_noteAt_16 : ok_S 91 16 (sf_ld 0 1 17) := ok_iload_n (by decide +kernel : decode (mb_ 91) 16 = .ok (.iload_n 1, 1)) rfl
theorem ok_X10_noteAt_17 : ok_S 91 17 (sf_aald 22 18) := ok_aald (by decide) (by decide +kernel : decode (mb_ 91) 17 = .ok (.aaload, 1))
theorem ok_X10_noteAt_18 : ok_S 91 18 (sf_go 22) := ok_goto (by decide +kernel : decode (mb_ 91) 18 = .ok (.goto 4, 3)) (by decide)
theorem ok_X10_noteAt_21 : ok_S 91 21 (sf_push (2, (-1)) 22) := ok_null (by decide +kernel : decode (mb_ 91) 21 = .ok (.aconst_null, 1))
theorem ok_X10_noteAt_22 : ok_S 91 22 (sf_ret 2) := ok_ret2 (by decide +kernel : decode (mb_ 91) 22 = .ok (.areturn, 1)) rfl
theorem ok_X10_noteAt (pc : Nat) : ok_S 91 pc (cd_X10_noteAt pc) :=
  (ok_bf (ok_bf (ok_bf (ok_bf (ok_lf pc ok_X10_noteAt_22) (ok_lf pc ok_X10_noteAt_21)) (ok_bf (ok_lf pc ok_X10_noteAt_18) (ok_lf pc ok_X10_noteAt_17))) (ok_bf (ok_bf (ok_lf pc ok_X10_noteAt_16) (ok_lf pc ok_X10_noteAt_13)) (ok_lf pc ok_X10_noteAt_12))) (ok_bf (ok_bf (ok_bf (ok_lf pc ok_X10_noteAt_9) (ok_lf pc ok_X10_noteAt_6)) (ok_lf pc ok_X10_noteAt_5)) (ok_bf (ok_bf (ok_lf pc ok_X10_noteAt_4) (ok_lf pc ok_X10_noteAt_1)) (ok_lf pc ok_X10_noteAt_0))))
theorem mo_X10_noteAt (pc : Nat) : mo_S (cd_X10_noteAt pc) :=
  (mo_bf (mo_bf (mo_bf (mo_bf (mo_bf mo_ret mo_no) (mo_bf mo_push mo_no)) (mo_bf (mo_bf mo_go mo_no) (mo_bf mo_aald mo_no))) (mo_bf (mo_bf (mo_bf mo_ld mo_no) (mo_bf mo_gr mo_no)) (mo_bf mo_ld mo_no))) (mo_bf (mo_bf (mo_bf (mo_bf mo_ic mo_no) (mo_bf mo_gi mo_no)) (mo_bf mo_ld mo_no)) (mo_bf (mo_bf (mo_bf mo_ld mo_no) (mo_bf mo_if mo_no)) (mo_bf mo_ld mo_no))))
theorem ok_X10_addNote_0 : ok_S 92 0 (sf_ld 2 0 1) := ok_aload_n (by decide +kernel : decode (mb_ 92) 0 = .ok (.aload_n 0, 1)) rfl
theorem ok_X10_addNote_1 : ok_S 92 1 (sf_gi 8 8 3 4) := ok_gi fd_8_3 (by decide +kernel : decode (mb_ 92) 1 = .ok (.getfield 21, 3)) tw_54 (Or.inl rfl) rfl
theorem ok_X10_addNote_4 : ok_S 92 4 (sf_push (0, 6) 6) := ok_bipush (by decide +kernel : decode (mb_ 92) 4 = .ok (.bipush 6, 2)) ⟨by decide, by decide⟩ (by decide +kernel)
theorem ok_X10_addNote_6 : ok_S 92 6 (sf_ic 2 12 9) := ok_ic2 (by decide +kernel : decode (mb_ 92) 6 = .ok (.if_icmp .lt 6, 3)) (by decide)
theorem ok_X10_addNote_9 : ok_S 92 9 (sf_push (0, (-2)) 11) := ok_bipush (by decide +kernel : decode (mb_ 92) 9 = .ok (.bipush (-2), 2)) ⟨by decide, by decide⟩ (by decide +kernel)
theorem ok_X10_addNote_11 : ok_S 92 11 (sf_ret 0) := ok_ret0 (by decide +kernel : decode (mb_ 92) 11 = .ok (.ireturn, 1)) rfl
theorem ok_X10_addNote_12 : ok_S 92 12 (sf_ld 2 0 13) := ok_aload_n (by decide +kernel : decode (mb_ 92) 12 = .ok (.aload_n 0, 1)) rfl
theorem ok_X10_addNote_13 : ok_S 92 13 (sf_gr 8 8 6 16) := ok_gr fd_8_6 (by decide +kernel : decode (mb_ 92) 13 = .ok (.getfield 33, 3)) tw_65 (Or.inl rfl) rfl
theorem ok_X10_addNote_16 : ok_S 92 16 (sf_ld 2 0 17) := ok_aload_n (by decide +kernel : decode (mb_ 92) 16 = .ok (.aload_n 0, 1)) rfl
theorem ok_X10_addNote_17 : ok_S 92 17 (sf_gi 8 8 3 20) := ok_gi fd_8_3 (by decide +kernel : decode (mb_ 92) 17 = .ok (.getfield 21, 3)) tw_54 (Or.inl rfl) rfl
theorem ok_X10_addNote_20 : ok_S 92 20 (sf_ld 0 1 21) := ok_iload_n (by decide +kernel : decode (mb_ 92) 20 = .ok (.iload_n 1, 1)) rfl
theorem ok_X10_addNote_21 : ok_S 92 21 (sf_ld 2 0 22) := ok_aload_n (by decide +kernel : decode (mb_ 92) 21 = .ok (.aload_n 0, 1)) rfl
theorem ok_X10_addNote_22 : ok_S 92 22 (sf_gi 8 8 3 25) := ok_gi fd_8_3 (by decide +kernel : decode (mb_ 92) 22 = .ok (.getfield 21, 3)) tw_54 (Or.inl rfl) rfl
theorem ok_X10_addNote_25 : ok_S 92 25 (sf_ld 0 2 26) := ok_iload_n (by decide +kernel : decode (mb_ 92) 25 = .ok (.iload_n 2, 1)) rfl
theorem ok_X10_addNote_26 : ok_S 92 26 (sf_ld 0 3 27) := ok_iload_n (by decide +kernel : decode (mb_ 92) 26 = .ok (.iload_n 3, 1)) rfl
theorem ok_X10_addNote_27 : ok_S 92 27 (sf_ld 2 4 29) := ok_aload (by decide +kernel : decode (mb_ 92) 27 = .ok (.aload 4, 2))
theorem ok_X10_addNote_29 : ok_S 92 29 (sf_cs [0, 0, 0, 0, 2] 93 32) := ok_cs mt_93 (by decide +kernel : decode (mb_ 92) 29 = .ok (.invokestatic 78, 3)) tw_384 tw_385 tw_3 (by decide +kernel) (mh_ok rfl) (by decide) (by decide)
theorem ok_X10_addNote_32 : ok_S 92 32 (sf_aast 22 1 6 33) := ok_aast (Or.inl ⟨rfl, rfl⟩) aa_22 (by decide +kernel : decode (mb_ 92) 32 = .ok (.aastore, 1))
theorem ok_X10_addNote_33 : ok_S 92 33 (sf_ld 2 0 34) := ok_aload_n (by decide +kernel : decode (mb_ 92) 33 = .ok (.aload_n 0, 1)) rfl
theorem ok_X10_addNote_34 : ok_S 92 34 (sf_dup 35) := ok_dup (by decide +kernel : decode (mb_ 92) 34 = .ok (.dup, 1))
theorem ok_X10_addNote_35 : ok_S 92 35 (sf_gi 8 8 3 38) := ok_gi fd_8_3 (by decide +kernel : decode (mb_ 92) 35 = .ok (.getfield 21, 3)) tw_54 (Or.inl rfl) rfl
theorem ok_X10_addNote_38 : ok_S 92 38 (sf_push (0, 1) 39) := ok_iconst (by decide +kernel : decode (mb_ 92) 38 = .ok (.iconst 1, 1)) ⟨by decide, by decide⟩
theorem ok_X10_addNote_39 : ok_S 92 39 (sf_i2 mx_add 40) := ok_iadd (by decide +kernel : decode (mb_ 92) 39 = .ok (.iadd, 1))
theorem ok_X10_addNote_40 : ok_S 92 40 (sf_pi 8 8 3 43) := ok_pi fd_8_3 (by decide +kernel : decode (mb_ 92) 40 = .ok (.putfield 21, 3)) tw_54 rfl (Or.inl ff_8_3) rfl
theorem ok_X10_addNote_43 : ok_S 92 43 (sf_ld 2 0 44) := ok_aload_n (by decide +kernel : decode (mb_ 92) 43 = .ok (.aload_n 0, 1)) rfl
theorem ok_X10_addNote_44 : ok_S 92 44 (sf_dup 45) := ok_dup (by decide +kernel : decode (mb_ 92) 44 = .ok (.dup, 1))
theorem ok_X10_addNote_45 : ok_S 92 45 (sf_gi 8 8 5 48) := ok_gi fd_8_5 (by decide +kernel : decode (mb_ 92) 45 = .ok (.getfield 28, 3)) tw_62 (Or.inl rfl) rfl
theorem ok_X10_addNote_48 : ok_S 92 48 (sf_push (0, 1) 49) := ok_iconst (by decide +kernel : decode (mb_ 92) 48 = .ok (.iconst 1, 1)) ⟨by decide, by decide⟩
theorem ok_X10_addNote_49 : ok_S 92 49 (sf_i2 mx_add 50) := ok_iadd (by decide +kernel : decode (mb_ 92) 49 = .ok (.iadd, 1))
theorem ok_X10_addNote_50 : ok_S 92 50 (sf_pi 8 8 5 53) := ok_pi fd_8_5 (by decide +kernel : decode (mb_ 92) 50 = .ok (.putfield 28, 3)) tw_62 rfl (Or.inl ff_8_5) rfl
theorem ok_X10_addNote_53 : ok_S 92 53 (sf_ld 2 0 54) := ok_aload_n (by decide +kernel : decode (mb_ 92) 53 = .ok (.aload_n 0, 1)) rfl
theorem ok_X10_addNote_54 : ok_S 92 54 (sf_gi 8 8 3 57) := ok_gi fd_8_3 (by decide +kernel : decode (mb_ 92) 54 = .ok (.getfield 21, 3)) tw_54 (Or.inl rfl) rfl
theorem ok_X10_addNote_57 : ok_S 92 57 (sf_push (0, 1) 58) := ok_iconst (by decide +kernel : decode (mb_ 92) 57 = .ok (.iconst 1, 1)) ⟨by decide, by decide⟩
theorem ok_X10_addNote_58 : ok_S 92 58 (sf_i2 mx_sub 59) := ok_isub (by decide +kernel : decode (mb_ 92) 58 = .ok (.isub, 1))
theorem ok_X10_addNote_59 : ok_S 92 59 (sf_ret 0) := ok_ret0 (by decide +kernel : decode (mb_ 92) 59 = .ok (.ireturn, 1)) rfl
theorem ok_X10_addNote (pc : Nat) : ok_S 92 pc (cd_X10_addNote pc) :=
  (ok_bf (ok_bf (ok_bf (ok_bf (ok_bf (ok_bf (ok_lf pc ok_X10_addNote_59) (ok_lf pc ok_X10_addNote_58)) (ok_lf pc ok_X10_addNote_57)) (ok_bf (ok_lf pc ok_X10_addNote_54) (ok_lf pc ok_X10_addNote_53))) (ok_bf (ok_bf (ok_lf pc ok_X10_addNote_50) (ok_lf pc ok_X10_addNote_49)) (ok_bf (ok_lf pc ok_X10_addNote_48) (ok_lf pc ok_X10_addNote_45)))) (ok_bf (ok_bf (ok_bf (ok_bf (ok_lf pc ok_X10_addNote_44) (ok_lf pc ok_X10_addNote_43)) (ok_lf pc ok_X10_addNote_40)) (ok_bf (ok_lf pc ok_X10_addNote_39) (ok_lf pc ok_X10_addNote_38))) (ok_bf (ok_bf (ok_lf pc ok_X10_addNote_35) (ok_lf pc ok_X10_addNote_34)) (ok_bf (ok_lf pc ok_X10_addNote_33) (ok_lf pc ok_X10_addNote_32))))) (ok_bf (ok_bf (ok_bf (ok_bf (ok_bf (ok_lf pc ok_X10_addNote_29) (ok_lf pc ok_X10_addNote_27)) (ok_lf pc ok_X10_addNote_26)) (ok_bf (ok_lf pc ok_X10_addNote_25) (ok_lf pc ok_X10_addNote_22))) (ok_bf (ok_bf (ok_lf pc ok_X10_addNote_21) (ok_lf pc ok_X10_addNote_20)) (ok_bf (ok_lf pc ok_X10_addNote_17) (ok_lf pc ok_X10_addNote_16)))) (ok_bf (ok_bf (ok_bf (ok_lf pc ok_X10_addNote_13) (ok_lf pc ok_X10_addNote_12)) (ok_bf (ok_lf pc ok_X10_addNote_11) (ok_lf pc ok_X10_addNote_9))) (ok_bf (ok_bf (ok_lf pc ok_X10_addNote_6) (ok_lf pc ok_X10_addNote_4)) (ok_bf (ok_lf pc ok_X10_addNote_1) (ok_lf pc ok_X10_addNote_0))))))
theorem mo_X10_addNote (pc : Nat) : mo_S (cd_X10_addNote pc) :=
  (mo_bf (mo_bf (mo_bf (mo_bf (mo_bf (mo_bf (mo_bf mo_ret mo_no) (mo_bf mo_i2 mo_no)) (mo_bf mo_push mo_no)) (mo_bf (mo_bf mo_gi mo_no) (mo_bf mo_ld mo_no))) (mo_bf (mo_bf (mo_bf mo_pi mo_no) (mo_bf mo_i2 mo_no)) (mo_bf (mo_bf mo_push mo_no) (mo_bf mo_gi mo_no)))) (mo_bf (mo_bf (mo_bf (mo_bf (mo_bf mo_dup mo_no) (mo_bf mo_ld mo_no)) (mo_bf mo_pi mo_no)) (mo_bf (mo_bf mo_i2 mo_no) (mo_bf mo_push mo_no))) (mo_bf (mo_bf (mo_bf mo_gi mo_no) (mo_bf mo_dup mo_no)) (mo_bf (mo_bf mo_ld mo_no) (mo_bf mo_aast mo_no))))) (mo_bf (mo_bf (mo_bf (mo_bf (mo_bf (mo_bf mo_cs mo_no) (mo_bf mo_ld mo_no)) (mo_bf mo_ld mo_no)) (mo_bf (mo_bf mo_ld mo_no) (mo_bf mo_gi mo_no))) (mo_bf (mo_bf (mo_bf mo_ld mo_no) (mo_bf mo_ld mo_no)) (mo_bf (mo_bf mo_gi mo_no) (mo_bf mo_ld mo_no)))) (mo_bf (mo_bf (mo_bf (mo_bf mo_gr mo_no) (mo_bf mo_ld mo_no)) (mo_bf (mo_bf mo_ret mo_no) (mo_bf mo_push mo_no))) (mo_bf (mo_bf (mo_bf mo_ic mo_no) (mo_bf mo_push mo_no)) (mo_bf (mo_bf mo_gi mo_no) (mo_bf mo_ld mo_no))))))
theorem ok_X10_made_0 : ok_S 93 0 (sf_ld 0 0 1) := ok_iload_n (by decide +kernel : decode (mb_ 93) 0 = .ok (.iload_n 0, 1)) rfl
theorem ok_X10_made_1 : ok_S 93 1 (sf_sw [(1, 36), (2, 49), (3, 62), (4, 75), (5, 88)] 101) := ok_tsw (by decide +kernel : decode (mb_ 93) 1 = .ok (.tableswitch 100 1 5 #[35, 48, 61, 74, 87], 35)) (by decide) (by decide) (by decide) (by decide)
theorem ok_X10_made_36 : ok_S 93 36 (sf_new 2 39) := ok_new cn_2 (by decide +kernel : decode (mb_ 93) 36 = .ok (.new 82, 3)) tw_387 tw_388 tw_15
theorem ok_X10_made_39 : ok_S 93 39 (sf_dup 40) := ok_dup (by decide +kernel : decode (mb_ 93) 39 = .ok (.dup, 1))
theorem ok_X10_made_40 : ok_S 93 40 (sf_ld 0 1 41) := ok_iload_n (by decide +kernel : decode (mb_ 93) 40 = .ok (.iload_n 1, 1)) rfl
theorem ok_X10_made_41 : ok_S 93 41 (sf_ld 0 2 42) := ok_iload_n (by decide +kernel : decode (mb_ 93) 41 = .ok (.iload_n 2, 1)) rfl
theorem ok_X10_made_42 : ok_S 93 42 (sf_ld 0 3 43) := ok_iload_n (by decide +kernel : decode (mb_ 93) 42 = .ok (.iload_n 3, 1)) rfl
theorem ok_X10_made_43 : ok_S 93 43 (sf_ld 2 4 45) := ok_aload (by decide +kernel : decode (mb_ 93) 43 = .ok (.aload 4, 2))
theorem ok_X10_made_45 : ok_S 93 45 (sf_ci 1 6 [2, 0, 0, 0, 2] 54 48) := ok_ci mt_54 (by decide) (by decide) (by decide +kernel : decode (mb_ 93) 45 = .ok (.invokespecial 84, 3)) tw_389 tw_390 tw_15 rfl rfl rfl (by decide +kernel) (mh_ok rfl) (by decide) (by decide)
theorem ok_X10_made_48 : ok_S 93 48 (sf_ret 2) := ok_ret2 (by decide +kernel : decode (mb_ 93) 48 = .ok (.areturn, 1)) rfl
theorem ok_X10_made_49 : ok_S 93 49 (sf_new 3 52) := ok_new cn_3 (by decide +kernel : decode (mb_ 93) 49 = .ok (.new 87, 3)) tw_438 tw_439 tw_16
theorem ok_X10_made_52 : ok_S 93 52 (sf_dup 53) := ok_dup (by decide +kernel : decode (mb_ 93) 52 = .ok (.dup, 1))
theorem ok_X10_made_53 : ok_S 93 53 (sf_ld 0 1 54) := ok_iload_n (by decide +kernel : decode (mb_ 93) 53 = .ok (.iload_n 1, 1)) rfl
theorem ok_X10_made_54 : ok_S 93 54 (sf_ld 0 2 55) := ok_iload_n (by decide +kernel : decode (mb_ 93) 54 = .ok (.iload_n 2, 1)) rfl
theorem ok_X10_made_55 : ok_S 93 55 (sf_ld 0 3 56) := ok_iload_n (by decide +kernel : decode (mb_ 93) 55 = .ok (.iload_n 3, 1)) rfl
theorem ok_X10_made_56 : ok_S 93 56 (sf_ld 2 4 58) := ok_aload (by decide +kernel : decode (mb_ 93) 56 = .ok (.aload 4, 2))
theorem ok_X10_made_58 : ok_S 93 58 (sf_ci 1 6 [2, 0, 0, 0, 2] 0 61) := ok_ci mt_0 (by decide) (by decide) (by decide +kernel : decode (mb_ 93) 58 = .ok (.invokespecial 89, 3)) tw_440 tw_441 tw_16 rfl rfl rfl (by decide +kernel) (mh_ok rfl) (by decide) (by decide)
theorem ok_X10_made_61 : ok_S 93 61 (sf_ret 2) := ok_ret2 (by decide +kernel : decode (mb_ 93) 61 = .ok (.areturn, 1)) rfl
theorem ok_X10_made_62 : ok_S 93 62 (sf_new 4 65) := ok_new cn_4 (by decide +kernel : decode (mb_ 93) 62 = .ok (.new 90, 3)) tw_449 tw_450 tw_17
theorem ok_X10_made_65 : ok_S 93 65 (sf_dup 66) := ok_dup (by decide +kernel : decode (mb_ 93) 65 = .ok (.dup, 1))
theorem ok_X10_made_66 : ok_S 93 66 (sf_ld 0 1 67) := ok_iload_n (by decide +kernel : decode (mb_ 93) 66 = .ok (.iload_n 1, 1)) rfl
theorem ok_X10_made_67 : ok_S 93 67 (sf_ld 0 2 68) := ok_iload_n (by decide +kernel : decode (mb_ 93) 67 = .ok (.iload_n 2, 1)) rfl
theorem ok_X10_made_68 : ok_S 93 68 (sf_ld 0 3 69) := ok_iload_n (by decide +kernel : decode (mb_ 93) 68 = .ok (.iload_n 3, 1)) rfl
theorem ok_X10_made_69 : ok_S 93 69 (sf_ld 2 4 71) := ok_aload (by decide +kernel : decode (mb_ 93) 69 = .ok (.aload 4, 2))
theorem ok_X10_made_71 : ok_S 93 71 (sf_ci 1 6 [2, 0, 0, 0, 2] 33 74) := ok_ci mt_33 (by decide) (by decide) (by decide +kernel : decode (mb_ 93) 71 = .ok (.invokespecial 92, 3)) tw_451 tw_452 tw_17 rfl rfl rfl (by decide +kernel) (mh_ok rfl) (by decide) (by decide)
theorem ok_X10_made_74 : ok_S 93 74 (sf_ret 2) := ok_ret2 (by decide +kernel : decode (mb_ 93) 74 = .ok (.areturn, 1)) rfl
theorem ok_X10_made_75 : ok_S 93 75 (sf_new 5 78) := ok_new cn_5 (by decide +kernel : decode (mb_ 93) 75 = .ok (.new 93, 3)) tw_460 tw_461 tw_18
theorem ok_X10_made_78 : ok_S 93 78 (sf_dup 79) := ok_dup (by decide +kernel : decode (mb_ 93) 78 = .ok (.dup, 1))
theorem ok_X10_made_79 : ok_S 93 79 (sf_ld 0 1 80) := ok_iload_n (by decide +kernel : decode (mb_ 93) 79 = .ok (.iload_n 1, 1)) rfl
theorem ok_X10_made_80 : ok_S 93 80 (sf_ld 0 2 81) := ok_iload_n (by decide +kernel : decode (mb_ 93) 80 = .ok (.iload_n 2, 1)) rfl
theorem ok_X10_made_81 : ok_S 93 81 (sf_ld 0 3 82) := ok_iload_n (by decide +kernel : decode (mb_ 93) 81 = .ok (.iload_n 3, 1)) rfl
theorem ok_X10_made_82 : ok_S 93 82 (sf_ld 2 4 84) := ok_aload (by decide +kernel : decode (mb_ 93) 82 = .ok (.aload 4, 2))
theorem ok_X10_made_84 : ok_S 93 84 (sf_ci 1 6 [2, 0, 0, 0, 2] 80 87) := ok_ci mt_80 (by decide) (by decide) (by decide +kernel : decode (mb_ 93) 84 = .ok (.invokespecial 95, 3)) tw_462 tw_463 tw_18 rfl rfl rfl (by decide +kernel) (mh_ok rfl) (by decide) (by decide)
theorem ok_X10_made_87 : ok_S 93 87 (sf_ret 2) := ok_ret2 (by decide +kernel : decode (mb_ 93) 87 = .ok (.areturn, 1)) rfl
theorem ok_X10_made_88 : ok_S 93 88 (sf_new 6 91) := ok_new cn_6 (by decide +kernel : decode (mb_ 93) 88 = .ok (.new 96, 3)) tw_471 tw_472 tw_19
theorem ok_X10_made_91 : ok_S 93 91 (sf_dup 92) := ok_dup (by decide +kernel : decode (mb_ 93) 91 = .ok (.dup, 1))
theorem ok_X10_made_92 : ok_S 93 92 (sf_ld 0 1 93) := ok_iload_n (by decide +kernel : decode (mb_ 93) 92 = .ok (.iload_n 1, 1)) rfl
theorem ok_X10_made_93 : ok_S 93 93 (sf_ld 0 2 94) := ok_iload_n (by decide +kernel : decode (mb_ 93) 93 = .ok (.iload_n 2, 1)) rfl
theorem ok_X10_made_94 : ok_S 93 94 (sf_ld 0 3 95) := ok_iload_n (by decide +kernel : decode (mb_ 93) 94 = .ok (.iload_n 3, 1)) rfl
theorem ok_X10_made_95 : ok_S 93 95 (sf_ld 2 4 97) := ok_aload (by decide +kernel : decode (mb_ 93) 95 = .ok (.aload 4, 2))
theorem ok_X10_made_97 : ok_S 93 97 (sf_ci 1 6 [2, 0, 0, 0, 2] 7 100) := ok_ci mt_7 (by decide) (by decide) (by decide +kernel : decode (mb_ 93) 97 = .ok (.invokespecial 98, 3)) tw_473 tw_474 tw_19 rfl rfl rfl (by decide +kernel) (mh_ok rfl) (by decide) (by decide)
theorem ok_X10_made_100 : ok_S 93 100 (sf_ret 2) := ok_ret2 (by decide +kernel : decode (mb_ 93) 100 = .ok (.areturn, 1)) rfl
theorem ok_X10_made_101 : ok_S 93 101 (sf_new 1 104) := ok_new cn_1 (by decide +kernel : decode (mb_ 93) 101 = .ok (.new 31, 3)) tw_42 tw_482 tw_14
theorem ok_X10_made_104 : ok_S 93 104 (sf_dup 105) := ok_dup (by decide +kernel : decode (mb_ 93) 104 = .ok (.dup, 1))
theorem ok_X10_made_105 : ok_S 93 105 (sf_ld 0 1 106) := ok_iload_n (by decide +kernel : decode (mb_ 93) 105 = .ok (.iload_n 1, 1)) rfl
theorem ok_X10_made_106 : ok_S 93 106 (sf_ld 0 2 107) := ok_iload_n (by decide +kernel : decode (mb_ 93) 106 = .ok (.iload_n 2, 1)) rfl
theorem ok_X10_made_107 : ok_S 93 107 (sf_ld 0 3 108) := ok_iload_n (by decide +kernel : decode (mb_ 93) 107 = .ok (.iload_n 3, 1)) rfl
theorem ok_X10_made_108 : ok_S 93 108 (sf_ld 2 4 110) := ok_aload (by decide +kernel : decode (mb_ 93) 108 = .ok (.aload 4, 2))
theorem ok_X10_made_110 : ok_S 93 110 (sf_ci 1 6 [2, 0, 0, 0, 2] 38 113) := ok_ci mt_38 (by decide) (by decide) (by decide +kernel : decode (mb_ 93) 110 = .ok (.invokespecial 99, 3)) tw_483 tw_393 tw_14 rfl rfl rfl (by decide +kernel) (mh_ok rfl) (by decide) (by decide)
theorem ok_X10_made_113 : ok_S 93 113 (sf_ret 2) := ok_ret2 (by decide +kernel : decode (mb_ 93) 113 = .ok (.areturn, 1)) rfl
theorem ok_X10_made (pc : Nat) : ok_S 93 pc (cd_X10_made pc) :=
  (ok_bf (ok_bf (ok_bf (ok_bf (ok_bf (ok_bf (ok_lf pc ok_X10_made_113) (ok_lf pc ok_X10_made_110)) (ok_bf (ok_lf pc ok_X10_made_108) (ok_lf pc ok_X10_made_107))) (ok_bf (ok_bf (ok_lf pc ok_X10_made_106) (ok_lf pc ok_X10_made_105)) (ok_lf pc ok_X10_made_104))) (ok_bf (ok_bf (ok_bf (ok_lf pc ok_X10_made_101) (ok_lf pc ok_X10_made_100)) (ok_lf pc ok_X10_made_97)) (ok_bf (ok_bf (ok_lf pc ok_X10_made_95) (ok_lf pc ok_X10_made_94)) (ok_lf pc ok_X10_made_93)))) (ok_bf (ok_bf (ok_bf (ok_bf (ok_lf pc ok_X10_made_92) (ok_lf pc ok_X10_made_91)) (ok_lf pc ok_X10_made_88)) (ok_bf (ok_bf (ok_lf pc ok_X10_made_87) (ok_lf pc ok_X10_made_84)) (ok_lf pc ok_X10_made_82))) (ok_bf (ok_bf (ok_bf (ok_lf pc ok_X10_made_81) (ok_lf pc ok_X10_made_80)) (ok_lf pc ok_X10_made_79)) (ok_bf (ok_bf (ok_lf pc ok_X10_made_78) (ok_lf pc ok_X10_made_75)) (ok_lf pc ok_X10_made_74))))) (ok_bf (ok_bf (ok_bf (ok_bf (ok_bf (ok_lf pc ok_X10_made_71) (ok_lf pc ok_X10_made_69)) (ok_bf (ok_lf pc ok_X10_made_68) (ok_lf pc ok_X10_made_67))) (ok_bf (ok_bf (ok_lf pc ok_X10_made_66) (ok_lf pc ok_X10_made_65)) (ok_lf pc ok_X10_made_62))) (ok_bf (ok_bf (ok_bf (ok_lf pc ok_X10_made_61) (ok_lf pc ok_X10_made_58)) (ok_lf pc ok_X10_made_56)) (ok_bf (ok_bf (ok_lf pc ok_X10_made_55) (ok_lf pc ok_X10_made_54)) (ok_lf pc ok_X10_made_53)))) (ok_bf (ok_bf (ok_bf (ok_bf (ok_lf pc ok_X10_made_52) (ok_lf pc ok_X10_made_49)) (ok_lf pc ok_X10_made_48)) (ok_bf (ok_bf (ok_lf pc ok_X10_made_45) (ok_lf pc ok_X10_made_43)) (ok_lf pc ok_X10_made_42))) (ok_bf (ok_bf (ok_bf (ok_lf pc ok_X10_made_41) (ok_lf pc ok_X10_made_40)) (ok_lf pc ok_X10_made_39)) (ok_bf (ok_bf (ok_lf pc ok_X10_made_36) (ok_lf pc ok_X10_made_1)) (ok_lf pc ok_X10_made_0))))))
theorem mo_X10_made (pc : Nat) : mo_S (cd_X10_made pc) :=
  (mo_bf (mo_bf (mo_bf (mo_bf (mo_bf (mo_bf (mo_bf mo_ret mo_no) (mo_bf mo_ci mo_no)) (mo_bf (mo_bf mo_ld mo_no) (mo_bf mo_ld mo_no))) (mo_bf (mo_bf (mo_bf mo_ld mo_no) (mo_bf mo_ld mo_no)) (mo_bf mo_dup mo_no))) (mo_bf (mo_bf (mo_bf (mo_bf mo_new mo_no) (mo_bf mo_ret mo_no)) (mo_bf mo_ci mo_no)) (mo_bf (mo_bf (mo_bf mo_ld mo_no) (mo_bf mo_ld mo_no)) (mo_bf mo_ld mo_no)))) (mo_bf (mo_bf (mo_bf (mo_bf (mo_bf mo_ld mo_no) (mo_bf mo_dup mo_no)) (mo_bf mo_new mo_no)) (mo_bf (mo_bf (mo_bf mo_ret mo_no) (mo_bf mo_ci mo_no)) (mo_bf mo_ld mo_no))) (mo_bf (mo_bf (mo_bf (mo_bf mo_ld mo_no) (mo_bf mo_ld mo_no)) (mo_bf mo_ld mo_no)) (mo_bf (mo_bf (mo_bf mo_dup mo_no) (mo_bf mo_new mo_no)) (mo_bf mo_ret mo_no))))) (mo_bf (mo_bf (mo_bf (mo_bf (mo_bf (mo_bf mo_ci mo_no) (mo_bf mo_ld mo_no)) (mo_bf (mo_bf mo_ld mo_no) (mo_bf mo_ld mo_no))) (mo_bf (mo_bf (mo_bf mo_ld mo_no) (mo_bf mo_dup mo_no)) (mo_bf mo_new mo_no))) (mo_bf (mo_bf (mo_bf (mo_bf mo_ret mo_no) (mo_bf mo_ci mo_no)) (mo_bf mo_ld mo_no)) (mo_bf (mo_bf (mo_bf mo_ld mo_no) (mo_bf mo_ld mo_no)) (mo_bf mo_ld mo_no)))) (mo_bf (mo_bf (mo_bf (mo_bf (mo_bf mo_dup mo_no) (mo_bf mo_new mo_no)) (mo_bf mo_ret mo_no)) (mo_bf (mo_bf (mo_bf mo_ci mo_no) (mo_bf mo_ld mo_no)) (mo_bf mo_ld mo_no))) (mo_bf (mo_bf (mo_bf (mo_bf mo_ld mo_no) (mo_bf mo_ld mo_no)) (mo_bf mo_dup mo_no)) (mo_bf (mo_bf (mo_bf mo_new mo_no) (mo_bf mo_sw mo_no)) (mo_bf mo_ld mo_no))))))
theorem ok_X10_addLine_0 : ok_S 94 0 (sf_ld 2 0 1) := ok_aload_n (by decide +kernel : decode (mb_ 94) 0 = .ok (.aload_n 0, 1)) rfl
theorem ok_X10_addLine_1 : ok_S 94 1 (sf_gi 8 8 4 4) := ok_gi fd_8_4 (by decide +kernel : decode (mb_ 94) 1 = .ok (.getfield 25, 3)) tw_58 (Or.inl rfl) rfl
theorem ok_X10_addLine_4 : ok_S 94 4 (sf_push (0, 6) 6) := ok_bipush (by decide +kernel : decode (mb_ 94) 4 = .ok (.bipush 6, 2)) ⟨by decide, by decide⟩ (by decide +kernel)
theorem ok_X10_addLine_6 : ok_S 94 6 (sf_ic 2 12 9) := ok_ic2 (by decide +kernel : decode (mb_ 94) 6 = .ok (.if_icmp .lt 6, 3)) (by decide)
theorem ok_X10_addLine_9 : ok_S 94 9 (sf_push (0, (-2)) 11) := ok_bipush (by decide +kernel : decode (mb_ 94) 9 = .ok (.bipush (-2), 2)) ⟨by decide, by decide⟩ (by decide +kernel)
theorem ok_X10_addLine_11 : ok_S 94 11 (sf_ret 0) := ok_ret0 (by decide +kernel : decode (mb_ 94) 11 = .ok (.ireturn, 1)) rfl
theorem ok_X10_addLine_12 : ok_S 94 12 (sf_ld 2 0 13) := ok_aload_n (by decide +kernel : decode (mb_ 94) 12 = .ok (.aload_n 0, 1)) rfl
theorem ok_X10_addLine_13 : ok_S 94 13 (sf_gi 8 8 4 16) := ok_gi fd_8_4 (by decide +kernel : decode (mb_ 94) 13 = .ok (.getfield 25, 3)) tw_58 (Or.inl rfl) rfl
theorem ok_X10_addLine_16 : ok_S 94 16 (sf_push (0, 4) 17) := ok_iconst (by decide +kernel : decode (mb_ 94) 16 = .ok (.iconst 4, 1)) ⟨by decide, by decide⟩
theorem ok_X10_addLine_17 : ok_S 94 17 (sf_i2 mx_mul 18) := ok_imul (by decide +kernel : decode (mb_ 94) 17 = .ok (.imul, 1))
theorem ok_X10_addLine_18 : ok_S 94 18 (sf_st 0 5 20) := ok_istore (by decide +kernel : decode (mb_ 94) 18 = .ok (.istore 5, 2))
theorem ok_X10_addLine_20 : ok_S 94 20 (sf_ld 2 0 21) := ok_aload_n (by decide +kernel : decode (mb_ 94) 20 = .ok (.aload_n 0, 1)) rfl
theorem ok_X10_addLine_21 : ok_S 94 21 (sf_gr 8 8 2 24) := ok_gr fd_8_2 (by decide +kernel : decode (mb_ 94) 21 = .ok (.getfield 18, 3)) tw_51 (Or.inl rfl) rfl
theorem ok_X10_addLine_24 : ok_S 94 24 (sf_ld 0 5 26) := ok_iload (by decide +kernel : decode (mb_ 94) 24 = .ok (.iload 5, 2))
theorem ok_X10_addLine_26 : ok_S 94 26 (sf_ld 0 1 27) := ok_iload_n (by decide +kernel : decode (mb_ 94) 26 = .ok (.iload_n 1, 1)) rfl
theorem ok_X10_addLine_27 : ok_S 94 27 (sf_iast 28) := ok_iast (by decide +kernel : decode (mb_ 94) 27 = .ok (.iastore, 1))
theorem ok_X10_addLine_28 : ok_S 94 28 (sf_ld 2 0 29) := ok_aload_n (by decide +kernel : decode (mb_ 94) 28 = .ok (.aload_n 0, 1)) rfl
theorem ok_X10_addLine_29 : ok_S 94 29 (sf_gr 8 8 2 32) := ok_gr fd_8_2 (by decide +kernel : decode (mb_ 94) 29 = .ok (.getfield 18, 3)) tw_51 (Or.inl rfl) rfl
theorem ok_X10_addLine_32 : ok_S 94 32 (sf_ld 0 5 34) := ok_iload (by decide +kernel : decode (mb_ 94) 32 = .ok (.iload 5, 2))
theorem ok_X10_addLine_34 : ok_S 94 34 (sf_push (0, 1) 35) := ok_iconst (by decide +kernel : decode (mb_ 94) 34 = .ok (.iconst 1, 1)) ⟨by decide, by decide⟩
theorem ok_X10_addLine_35 : ok_S 94 35 (sf_i2 mx_add 36) := ok_iadd (by decide +kernel : decode (mb_ 94) 35 = .ok (.iadd, 1))
theorem ok_X10_addLine_36 : ok_S 94 36 (sf_ld 0 2 37) := ok_iload_n (by decide +kernel : decode (mb_ 94) 36 = .ok (.iload_n 2, 1)) rfl
theorem ok_X10_addLine_37 : ok_S 94 37 (sf_iast 38) := ok_iast (by decide +kernel : decode (mb_ 94) 37 = .ok (.iastore, 1))
theorem ok_X10_addLine_38 : ok_S 94 38 (sf_ld 2 0 39) := ok_aload_n (by decide +kernel : decode (mb_ 94) 38 = .ok (.aload_n 0, 1)) rfl
theorem ok_X10_addLine_39 : ok_S 94 39 (sf_gr 8 8 2 42) := ok_gr fd_8_2 (by decide +kernel : decode (mb_ 94) 39 = .ok (.getfield 18, 3)) tw_51 (Or.inl rfl) rfl
theorem ok_X10_addLine_42 : ok_S 94 42 (sf_ld 0 5 44) := ok_iload (by decide +kernel : decode (mb_ 94) 42 = .ok (.iload 5, 2))
theorem ok_X10_addLine_44 : ok_S 94 44 (sf_push (0, 2) 45) := ok_iconst (by decide +kernel : decode (mb_ 94) 44 = .ok (.iconst 2, 1)) ⟨by decide, by decide⟩
theorem ok_X10_addLine_45 : ok_S 94 45 (sf_i2 mx_add 46) := ok_iadd (by decide +kernel : decode (mb_ 94) 45 = .ok (.iadd, 1))
theorem ok_X10_addLine_46 : ok_S 94 46 (sf_ld 0 1 47) := ok_iload_n (by decide +kernel : decode (mb_ 94) 46 = .ok (.iload_n 1, 1)) rfl
theorem ok_X10_addLine_47 : ok_S 94 47 (sf_push (0, 3) 48) := ok_iconst (by decide +kernel : decode (mb_ 94) 47 = .ok (.iconst 3, 1)) ⟨by decide, by decide⟩
theorem ok_X10_addLine_48 : ok_S 94 48 (sf_ic 1 55 51) := ok_ic1 (by decide +kernel : decode (mb_ 94) 48 = .ok (.if_icmp .ne 7, 3)) (by decide)
theorem ok_X10_addLine_51 : ok_S 94 51 (sf_push (0, 0) 52) := ok_iconst (by decide +kernel : decode (mb_ 94) 51 = .ok (.iconst 0, 1)) ⟨by decide, by decide⟩
theorem ok_X10_addLine_52 : ok_S 94 52 (sf_go 56) := ok_goto (by decide +kernel : decode (mb_ 94) 52 = .ok (.goto 4, 3)) (by decide)
theorem ok_X10_addLine_55 : ok_S 94 55 (sf_ld 0 3 56) := ok_iload_n (by decide +kernel : decode (mb_ 94) 55 = .ok (.iload_n 3, 1)) rfl
theorem ok_X10_addLine_56 : ok_S 94 56 (sf_iast 57) := ok_iast (by decide +kernel : decode (mb_ 94) 56 = .ok (.iastore, 1))
theorem ok_X10_addLine_57 : ok_S 94 57 (sf_ld 2 0 58) := ok_aload_n (by decide +kernel : decode (mb_ 94) 57 = .ok (.aload_n 0, 1)) rfl
theorem ok_X10_addLine_58 : ok_S 94 58 (sf_gr 8 8 2 61) := ok_gr fd_8_2 (by decide +kernel : decode (mb_ 94) 58 = .ok (.getfield 18, 3)) tw_51 (Or.inl rfl) rfl
theorem ok_X10_addLine_61 : ok_S 94 61 (sf_ld 0 5 63) := ok_iload (by decide +kernel : decode (mb_ 94) 61 = .ok (.iload 5, 2))
theorem ok_X10_addLine_63 : ok_S 94 63 (sf_push (0, 3) 64) := ok_iconst (by decide +kernel : decode (mb_ 94) 63 = .ok (.iconst 3, 1)) ⟨by decide, by decide⟩
theorem ok_X10_addLine_64 : ok_S 94 64 (sf_i2 mx_add 65) := ok_iadd (by decide +kernel : decode (mb_ 94) 64 = .ok (.iadd, 1))
theorem ok_X10_addLine_65 : ok_S 94 65 (sf_ld 0 1 66) := ok_iload_n (by decide +kernel : decode (mb_ 94) 65 = .ok (.iload_n 1, 1)) rfl
theorem ok_X10_addLine_66 : ok_S 94 66 (sf_push (0, 2) 67) := ok_iconst (by decide +kernel : decode (mb_ 94) 66 = .ok (.iconst 2, 1)) ⟨by decide, by decide⟩
theorem ok_X10_addLine_67 : ok_S 94 67 (sf_ic 0 75 70) := ok_ic0 (by decide +kernel : decode (mb_ 94) 67 = .ok (.if_icmp .eq 8, 3)) (by decide)
theorem ok_X10_addLine_70 : ok_S 94 70 (sf_ld 0 1 71) := ok_iload_n (by decide +kernel : decode (mb_ 94) 70 = .ok (.iload_n 1, 1)) rfl
theorem ok_X10_addLine_71 : ok_S 94 71 (sf_push (0, 3) 72) := ok_iconst (by decide +kernel : decode (mb_ 94) 71 = .ok (.iconst 3, 1)) ⟨by decide, by decide⟩
theorem ok_X10_addLine_72 : ok_S 94 72 (sf_ic 1 80 75) := ok_ic1 (by decide +kernel : decode (mb_ 94) 72 = .ok (.if_icmp .ne 8, 3)) (by decide)
theorem ok_X10_addLine_75 : ok_S 94 75 (sf_ld 0 4 77) := ok_iload (by decide +kernel : decode (mb_ 94) 75 = .ok (.iload 4, 2))
theorem ok_X10_addLine_77 : ok_S 94 77 (sf_go 81) := ok_goto (by decide +kernel : decode (mb_ 94) 77 = .ok (.goto 4, 3)) (by decide)
theorem ok_X10_addLine_80 : ok_S 94 80 (sf_push (0, 0) 81) := ok_iconst (by decide +kernel : decode (mb_ 94) 80 = .ok (.iconst 0, 1)) ⟨by decide, by decide⟩
theorem ok_X10_addLine_81 : ok_S 94 81 (sf_iast 82) := ok_iast (by decide +kernel : decode (mb_ 94) 81 = .ok (.iastore, 1))
theorem ok_X10_addLine_82 : ok_S 94 82 (sf_ld 2 0 83) := ok_aload_n (by decide +kernel : decode (mb_ 94) 82 = .ok (.aload_n 0, 1)) rfl
theorem ok_X10_addLine_83 : ok_S 94 83 (sf_dup 84) := ok_dup (by decide +kernel : decode (mb_ 94) 83 = .ok (.dup, 1))
theorem ok_X10_addLine_84 : ok_S 94 84 (sf_gi 8 8 4 87) := ok_gi fd_8_4 (by decide +kernel : decode (mb_ 94) 84 = .ok (.getfield 25, 3)) tw_58 (Or.inl rfl) rfl
theorem ok_X10_addLine_87 : ok_S 94 87 (sf_push (0, 1) 88) := ok_iconst (by decide +kernel : decode (mb_ 94) 87 = .ok (.iconst 1, 1)) ⟨by decide, by decide⟩
theorem ok_X10_addLine_88 : ok_S 94 88 (sf_i2 mx_add 89) := ok_iadd (by decide +kernel : decode (mb_ 94) 88 = .ok (.iadd, 1))
theorem ok_X10_addLine_89 : ok_S 94 89 (sf_pi 8 8 4 92) := ok_pi fd_8_4 (by decide +kernel : decode (mb_ 94) 89 = .ok (.putfield 25, 3)) tw_58 rfl (Or.inl ff_8_4) rfl
theorem ok_X10_addLine_92 : ok_S 94 92 (sf_ld 2 0 93) := ok_aload_n (by decide +kernel : decode (mb_ 94) 92 = .ok (.aload_n 0, 1)) rfl
theorem ok_X10_addLine_93 : ok_S 94 93 (sf_dup 94) := ok_dup (by decide +kernel : decode (mb_ 94) 93 = .ok (.dup, 1))
theorem ok_X10_addLine_94 : ok_S 94 94 (sf_gi 8 8 5 97) := ok_gi fd_8_5 (by decide +kernel : decode (mb_ 94) 94 = .ok (.getfield 28, 3)) tw_62 (Or.inl rfl) rfl
theorem ok_X10_addLine_97 : ok_S 94 97 (sf_push (0, 1) 98) := ok_iconst (by decide +kernel : decode (mb_ 94) 97 = .ok (.iconst 1, 1)) ⟨by decide, by decide⟩
theorem ok_X10_addLine_98 : ok_S 94 98 (sf_i2 mx_add 99) := ok_iadd (by decide +kernel : decode (mb_ 94) 98 = .ok (.iadd, 1))
theorem ok_X10_addLine_99 : ok_S 94 99 (sf_pi 8 8 5 102) := ok_pi fd_8_5 (by decide +kernel : decode (mb_ 94) 99 = .ok (.putfield 28, 3)) tw_62 rfl (Or.inl ff_8_5) rfl
theorem ok_X10_addLine_102 : ok_S 94 102 (sf_ld 2 0 103) := ok_aload_n (by decide +kernel : decode (mb_ 94) 102 = .ok (.aload_n 0, 1)) rfl
theorem ok_X10_addLine_103 : ok_S 94 103 (sf_gi 8 8 4 106) := ok_gi fd_8_4 (by decide +kernel : decode (mb_ 94) 103 = .ok (.getfield 25, 3)) tw_58 (Or.inl rfl) rfl
theorem ok_X10_addLine_106 : ok_S 94 106 (sf_push (0, 1) 107) := ok_iconst (by decide +kernel : decode (mb_ 94) 106 = .ok (.iconst 1, 1)) ⟨by decide, by decide⟩
theorem ok_X10_addLine_107 : ok_S 94 107 (sf_i2 mx_sub 108) := ok_isub (by decide +kernel : decode (mb_ 94) 107 = .ok (.isub, 1))
theorem ok_X10_addLine_108 : ok_S 94 108 (sf_ret 0) := ok_ret0 (by decide +kernel : decode (mb_ 94) 108 = .ok (.ireturn, 1)) rfl
theorem ok_X10_addLine (pc : Nat) : ok_S 94 pc (cd_X10_addLine pc) :=
  (ok_bf (ok_bf (ok_bf (ok_bf (ok_bf (ok_bf (ok_bf (ok_lf pc ok_X10_addLine_108) (ok_lf pc ok_X10_addLine_107)) (ok_lf pc ok_X10_addLine_106)) (ok_bf (ok_lf pc ok_X10_addLine_103) (ok_lf pc ok_X10_addLine_102))) (ok_bf (ok_bf (ok_lf pc ok_X10_addLine_99) (ok_lf pc ok_X10_addLine_98)) (ok_bf (ok_lf pc ok_X10_addLine_97) (ok_lf pc ok_X10_addLine_94)))) (ok_bf (ok_bf (ok_bf (ok_lf pc ok_X10_addLine_93) (ok_lf pc ok_X10_addLine_92)) (ok_bf (ok_lf pc ok_X10_addLine_89) (ok_lf pc ok_X10_addLine_88))) (ok_bf (ok_bf (ok_lf pc ok_X10_addLine_87) (ok_lf pc ok_X10_addLine_84)) (ok_bf (ok_lf pc ok_X10_addLine_83) (ok_lf pc ok_X10_addLine_82))))) (ok_bf (ok_bf (ok_bf (ok_bf (ok_bf (ok_lf pc ok_X10_addLine_81) (ok_lf pc ok_X10_addLine_80)) (ok_lf pc ok_X10_addLine_77)) (ok_bf (ok_lf pc ok_X10_addLine_75) (ok_lf pc ok_X10_addLine_72))) (ok_bf (ok_bf (ok_lf pc ok_X10_addLine_71) (ok_lf pc ok_X10_addLine_70)) (ok_bf (ok_lf pc ok_X10_addLine_67) (ok_lf pc ok_X10_addLine_66)))) (ok_bf (ok_bf (ok_bf (ok_lf pc ok_X10_addLine_65) (ok_lf pc ok_X10_addLine_64)) (ok_bf (ok_lf pc ok_X10_addLine_63) (ok_lf pc ok_X10_addLine_61))) (ok_bf (ok_bf (ok_lf pc ok_X10_addLine_58) (ok_lf pc ok_X10_addLine_57)) (ok_bf (ok_lf pc ok_X10_addLine_56) (ok_lf pc ok_X10_addLine_55)))))) (ok_bf (ok_bf (ok_bf (ok_bf (ok_bf (ok_bf (ok_lf pc ok_X10_addLine_52) (ok_lf pc ok_X10_addLine_51)) (ok_lf pc ok_X10_addLine_48)) (ok_bf (ok_lf pc ok_X10_addLine_47) (ok_lf pc ok_X10_addLine_46))) (ok_bf (ok_bf (ok_lf pc ok_X10_addLine_45) (ok_lf pc ok_X10_addLine_44)) (ok_bf (ok_lf pc ok_X10_addLine_42) (ok_lf pc ok_X10_addLine_39)))) (ok_bf (ok_bf (ok_bf (ok_lf pc ok_X10_addLine_38) (ok_lf pc ok_X10_addLine_37)) (ok_bf (ok_lf pc ok_X10_addLine_36) (ok_lf pc ok_X10_addLine_35))) (ok_bf (ok_bf (ok_lf pc ok_X10_addLine_34) (ok_lf pc ok_X10_addLine_32)) (ok_bf (ok_lf pc ok_X10_addLine_29) (ok_lf pc ok_X10_addLine_28))))) (ok_bf (ok_bf (ok_bf (ok_bf (ok_lf pc ok_X10_addLine_27) (ok_lf pc ok_X10_addLine_26)) (ok_bf (ok_lf pc ok_X10_addLine_24) (ok_lf pc ok_X10_addLine_21))) (ok_bf (ok_bf (ok_lf pc ok_X10_addLine_20) (ok_lf pc ok_X10_addLine_18)) (ok_bf (ok_lf pc ok_X10_addLine_17) (ok_lf pc ok_X10_addLine_16)))) (ok_bf (ok_bf (ok_bf (ok_lf pc ok_X10_addLine_13) (ok_lf pc ok_X10_addLine_12)) (ok_bf (ok_lf pc ok_X10_addLine_11) (ok_lf pc ok_X10_addLine_9))) (ok_bf (ok_bf (ok_lf pc ok_X10_addLine_6) (ok_lf pc ok_X10_addLine_4)) (ok_bf (ok_lf pc ok_X10_addLine_1) (ok_lf pc ok_X10_addLine_0)))))))
theorem mo_X10_addLine (pc : Nat) : mo_S (cd_X10_addLine pc) :=
  (mo_bf (mo_bf (mo_bf (mo_bf (mo_bf (mo_bf (mo_bf (mo_bf mo_ret mo_no) (mo_bf mo_i2 mo_no)) (mo_bf mo_push mo_no)) (mo_bf (mo_bf mo_gi mo_no) (mo_bf mo_ld mo_no))) (mo_bf (mo_bf (mo_bf mo_pi mo_no) (mo_bf mo_i2 mo_no)) (mo_bf (mo_bf mo_push mo_no) (mo_bf mo_gi mo_no)))) (mo_bf (mo_bf (mo_bf (mo_bf mo_dup mo_no) (mo_bf mo_ld mo_no)) (mo_bf (mo_bf mo_pi mo_no) (mo_bf mo_i2 mo_no))) (mo_bf (mo_bf (mo_bf mo_push mo_no) (mo_bf mo_gi mo_no)) (mo_bf (mo_bf mo_dup mo_no) (mo_bf mo_ld mo_no))))) (mo_bf (mo_bf (mo_bf (mo_bf (mo_bf (mo_bf mo_iast mo_no) (mo_bf mo_push mo_no)) (mo_bf mo_go mo_no)) (mo_bf (mo_bf mo_ld mo_no) (mo_bf mo_ic mo_no))) (mo_bf (mo_bf (mo_bf mo_push mo_no) (mo_bf mo_ld mo_no)) (mo_bf (mo_bf mo_ic mo_no) (mo_bf mo_push mo_no)))) (mo_bf (mo_bf (mo_bf (mo_bf mo_ld mo_no) (mo_bf mo_i2 mo_no)) (mo_bf (mo_bf mo_push mo_no) (mo_bf mo_ld mo_no))) (mo_bf (mo_bf (mo_bf mo_gr mo_no) (mo_bf mo_ld mo_no)) (mo_bf (mo_bf mo_iast mo_no) (mo_bf mo_ld mo_no)))))) (mo_bf (mo_bf (mo_bf (mo_bf (mo_bf (mo_bf (mo_bf mo_go mo_no) (mo_bf mo_push mo_no)) (mo_bf mo_ic mo_no)) (mo_bf (mo_bf mo_push mo_no) (mo_bf mo_ld mo_no))) (mo_bf (mo_bf (mo_bf mo_i2 mo_no) (mo_bf mo_push mo_no)) (mo_bf (mo_bf mo_ld mo_no) (mo_bf mo_gr mo_no)))) (mo_bf (mo_bf (mo_bf (mo_bf mo_ld mo_no) (mo_bf mo_iast mo_no)) (mo_bf (mo_bf mo_ld mo_no) (mo_bf mo_i2 mo_no))) (mo_bf (mo_bf (mo_bf mo_push mo_no) (mo_bf mo_ld mo_no)) (mo_bf (mo_bf mo_gr mo_no) (mo_bf mo_ld mo_no))))) (mo_bf (mo_bf (mo_bf (mo_bf (mo_bf mo_iast mo_no) (mo_bf mo_ld mo_no)) (mo_bf (mo_bf mo_ld mo_no) (mo_bf mo_gr mo_no))) (mo_bf (mo_bf (mo_bf mo_ld mo_no) (mo_bf mo_st mo_no)) (mo_bf (mo_bf mo_i2 mo_no) (mo_bf mo_push mo_no)))) (mo_bf (mo_bf (mo_bf (mo_bf mo_gi mo_no) (mo_bf mo_ld mo_no)) (mo_bf (mo_bf mo_ret mo_no) (mo_bf mo_push mo_no))) (mo_bf (mo_bf (mo_bf mo_ic mo_no) (mo_bf mo_push mo_no)) (mo_bf (mo_bf mo_gi mo_no) (mo_bf mo_ld mo_no)))))))
theorem ok_X10_strikeLine_0 : ok_S 95 0 (sf_ld 2 0 1) := ok_aload_n (by decide +kernel : decode (mb_ 95) 0 = .ok (.aload_n 0, 1)) rfl
theorem ok_X10_strikeLine_1 : ok_S 95 1 (sf_gi 8 8 4 4) := ok_gi fd_8_4 (by decide +kernel : decode (mb_ 95) 1 = .ok (.getfield 25, 3)) tw_58 (Or.inl rfl) rfl
theorem ok_X10_strikeLine_4 : ok_S 95 4 (sf_push (0, 1) 5) := ok_iconst (by decide +kernel : decode (mb_ 95) 4 = .ok (.iconst 1, 1)) ⟨by decide, by decide⟩
theorem ok_X10_strikeLine_5 : ok_S 95 5 (sf_i2 mx_sub 6) := ok_isub (by decide +kernel : decode (mb_ 95) 5 = .ok (.isub, 1))
theorem ok_X10_strikeLine_6 : ok_S 95 6 (sf_ld 0 1 7) := ok_iload_n (by decide +kernel : decode (mb_ 95) 6 = .ok (.iload_n 1, 1)) rfl
theorem ok_X10_strikeLine_7 : ok_S 95 7 (sf_i2 mx_sub 8) := ok_isub (by decide +kernel : decode (mb_ 95) 7 = .ok (.isub, 1))
theorem ok_X10_strikeLine_8 : ok_S 95 8 (sf_st 0 2 9) := ok_istore_n (by decide +kernel : decode (mb_ 95) 8 = .ok (.istore_n 2, 1)) rfl
theorem ok_X10_strikeLine_9 : ok_S 95 9 (sf_ld 0 1 10) := ok_iload_n (by decide +kernel : decode (mb_ 95) 9 = .ok (.iload_n 1, 1)) rfl
theorem ok_X10_strikeLine_10 : ok_S 95 10 (sf_if 2 59 13) := ok_if2 (by decide +kernel : decode (mb_ 95) 10 = .ok (.ifCond .lt 49, 3)) (by decide)
theorem ok_X10_strikeLine_13 : ok_S 95 13 (sf_ld 0 2 14) := ok_iload_n (by decide +kernel : decode (mb_ 95) 13 = .ok (.iload_n 2, 1)) rfl
theorem ok_X10_strikeLine_14 : ok_S 95 14 (sf_if 2 59 17) := ok_if2 (by decide +kernel : decode (mb_ 95) 14 = .ok (.ifCond .lt 45, 3)) (by decide)
theorem ok_X10_strikeLine_17 : ok_S 95 17 (sf_ld 2 0 18) := ok_aload_n (by decide +kernel : decode (mb_ 95) 17 = .ok (.aload_n 0, 1)) rfl
theorem ok_X10_strikeLine_18 : ok_S 95 18 (sf_gr 8 8 2 21) := ok_gr fd_8_2 (by decide +kernel : decode (mb_ 95) 18 = .ok (.getfield 18, 3)) tw_51 (Or.inl rfl) rfl
theorem ok_X10_strikeLine_21 : ok_S 95 21 (sf_ld 0 1 22) := ok_iload_n (by decide +kernel : decode (mb_ 95) 21 = .ok (.iload_n 1, 1)) rfl
theorem ok_X10_strikeLine_22 : ok_S 95 22 (sf_push (0, 1) 23) := ok_iconst (by decide +kernel : decode (mb_ 95) 22 = .ok (.iconst 1, 1)) ⟨by decide, by decide⟩
theorem ok_X10_strikeLine_23 : ok_S 95 23 (sf_i2 mx_add 24) := ok_iadd (by decide +kernel : decode (mb_ 95) 23 = .ok (.iadd, 1))
theorem ok_X10_strikeLine_24 : ok_S 95 24 (sf_push (0, 4) 25) := ok_iconst (by decide +kernel : decode (mb_ 95) 24 = .ok (.iconst 4, 1)) ⟨by decide, by decide⟩
theorem ok_X10_strikeLine_25 : ok_S 95 25 (sf_i2 mx_mul 26) := ok_imul (by decide +kernel : decode (mb_ 95) 25 = .ok (.imul, 1))
theorem ok_X10_strikeLine_26 : ok_S 95 26 (sf_ld 2 0 27) := ok_aload_n (by decide +kernel : decode (mb_ 95) 26 = .ok (.aload_n 0, 1)) rfl
theorem ok_X10_strikeLine_27 : ok_S 95 27 (sf_gr 8 8 2 30) := ok_gr fd_8_2 (by decide +kernel : decode (mb_ 95) 27 = .ok (.getfield 18, 3)) tw_51 (Or.inl rfl) rfl
theorem ok_X10_strikeLine_30 : ok_S 95 30 (sf_ld 0 1 31) := ok_iload_n (by decide +kernel : decode (mb_ 95) 30 = .ok (.iload_n 1, 1)) rfl
theorem ok_X10_strikeLine_31 : ok_S 95 31 (sf_push (0, 4) 32) := ok_iconst (by decide +kernel : decode (mb_ 95) 31 = .ok (.iconst 4, 1)) ⟨by decide, by decide⟩
theorem ok_X10_strikeLine_32 : ok_S 95 32 (sf_i2 mx_mul 33) := ok_imul (by decide +kernel : decode (mb_ 95) 32 = .ok (.imul, 1))
theorem ok_X10_strikeLine_33 : ok_S 95 33 (sf_ld 0 2 34) := ok_iload_n (by decide +kernel : decode (mb_ 95) 33 = .ok (.iload_n 2, 1)) rfl
theorem ok_X10_strikeLine_34 : ok_S 95 34 (sf_push (0, 4) 35) := ok_iconst (by decide +kernel : decode (mb_ 95) 34 = .ok (.iconst 4, 1)) ⟨by decide, by decide⟩
theorem ok_X10_strikeLine_35 : ok_S 95 35 (sf_i2 mx_mul 36) := ok_imul (by decide +kernel : decode (mb_ 95) 35 = .ok (.imul, 1))
theorem ok_X10_strikeLine_36 : ok_S 95 36 (sf_copy 39) := ok_copy (by decide +kernel : decode (mb_ 95) 36 = .ok (.invokestatic 46, 3)) tw_519 tw_379 tw_378 tw_13
theorem ok_X10_strikeLine_39 : ok_S 95 39 (sf_ld 2 0 40) := ok_aload_n (by decide +kernel : decode (mb_ 95) 39 = .ok (.aload_n 0, 1)) rfl
theorem ok_X10_strikeLine_40 : ok_S 95 40 (sf_dup 41) := ok_dup (by decide +kernel : decode (mb_ 95) 40 = .ok (.dup, 1))
theorem ok_X10_strikeLine_41 : ok_S 95 41 (sf_gi 8 8 4 44) := ok_gi fd_8_4 (by decide +kernel : decode (mb_ 95) 41 = .ok (.getfield 25, 3)) tw_58 (Or.inl rfl) rfl
theorem ok_X10_strikeLine_44 : ok_S 95 44 (sf_push (0, 1) 45) := ok_iconst (by decide +kernel : decode (mb_ 95) 44 = .ok (.iconst 1, 1)) ⟨by decide, by decide⟩
theorem ok_X10_strikeLine_45 : ok_S 95 45 (sf_i2 mx_sub 46) := ok_isub (by decide +kernel : decode (mb_ 95) 45 = .ok (.isub, 1))
theorem ok_X10_strikeLine_46 : ok_S 95 46 (sf_pi 8 8 4 49) := ok_pi fd_8_4 (by decide +kernel : decode (mb_ 95) 46 = .ok (.putfield 25, 3)) tw_58 rfl (Or.inl ff_8_4) rfl
theorem ok_X10_strikeLine_49 : ok_S 95 49 (sf_ld 2 0 50) := ok_aload_n (by decide +kernel : decode (mb_ 95) 49 = .ok (.aload_n 0, 1)) rfl
theorem ok_X10_strikeLine_50 : ok_S 95 50 (sf_dup 51) := ok_dup (by decide +kernel : decode (mb_ 95) 50 = .ok (.dup, 1))
theorem ok_X10_strikeLine_51 : ok_S 95 51 (sf_gi 8 8 5 54) := ok_gi fd_8_5 (by decide +kernel : decode (mb_ 95) 51 = .ok (.getfield 28, 3)) tw_62 (Or.inl rfl) rfl
theorem ok_X10_strikeLine_54 : ok_S 95 54 (sf_push (0, 1) 55) := ok_iconst (by decide +kernel : decode (mb_ 95) 54 = .ok (.iconst 1, 1)) ⟨by decide, by decide⟩
theorem ok_X10_strikeLine_55 : ok_S 95 55 (sf_i2 mx_add 56) := ok_iadd (by decide +kernel : decode (mb_ 95) 55 = .ok (.iadd, 1))
theorem ok_X10_strikeLine_56 : ok_S 95 56 (sf_pi 8 8 5 59) := ok_pi fd_8_5 (by decide +kernel : decode (mb_ 95) 56 = .ok (.putfield 28, 3)) tw_62 rfl (Or.inl ff_8_5) rfl
theorem ok_X10_strikeLine_59 : ok_S 95 59 (sf_ld 2 0 60) := ok_aload_n (by decide +kernel : decode (mb_ 95) 59 = .ok (.aload_n 0, 1)) rfl
theorem ok_X10_strikeLine_60 : ok_S 95 60 (sf_gi 8 8 4 63) := ok_gi fd_8_4 (by decide +kernel : decode (mb_ 95) 60 = .ok (.getfield 25, 3)) tw_58 (Or.inl rfl) rfl
theorem ok_X10_strikeLine_63 : ok_S 95 63 (sf_ret 0) := ok_ret0 (by decide +kernel : decode (mb_ 95) 63 = .ok (.ireturn, 1)) rfl
theorem ok_X10_strikeLine (pc : Nat) : ok_S 95 pc (cd_X10_strikeLine pc) :=
  (ok_bf (ok_bf (ok_bf (ok_bf (ok_bf (ok_bf (ok_lf pc ok_X10_strikeLine_63) (ok_lf pc ok_X10_strikeLine_60)) (ok_lf pc ok_X10_strikeLine_59)) (ok_bf (ok_bf (ok_lf pc ok_X10_strikeLine_56) (ok_lf pc ok_X10_strikeLine_55)) (ok_lf pc ok_X10_strikeLine_54))) (ok_bf (ok_bf (ok_bf (ok_lf pc ok_X10_strikeLine_51) (ok_lf pc ok_X10_strikeLine_50)) (ok_lf pc ok_X10_strikeLine_49)) (ok_bf (ok_lf pc ok_X10_strikeLine_46) (ok_lf pc ok_X10_strikeLine_45)))) (ok_bf (ok_bf (ok_bf (ok_bf (ok_lf pc ok_X10_strikeLine_44) (ok_lf pc ok_X10_strikeLine_41)) (ok_lf pc ok_X10_strikeLine_40)) (ok_bf (ok_lf pc ok_X10_strikeLine_39) (ok_lf pc ok_X10_strikeLine_36))) (ok_bf (ok_bf (ok_bf (ok_lf pc ok_X10_strikeLine_35) (ok_lf pc ok_X10_strikeLine_34)) (ok_lf pc ok_X10_strikeLine_33)) (ok_bf (ok_lf pc ok_X10_strikeLine_32) (ok_lf pc ok_X10_strikeLine_31))))) (ok_bf (ok_bf (ok_bf (ok_bf (ok_bf (ok_lf pc ok_X10_strikeLine_30) (ok_lf pc ok_X10_strikeLine_27)) (ok_lf pc ok_X10_strikeLine_26)) (ok_bf (ok_bf (ok_lf pc ok_X10_strikeLine_25) (ok_lf pc ok_X10_strikeLine_24)) (ok_lf pc ok_X10_strikeLine_23))) (ok_bf (ok_bf (ok_bf (ok_lf pc ok_X10_strikeLine_22) (ok_lf pc ok_X10_strikeLine_21)) (ok_lf pc ok_X10_strikeLine_18)) (ok_bf (ok_lf pc ok_X10_strikeLine_17) (ok_lf pc ok_X10_strikeLine_14)))) (ok_bf (ok_bf (ok_bf (ok_bf (ok_lf pc ok_X10_strikeLine_13) (ok_lf pc ok_X10_strikeLine_10)) (ok_lf pc ok_X10_strikeLine_9)) (ok_bf (ok_lf pc ok_X10_strikeLine_8) (ok_lf pc ok_X10_strikeLine_7))) (ok_bf (ok_bf (ok_bf (ok_lf pc ok_X10_strikeLine_6) (ok_lf pc ok_X10_strikeLine_5)) (ok_lf pc ok_X10_strikeLine_4)) (ok_bf (ok_lf pc ok_X10_strikeLine_1) (ok_lf pc ok_X10_strikeLine_0))))))
theorem mo_X10_strikeLine (pc : Nat) : mo_S (cd_X10_strikeLine pc) :=
  (mo_bf (mo_bf (mo_bf (mo_bf (mo_bf (mo_bf (mo_bf mo_ret mo_no) (mo_bf mo_gi mo_no)) (mo_bf mo_ld mo_no)) (mo_bf (mo_bf (mo_bf mo_pi mo_no) (mo_bf mo_i2 mo_no)) (mo_bf mo_push mo_no))) (mo_bf (mo_bf (mo_bf (mo_bf mo_gi mo_no) (mo_bf mo_dup mo_no)) (mo_bf mo_ld mo_no)) (mo_bf (mo_bf mo_pi mo_no) (mo_bf mo_i2 mo_no)))) (mo_bf (mo_bf (mo_bf (mo_bf (mo_bf mo_push mo_no) (mo_bf mo_gi mo_no)) (mo_bf mo_dup mo_no)) (mo_bf (mo_bf mo_ld mo_no) (mo_bf mo_copy mo_no))) (mo_bf (mo_bf (mo_bf (mo_bf mo_i2 mo_no) (mo_bf mo_push mo_no)) (mo_bf mo_ld mo_no)) (mo_bf (mo_bf mo_i2 mo_no) (mo_bf mo_push mo_no))))) (mo_bf (mo_bf (mo_bf (mo_bf (mo_bf (mo_bf mo_ld mo_no) (mo_bf mo_gr mo_no)) (mo_bf mo_ld mo_no)) (mo_bf (mo_bf (mo_bf mo_i2 mo_no) (mo_bf mo_push mo_no)) (mo_bf mo_i2 mo_no))) (mo_bf (mo_bf (mo_bf (mo_bf mo_push mo_no) (mo_bf mo_ld mo_no)) (mo_bf mo_gr mo_no)) (mo_bf (mo_bf mo_ld mo_no) (mo_bf mo_if mo_no)))) (mo_bf (mo_bf (mo_bf (mo_bf (mo_bf mo_ld mo_no) (mo_bf mo_if mo_no)) (mo_bf mo_ld mo_no)) (mo_bf (mo_bf mo_st mo_no) (mo_bf mo_i2 mo_no))) (mo_bf (mo_bf (mo_bf (mo_bf mo_ld mo_no) (mo_bf mo_i2 mo_no)) (mo_bf mo_push mo_no)) (mo_bf (mo_bf mo_gi mo_no) (mo_bf mo_ld mo_no))))))
theorem ok_X10_lineHolds_0 : ok_S 96 0 (sf_ld 0 1 1) := ok_iload_n (by decide +kernel : decode (mb_ 96) 0 = .ok (.iload_n 1, 1)) rfl
theorem ok_X10_lineHolds_1 : ok_S 96 1 (sf_push (0, 4) 2) := ok_iconst (by decide +kernel : decode (mb_ 96) 1 = .ok (.iconst 4, 1)) ⟨by decide, by decide⟩
theorem ok_X10_lineHolds_2 : ok_S 96 2 (sf_i2 mx_mul 3) := ok_imul (by decide +kernel : decode (mb_ 96) 2 = .ok (.imul, 1))
theorem ok_X10_lineHolds_3 : ok_S 96 3 (sf_st 0 3 4) := ok_istore_n (by decide +kernel : decode (mb_ 96) 3 = .ok (.istore_n 3, 1)) rfl
theorem ok_X10_lineHolds_4 : ok_S 96 4 (sf_ld 2 0 5) := ok_aload_n (by decide +kernel : decode (mb_ 96) 4 = .ok (.aload_n 0, 1)) rfl
theorem ok_X10_lineHolds_5 : ok_S 96 5 (sf_gr 8 8 2 8) := ok_gr fd_8_2 (by decide +kernel : decode (mb_ 96) 5 = .ok (.getfield 18, 3)) tw_51 (Or.inl rfl) rfl
theorem ok_X10_lineHolds_8 : ok_S 96 8 (sf_ld 0 3 9) := ok_iload_n (by decide +kernel : decode (mb_ 96) 8 = .ok (.iload_n 3, 1)) rfl
theorem ok_X10_lineHolds_9 : ok_S 96 9 (sf_iald 10) := ok_iald (by decide +kernel : decode (mb_ 96) 9 = .ok (.iaload, 1))
theorem ok_X10_lineHolds_10 : ok_S 96 10 (sf_st 0 4 12) := ok_istore (by decide +kernel : decode (mb_ 96) 10 = .ok (.istore 4, 2))
theorem ok_X10_lineHolds_12 : ok_S 96 12 (sf_ld 2 0 13) := ok_aload_n (by decide +kernel : decode (mb_ 96) 12 = .ok (.aload_n 0, 1)) rfl
theorem ok_X10_lineHolds_13 : ok_S 96 13 (sf_ld 2 0 14) := ok_aload_n (by decide +kernel : decode (mb_ 96) 13 = .ok (.aload_n 0, 1)) rfl
theorem ok_X10_lineHolds_14 : ok_S 96 14 (sf_gr 8 8 2 17) := ok_gr fd_8_2 (by decide +kernel : decode (mb_ 96) 14 = .ok (.getfield 18, 3)) tw_51 (Or.inl rfl) rfl
theorem ok_X10_lineHolds_17 : ok_S 96 17 (sf_ld 0 3 18) := ok_iload_n (by decide +kernel : decode (mb_ 96) 17 = .ok (.iload_n 3, 1)) rfl
theorem ok_X10_lineHolds_18 : ok_S 96 18 (sf_push (0, 1) 19) := ok_iconst (by decide +kernel : decode (mb_ 96) 18 = .ok (.iconst 1, 1)) ⟨by decide, by decide⟩
theorem ok_X10_lineHolds_19 : ok_S 96 19 (sf_i2 mx_add 20) := ok_iadd (by decide +kernel : decode (mb_ 96) 19 = .ok (.iadd, 1))
theorem ok_X10_lineHolds_20 : ok_S 96 20 (sf_iald 21) := ok_iald (by decide +kernel : decode (mb_ 96) 20 = .ok (.iaload, 1))
theorem ok_X10_lineHolds_21 : ok_S 96 21 (sf_ld 2 2 22) := ok_aload_n (by decide +kernel : decode (mb_ 96) 21 = .ok (.aload_n 2, 1)) rfl
theorem ok_X10_lineHolds_22 : ok_S 96 22 (sf_cv 8 [2, 0, 2] 97 25) := ok_cv mt_97 cl_8 (by decide +kernel : decode (mb_ 96) 22 = .ok (.invokevirtual 100, 3)) tw_797 tw_799 ts_21 tw_3 rfl (by decide +kernel) (mh_ok rfl) (by decide) (by decide)
theorem ok_X10_lineHolds_25 : ok_S 96 25 (sf_st 0 5 27) := ok_istore (by decide +kernel : decode (mb_ 96) 25 = .ok (.istore 5, 2))
theorem ok_X10_lineHolds_27 : ok_S 96 27 (sf_ld 0 4 29) := ok_iload (by decide +kernel : decode (mb_ 96) 27 = .ok (.iload 4, 2))
theorem ok_X10_lineHolds_29 : ok_S 96 29 (sf_push (0, 3) 30) := ok_iconst (by decide +kernel : decode (mb_ 96) 29 = .ok (.iconst 3, 1)) ⟨by decide, by decide⟩
theorem ok_X10_lineHolds_30 : ok_S 96 30 (sf_ic 1 37 33) := ok_ic1 (by decide +kernel : decode (mb_ 96) 30 = .ok (.if_icmp .ne 7, 3)) (by decide)
theorem ok_X10_lineHolds_33 : ok_S 96 33 (sf_push (0, 0) 34) := ok_iconst (by decide +kernel : decode (mb_ 96) 33 = .ok (.iconst 0, 1)) ⟨by decide, by decide⟩
theorem ok_X10_lineHolds_34 : ok_S 96 34 (sf_go 50) := ok_goto (by decide +kernel : decode (mb_ 96) 34 = .ok (.goto 16, 3)) (by decide)
theorem ok_X10_lineHolds_37 : ok_S 96 37 (sf_ld 2 0 38) := ok_aload_n (by decide +kernel : decode (mb_ 96) 37 = .ok (.aload_n 0, 1)) rfl
theorem ok_X10_lineHolds_38 : ok_S 96 38 (sf_ld 2 0 39) := ok_aload_n (by decide +kernel : decode (mb_ 96) 38 = .ok (.aload_n 0, 1)) rfl
theorem ok_X10_lineHolds_39 : ok_S 96 39 (sf_gr 8 8 2 42) := ok_gr fd_8_2 (by decide +kernel : decode (mb_ 96) 39 = .ok (.getfield 18, 3)) tw_51 (Or.inl rfl) rfl
theorem ok_X10_lineHolds_42 : ok_S 96 42 (sf_ld 0 3 43) := ok_iload_n (by decide +kernel : decode (mb_ 96) 42 = .ok (.iload_n 3, 1)) rfl
theorem ok_X10_lineHolds_43 : ok_S 96 43 (sf_push (0, 2) 44) := ok_iconst (by decide +kernel : decode (mb_ 96) 43 = .ok (.iconst 2, 1)) ⟨by decide, by decide⟩
theorem ok_X10_lineHolds_44 : ok_S 96 44 (sf_i2 mx_add 45) := ok_iadd (by decide +kernel : decode (mb_ 96) 44 = .ok (.iadd, 1))
theorem ok_X10_lineHolds_45 : ok_S 96 45 (sf_iald 46) := ok_iald (by decide +kernel : decode (mb_ 96) 45 = .ok (.iaload, 1))
theorem ok_X10_lineHolds_46 : ok_S 96 46 (sf_ld 2 2 47) := ok_aload_n (by decide +kernel : decode (mb_ 96) 46 = .ok (.aload_n 2, 1)) rfl
theorem ok_X10_lineHolds_47 : ok_S 96 47 (sf_cv 8 [2, 0, 2] 97 50) := ok_cv mt_97 cl_8 (by decide +kernel : decode (mb_ 96) 47 = .ok (.invokevirtual 100, 3)) tw_797 tw_799 ts_21 tw_3 rfl (by decide +kernel) (mh_ok rfl) (by decide) (by decide)
theorem ok_X10_lineHolds_50 : ok_S 96 50 (sf_st 0 6 52) := ok_istore (by decide +kernel : decode (mb_ 96) 50 = .ok (.istore 6, 2))
theorem ok_X10_lineHolds_52 : ok_S 96 52 (sf_ld 0 4 54) := ok_iload (by decide +kernel : decode (mb_ 96) 52 = .ok (.iload 4, 2))
theorem ok_X10_lineHolds_54 : ok_S 96 54 (sf_push (0, 2) 55) := ok_iconst (by decide +kernel : decode (mb_ 96) 54 = .ok (.iconst 2, 1)) ⟨by decide, by decide⟩
theorem ok_X10_lineHolds_55 : ok_S 96 55 (sf_ic 1 74 58) := ok_ic1 (by decide +kernel : decode (mb_ 96) 55 = .ok (.if_icmp .ne 19, 3)) (by decide)
theorem ok_X10_lineHolds_58 : ok_S 96 58 (sf_ld 2 0 59) := ok_aload_n (by decide +kernel : decode (mb_ 96) 58 = .ok (.aload_n 0, 1)) rfl
theorem ok_X10_lineHolds_59 : ok_S 96 59 (sf_ld 2 0 60) := ok_aload_n (by decide +kernel : decode (mb_ 96) 59 = .ok (.aload_n 0, 1)) rfl
theorem ok_X10_lineHolds_60 : ok_S 96 60 (sf_gr 8 8 2 63) := ok_gr fd_8_2 (by decide +kernel : decode (mb_ 96) 60 = .ok (.getfield 18, 3)) tw_51 (Or.inl rfl) rfl
theorem ok_X10_lineHolds_63 : ok_S 96 63 (sf_ld 0 3 64) := ok_iload_n (by decide +kernel : decode (mb_ 96) 63 = .ok (.iload_n 3, 1)) rfl
theorem ok_X10_lineHolds_64 : ok_S 96 64 (sf_push (0, 3) 65) := ok_iconst (by decide +kernel : decode (mb_ 96) 64 = .ok (.iconst 3, 1)) ⟨by decide, by decide⟩
theorem ok_X10_lineHolds_65 : ok_S 96 65 (sf_i2 mx_add 66) := ok_iadd (by decide +kernel : decode (mb_ 96) 65 = .ok (.iadd, 1))
theorem ok_X10_lineHolds_66 : ok_S 96 66 (sf_iald 67) := ok_iald (by decide +kernel : decode (mb_ 96) 66 = .ok (.iaload, 1))
theorem ok_X10_lineHolds_67 : ok_S 96 67 (sf_ld 2 2 68) := ok_aload_n (by decide +kernel : decode (mb_ 96) 67 = .ok (.aload_n 2, 1)) rfl
theorem ok_X10_lineHolds_68 : ok_S 96 68 (sf_cv 8 [2, 0, 2] 97 71) := ok_cv mt_97 cl_8 (by decide +kernel : decode (mb_ 96) 68 = .ok (.invokevirtual 100, 3)) tw_797 tw_799 ts_21 tw_3 rfl (by decide +kernel) (mh_ok rfl) (by decide) (by decide)
theorem ok_X10_lineHolds_71 : ok_S 96 71 (sf_go 82) := ok_goto (by decide +kernel : decode (mb_ 96) 71 = .ok (.goto 11, 3)) (by decide)
theorem ok_X10_lineHolds_74 : ok_S 96 74 (sf_ld 2 0 75) := ok_aload_n (by decide +kernel : decode (mb_ 96) 74 = .ok (.aload_n 0, 1)) rfl
theorem ok_X10_lineHolds_75 : ok_S 96 75 (sf_gr 8 8 2 78) := ok_gr fd_8_2 (by decide +kernel : decode (mb_ 96) 75 = .ok (.getfield 18, 3)) tw_51 (Or.inl rfl) rfl
theorem ok_X10_lineHolds_78 : ok_S 96 78 (sf_ld 0 3 79) := ok_iload_n (by decide +kernel : decode (mb_ 96) 78 = .ok (.iload_n 3, 1)) rfl
theorem ok_X10_lineHolds_79 : ok_S 96 79 (sf_push (0, 3) 80) := ok_iconst (by decide +kernel : decode (mb_ 96) 79 = .ok (.iconst 3, 1)) ⟨by decide, by decide⟩
theorem ok_X10_lineHolds_80 : ok_S 96 80 (sf_i2 mx_add 81) := ok_iadd (by decide +kernel : decode (mb_ 96) 80 = .ok (.iadd, 1))
theorem ok_X10_lineHolds_81 : ok_S 96 81 (sf_iald 82) := ok_iald (by decide +kernel : decode (mb_ 96) 81 = .ok (.iaload, 1))
theorem ok_X10_lineHolds_82 : ok_S 96 82 (sf_st 0 7 84) := ok_istore (by decide +kernel : decode (mb_ 96) 82 = .ok (.istore 7, 2))
theorem ok_X10_lineHolds_84 : ok_S 96 84 (sf_ld 0 4 86) := ok_iload (by decide +kernel : decode (mb_ 96) 84 = .ok (.iload 4, 2))
theorem ok_X10_lineHolds_86 : ok_S 96 86 (sf_ld 0 5 88) := ok_iload (by decide +kernel : decode (mb_ 96) 86 = .ok (.iload 5, 2))
theorem ok_X10_lineHolds_88 : ok_S 96 88 (sf_ld 0 6 90) := ok_iload (by decide +kernel : decode (mb_ 96) 88 = .ok (.iload 6, 2))
theorem ok_X10_lineHolds_90 : ok_S 96 90 (sf_ld 0 7 92) := ok_iload (by decide +kernel : decode (mb_ 96) 90 = .ok (.iload 7, 2))
theorem ok_X10_lineHolds_92 : ok_S 96 92 (sf_cs [0, 0, 0, 0] 155 95) := ok_csn mt_155 (by decide +kernel : decode (mb_ 96) 92 = .ok (.invokestatic 104, 3)) (List.mem_of_getElem? (i := 5) rfl) tw_748 tw_1 (by decide +kernel) (mh_ok rfl) (by decide) (by decide)
theorem ok_X10_lineHolds_95 : ok_S 96 95 (sf_rr 0 1) := ok_rr (by decide +kernel : decode (mb_ 96) 95 = .ok (.ireturn, 1)) rfl (so_nz .boolean rfl rfl)
theorem ok_X10_lineHolds (pc : Nat) : ok_S 96 pc (cd_X10_lineHolds pc) :=
  (ok_bf (ok_bf (ok_bf (ok_bf (ok_bf (ok_bf (ok_lf pc ok_X10_lineHolds_95) (ok_lf pc ok_X10_lineHolds_92)) (ok_bf (ok_lf pc ok_X10_lineHolds_90) (ok_lf pc ok_X10_lineHolds_88))) (ok_bf (ok_bf (ok_lf pc ok_X10_lineHolds_86) (ok_lf pc ok_X10_lineHolds_84)) (ok_bf (ok_lf pc ok_X10_lineHolds_82) (ok_lf pc ok_X10_lineHolds_81)))) (ok_bf (ok_bf (ok_bf (ok_lf pc ok_X10_lineHolds_80) (ok_lf pc ok_X10_lineHolds_79)) (ok_bf (ok_lf pc ok_X10_lineHolds_78) (ok_lf pc ok_X10_lineHolds_75))) (ok_bf (ok_bf (ok_lf pc ok_X10_lineHolds_74) (ok_lf pc ok_X10_lineHolds_71)) (ok_lf pc ok_X10_lineHolds_68)))) (ok_bf (ok_bf (ok_bf (ok_bf (ok_lf pc ok_X10_lineHolds_67) (ok_lf pc ok_X10_lineHolds_66)) (ok_bf (ok_lf pc ok_X10_lineHolds_65) (ok_lf pc ok_X10_lineHolds_64))) (ok_bf (ok_bf (ok_lf pc ok_X10_lineHolds_63) (ok_lf pc ok_X10_lineHolds_60)) (ok_bf (ok_lf pc ok_X10_lineHolds_59) (ok_lf pc ok_X10_lineHolds_58)))) (ok_bf (ok_bf (ok_bf (ok_lf pc ok_X10_lineHolds_55) (ok_lf pc ok_X10_lineHolds_54)) (ok_bf (ok_lf pc ok_X10_lineHolds_52) (ok_lf pc ok_X10_lineHolds_50))) (ok_bf (ok_bf (ok_lf pc ok_X10_lineHolds_47) (ok_lf pc ok_X10_lineHolds_46)) (ok_lf pc ok_X10_lineHolds_45))))) (ok_bf (ok_bf (ok_bf (ok_bf (ok_bf (ok_lf pc ok_X10_lineHolds_44) (ok_lf pc ok_X10_lineHolds_43)) (ok_bf (ok_lf pc ok_X10_lineHolds_42) (ok_lf pc ok_X10_lineHolds_39))) (ok_bf (ok_bf (ok_lf pc ok_X10_lineHolds_38) (ok_lf pc ok_X10_lineHolds_37)) (ok_bf (ok_lf pc ok_X10_lineHolds_34) (ok_lf pc ok_X10_lineHolds_33)))) (ok_bf (ok_bf (ok_bf (ok_lf pc ok_X10_lineHolds_30) (ok_lf pc ok_X10_lineHolds_29)) (ok_bf (ok_lf pc ok_X10_lineHolds_27) (ok_lf pc ok_X10_lineHolds_25))) (ok_bf (ok_bf (ok_lf pc ok_X10_lineHolds_22) (ok_lf pc ok_X10_lineHolds_21)) (ok_lf pc ok_X10_lineHolds_20)))) (ok_bf (ok_bf (ok_bf (ok_bf (ok_lf pc ok_X10_lineHolds_19) (ok_lf pc ok_X10_lineHolds_18)) (ok_bf (ok_lf pc ok_X10_lineHolds_17) (ok_lf pc ok_X10_lineHolds_14))) (ok_bf (ok_bf (ok_lf pc ok_X10_lineHolds_13) (ok_lf pc ok_X10_lineHolds_12)) (ok_bf (ok_lf pc ok_X10_lineHolds_10) (ok_lf pc ok_X10_lineHolds_9)))) (ok_bf (ok_bf (ok_bf (ok_lf pc ok_X10_lineHolds_8) (ok_lf pc ok_X10_lineHolds_5)) (ok_bf (ok_lf pc ok_X10_lineHolds_4) (ok_lf pc ok_X10_lineHolds_3))) (ok_bf (ok_bf (ok_lf pc ok_X10_lineHolds_2) (ok_lf pc ok_X10_lineHolds_1)) (ok_lf pc ok_X10_lineHolds_0))))))
theorem mo_X10_lineHolds (pc : Nat) : mo_S (cd_X10_lineHolds pc) :=
  (mo_bf (mo_bf (mo_bf (mo_bf (mo_bf (mo_bf (mo_bf mo_rr mo_no) (mo_bf mo_cs mo_no)) (mo_bf (mo_bf mo_ld mo_no) (mo_bf mo_ld mo_no))) (mo_bf (mo_bf (mo_bf mo_ld mo_no) (mo_bf mo_ld mo_no)) (mo_bf (mo_bf mo_st mo_no) (mo_bf mo_iald mo_no)))) (mo_bf (mo_bf (mo_bf (mo_bf mo_i2 mo_no) (mo_bf mo_push mo_no)) (mo_bf (mo_bf mo_ld mo_no) (mo_bf mo_gr mo_no))) (mo_bf (mo_bf (mo_bf mo_ld mo_no) (mo_bf mo_go mo_no)) (mo_bf mo_cv mo_no)))) (mo_bf (mo_bf (mo_bf (mo_bf (mo_bf mo_ld mo_no) (mo_bf mo_iald mo_no)) (mo_bf (mo_bf mo_i2 mo_no) (mo_bf mo_push mo_no))) (mo_bf (mo_bf (mo_bf mo_ld mo_no) (mo_bf mo_gr mo_no)) (mo_bf (mo_bf mo_ld mo_no) (mo_bf mo_ld mo_no)))) (mo_bf (mo_bf (mo_bf (mo_bf mo_ic mo_no) (mo_bf mo_push mo_no)) (mo_bf (mo_bf mo_ld mo_no) (mo_bf mo_st mo_no))) (mo_bf (mo_bf (mo_bf mo_cv mo_no) (mo_bf mo_ld mo_no)) (mo_bf mo_iald mo_no))))) (mo_bf (mo_bf (mo_bf (mo_bf (mo_bf (mo_bf mo_i2 mo_no) (mo_bf mo_push mo_no)) (mo_bf (mo_bf mo_ld mo_no) (mo_bf mo_gr mo_no))) (mo_bf (mo_bf (mo_bf mo_ld mo_no) (mo_bf mo_ld mo_no)) (mo_bf (mo_bf mo_go mo_no) (mo_bf mo_push mo_no)))) (mo_bf (mo_bf (mo_bf (mo_bf mo_ic mo_no) (mo_bf mo_push mo_no)) (mo_bf (mo_bf mo_ld mo_no) (mo_bf mo_st mo_no))) (mo_bf (mo_bf (mo_bf mo_cv mo_no) (mo_bf mo_ld mo_no)) (mo_bf mo_iald mo_no)))) (mo_bf (mo_bf (mo_bf (mo_bf (mo_bf mo_i2 mo_no) (mo_bf mo_push mo_no)) (mo_bf (mo_bf mo_ld mo_no) (mo_bf mo_gr mo_no))) (mo_bf (mo_bf (mo_bf mo_ld mo_no) (mo_bf mo_ld mo_no)) (mo_bf (mo_bf mo_st mo_no) (mo_bf mo_iald mo_no)))) (mo_bf (mo_bf (mo_bf (mo_bf mo_ld mo_no) (mo_bf mo_gr mo_no)) (mo_bf (mo_bf mo_ld mo_no) (mo_bf mo_st mo_no))) (mo_bf (mo_bf (mo_bf mo_i2 mo_no) (mo_bf mo_push mo_no)) (mo_bf mo_ld mo_no))))))
theorem ok_X10_worthOf_0 : ok_S 97 0 (sf_ld 2 0 1) := ok_aload_n (by decide +kernel : decode (mb_ 97) 0 = .ok (.aload_n 0, 1)) rfl
theorem ok_X10_worthOf_1 : ok_S 97 1 (sf_ld 0 1 2) := ok_iload_n (by decide +kernel : decode (mb_ 97) 1 = .ok (.iload_n 1, 1)) rfl
theorem ok_X10_worthOf_2 : ok_S 97 2 (sf_cv 8 [2, 0] 91 5) := ok_cv mt_91 cl_8 (by decide +kernel : decode (mb_ 97) 2 = .ok (.invokevirtual 52, 3)) tw_520 tw_521 tw_522 tw_3 rfl (by decide +kernel) (mh_ok rfl) (by decide) (by decide)
theorem ok_X10_worthOf_5 : ok_S 97 5 (sf_st 2 3 6) := ok_astore_n (by decide +kernel : decode (mb_ 97) 5 = .ok (.astore_n 3, 1)) rfl
theorem ok_X10_worthOf_6 : ok_S 97 6 (sf_ld 2 3 7) := ok_aload_n (by decide +kernel : decode (mb_ 97) 6 = .ok (.aload_n 3, 1)) rfl
theorem ok_X10_worthOf_7 : ok_S 97 7 (sf_nul 10 14) := ok_nnul (by decide +kernel : decode (mb_ 97) 7 = .ok (.ifnonnull 7, 3)) (by decide)
theorem ok_X10_worthOf_10 : ok_S 97 10 (sf_push (0, 0) 11) := ok_iconst (by decide +kernel : decode (mb_ 97) 10 = .ok (.iconst 0, 1)) ⟨by decide, by decide⟩
theorem ok_X10_worthOf_11 : ok_S 97 11 (sf_go 24) := ok_goto (by decide +kernel : decode (mb_ 97) 11 = .ok (.goto 13, 3)) (by decide)
theorem ok_X10_worthOf_14 : ok_S 97 14 (sf_ld 2 3 15) := ok_aload_n (by decide +kernel : decode (mb_ 97) 14 = .ok (.aload_n 3, 1)) rfl
theorem ok_X10_worthOf_15 : ok_S 97 15 (sf_ld 2 2 16) := ok_aload_n (by decide +kernel : decode (mb_ 97) 15 = .ok (.aload_n 2, 1)) rfl
theorem ok_X10_worthOf_16 : ok_S 97 16 (sf_ld 2 3 17) := ok_aload_n (by decide +kernel : decode (mb_ 97) 16 = .ok (.aload_n 3, 1)) rfl
theorem ok_X10_worthOf_17 : ok_S 97 17 (sf_gi 1 6 3 20) := ok_gi fd_1_3 (by decide +kernel : decode (mb_ 97) 17 = .ok (.getfield 60, 3)) tw_425 (Or.inl rfl) rfl
theorem ok_X10_worthOf_20 : ok_S 97 20 (sf_iald 21) := ok_iald (by decide +kernel : decode (mb_ 97) 20 = .ok (.iaload, 1))
theorem ok_X10_worthOf_21 : ok_S 97 21 (sf_cu [(1, 43), (2, 56), (3, 3), (4, 3), (5, 82), (6, 9)] [2, 0] 24) := ok_cu (x := ⟨"RoomNumbers$Note", "worthBy", "(I)I"⟩) (ow := "RoomNumbers$Note") ⟨tw_801, tw_608, tw_606, ⟨_, _, _, tw_639⟩, mh_ok rfl, (by decide +kernel)⟩ (List.forall_mem_cons.mpr ⟨⟨"RoomNumbers$Note", cl_1, mt_43, tw_607, tw_606, tw_14, by decide, by decide⟩, (List.forall_mem_cons.mpr ⟨⟨"RoomNumbers$Strokes", cl_2, mt_56, tw_635, tw_632, tw_15, by decide, by decide⟩, (List.forall_mem_cons.mpr ⟨⟨"RoomNumbers$Broken", cl_3, mt_3, tw_609, tw_610, tw_16, by decide, by decide⟩, (List.forall_mem_cons.mpr ⟨⟨"RoomNumbers$Left", cl_4, mt_3, tw_634, tw_610, tw_16, by decide, by decide⟩, (List.forall_mem_cons.mpr ⟨⟨"RoomNumbers$Turned", cl_5, mt_82, tw_636, tw_637, tw_18, by decide, by decide⟩, (List.forall_mem_cons.mpr ⟨⟨"RoomNumbers$Debt", cl_6, mt_9, tw_628, tw_629, tw_19, by decide, by decide⟩, (fun _ h => absurd h List.not_mem_nil)⟩)⟩)⟩)⟩)⟩)⟩) (by decide +kernel : decode (mb_ 97) 21 = .ok (.invokevirtual 108, 3)) rfl
theorem ok_X10_worthOf_24 : ok_S 97 24 (sf_ret 0) := ok_ret0 (by decide +kernel : decode (mb_ 97) 24 = .ok (.ireturn, 1)) rfl
theorem ok_X10_worthOf (pc : Nat) : ok_S 97 pc (cd_X10_worthOf pc) :=
  (ok_bf (ok_bf (ok_bf (ok_bf (ok_lf pc ok_X10_worthOf_24) (ok_lf pc ok_X10_worthOf_21)) (ok_bf (ok_lf pc ok_X10_worthOf_20) (ok_lf pc ok_X10_worthOf_17))) (ok_bf (ok_bf (ok_lf pc ok_X10_worthOf_16) (ok_lf pc ok_X10_worthOf_15)) (ok_bf (ok_lf pc ok_X10_worthOf_14) (ok_lf pc ok_X10_worthOf_11)))) (ok_bf (ok_bf (ok_bf (ok_lf pc ok_X10_worthOf_10) (ok_lf pc ok_X10_worthOf_7)) (ok_bf (ok_lf pc ok_X10_worthOf_6) (ok_lf pc ok_X10_worthOf_5))) (ok_bf (ok_bf (ok_lf pc ok_X10_worthOf_2) (ok_lf pc ok_X10_worthOf_1)) (ok_lf pc ok_X10_worthOf_0))))
theorem mo_X10_worthOf (pc : Nat) : mo_S (cd_X10_worthOf pc) :=
  (mo_bf (mo_bf (mo_bf (mo_bf (mo_bf mo_ret mo_no) (mo_bf mo_cu mo_no)) (mo_bf (mo_bf mo_iald mo_no) (mo_bf mo_gi mo_no))) (mo_bf (mo_bf (mo_bf mo_ld mo_no) (mo_bf mo_ld mo_no)) (mo_bf (mo_bf mo_ld mo_no) (mo_bf mo_go mo_no)))) (mo_bf (mo_bf (mo_bf (mo_bf mo_push mo_no) (mo_bf mo_nul mo_no)) (mo_bf (mo_bf mo_ld mo_no) (mo_bf mo_st mo_no))) (mo_bf (mo_bf (mo_bf mo_cv mo_no) (mo_bf mo_ld mo_no)) (mo_bf mo_ld mo_no))))
theorem ok_X10_linesWith_0 : ok_S 98 0 (sf_push (0, 0) 1) := ok_iconst (by decide +kernel : decode (mb_ 98) 0 = .ok (.iconst 0, 1)) ⟨by decide, by decide⟩
theorem ok_X10_linesWith_1 : ok_S 98 1 (sf_st 0 2 2) := ok_istore_n (by decide +kernel : decode (mb_ 98) 1 = .ok (.istore_n 2, 1)) rfl
theorem ok_X10_linesWith_2 : ok_S 98 2 (sf_push (0, 0) 3) := ok_iconst (by decide +kernel : decode (mb_ 98) 2 = .ok (.iconst 0, 1)) ⟨by decide, by decide⟩
theorem ok_X10_linesWith_3 : ok_S 98 3 (sf_st 0 3 4) := ok_istore_n (by decide +kernel : decode (mb_ 98) 3 = .ok (.istore_n 3, 1)) rfl
theorem ok_X10_linesWith_4 : ok_S 98 4 (sf_ld 0 3 5) := ok_iload_n (by decide +kernel : decode (mb_ 98) 4 = .ok (.iload_n 3, 1)) rfl
theorem ok_X10_linesWith_5 : ok_S 98 5 (sf_ld 2 0 6) := ok_aload_n (by decide +kernel : decode (mb_ 98) 5 = .ok (.aload_n 0, 1)) rfl
theorem ok_X10_linesWith_6 : ok_S 98 6 (sf_gi 8 8 4 9) := ok_gi fd_8_4 (by decide +kernel : decode (mb_ 98) 6 = .ok (.getfield 25, 3)) tw_58 (Or.inl rfl) rfl
theorem ok_X10_linesWith_9 : ok_S 98 9 (sf_ic 3 101 12) := ok_ic3 (by decide +kernel : decode (mb_ 98) 9 = .ok (.if_icmp .ge 92, 3)) (by decide)
theorem ok_X10_linesWith_12 : ok_S 98 12 (sf_ld 0 3 13) := ok_iload_n (by decide +kernel : decode (mb_ 98) 12 = .ok (.iload_n 3, 1)) rfl
theorem ok_X10_linesWith_13 : ok_S 98 13 (sf_push (0, 4) 14) := ok_iconst (by decide +kernel : decode (mb_ 98) 13 = .ok (.iconst 4, 1)) ⟨by decide, by decide⟩
theorem ok_X10_linesWith_14 : ok_S 98 14 (sf_i2 mx_mul 15) := ok_imul (by decide +kernel : decode (mb_ 98) 14 = .ok (.imul, 1))
theorem ok_X10_linesWith_15 : ok_S 98 15 (sf_st 0 4 17) := ok_istore (by decide +kernel : decode (mb_ 98) 15 = .ok (.istore 4, 2))
theorem ok_X10_linesWith_17 : ok_S 98 17 (sf_ld 2 0 18) := ok_aload_n (by decide +kernel : decode (mb_ 98) 17 = .ok (.aload_n 0, 1)) rfl
theorem ok_X10_linesWith_18 : ok_S 98 18 (sf_gr 8 8 2 21) := ok_gr fd_8_2 (by decide +kernel : decode (mb_ 98) 18 = .ok (.getfield 18, 3)) tw_51 (Or.inl rfl) rfl
theorem ok_X10_linesWith_21 : ok_S 98 21 (sf_ld 0 4 23) := ok_iload (by decide +kernel : decode (mb_ 98) 21 = .ok (.iload 4, 2))
theorem ok_X10_linesWith_23 : ok_S 98 23 (sf_iald 24) := ok_iald (by decide +kernel : decode (mb_ 98) 23 = .ok (.iaload, 1))
theorem ok_X10_linesWith_24 : ok_S 98 24 (sf_st 0 5 26) := ok_istore (by decide +kernel : decode (mb_ 98) 24 = .ok (.istore 5, 2))
theorem ok_X10_linesWith_26 : ok_S 98 26 (sf_ld 2 0 27) := ok_aload_n (by decide +kernel : decode (mb_ 98) 26 = .ok (.aload_n 0, 1)) rfl
theorem ok_X10_linesWith_27 : ok_S 98 27 (sf_gr 8 8 2 30) := ok_gr fd_8_2 (by decide +kernel : decode (mb_ 98) 27 = .ok (.getfield 18, 3)) tw_51 (Or.inl rfl) rfl
theorem ok_X10_linesWith_30 : ok_S 98 30 (sf_ld 0 4 32) := ok_iload (by decide +kernel : decode (mb_ 98) 30 = .ok (.iload 4, 2))
theorem ok_X10_linesWith_32 : ok_S 98 32 (sf_push (0, 1) 33) := ok_iconst (by decide +kernel : decode (mb_ 98) 32 = .ok (.iconst 1, 1)) ⟨by decide, by decide⟩
theorem ok_X10_linesWith_33 : ok_S 98 33 (sf_i2 mx_add 34) := ok_iadd (by decide +kernel : decode (mb_ 98) 33 = .ok (.iadd, 1))
theorem ok_X10_linesWith_34 : ok_S 98 34 (sf_iald 35) := ok_iald (by decide +kernel : decode (mb_ 98) 34 = .ok (.iaload, 1))
theorem ok_X10_linesWith_35 : ok_S 98 35 (sf_ld 0 1 36) := ok_iload_n (by decide +kernel : decode (mb_ 98) 35 = .ok (.iload_n 1, 1)) rfl
theorem ok_X10_linesWith_36 : ok_S 98 36 (sf_ic 0 77 39) := ok_ic0 (by decide +kernel : decode (mb_ 98) 36 = .ok (.if_icmp .eq 41, 3)) (by decide)
theorem ok_X10_linesWith_39 : ok_S 98 39 (sf_ld 0 5 41) := ok_iload (by decide +kernel : decode (mb_ 98) 39 = .ok (.iload 5, 2))
theorem ok_X10_linesWith_41 : ok_S 98 41 (sf_push (0, 3) 42) := ok_iconst (by decide +kernel : decode (mb_ 98) 41 = .ok (.iconst 3, 1)) ⟨by decide, by decide⟩
theorem ok_X10_linesWith_42 : ok_S 98 42 (sf_ic 0 58 45) := ok_ic0 (by decide +kernel : decode (mb_ 98) 42 = .ok (.if_icmp .eq 16, 3)) (by decide)
theorem ok_X10_linesWith_45 : ok_S 98 45 (sf_ld 2 0 46) := ok_aload_n (by decide +kernel : decode (mb_ 98) 45 = .ok (.aload_n 0, 1)) rfl
theorem ok_X10_linesWith_46 : ok_S 98 46 (sf_gr 8 8 2 49) := ok_gr fd_8_2 (by decide +kernel : decode (mb_ 98) 46 = .ok (.getfield 18, 3)) tw_51 (Or.inl rfl) rfl
theorem ok_X10_linesWith_49 : ok_S 98 49 (sf_ld 0 4 51) := ok_iload (by decide +kernel : decode (mb_ 98) 49 = .ok (.iload 4, 2))
theorem ok_X10_linesWith_51 : ok_S 98 51 (sf_push (0, 2) 52) := ok_iconst (by decide +kernel : decode (mb_ 98) 51 = .ok (.iconst 2, 1)) ⟨by decide, by decide⟩
theorem ok_X10_linesWith_52 : ok_S 98 52 (sf_i2 mx_add 53) := ok_iadd (by decide +kernel : decode (mb_ 98) 52 = .ok (.iadd, 1))
theorem ok_X10_linesWith_53 : ok_S 98 53 (sf_iald 54) := ok_iald (by decide +kernel : decode (mb_ 98) 53 = .ok (.iaload, 1))
theorem ok_X10_linesWith_54 : ok_S 98 54 (sf_ld 0 1 55) := ok_iload_n (by decide +kernel : decode (mb_ 98) 54 = .ok (.iload_n 1, 1)) rfl
theorem ok_X10_linesWith_55 : ok_S 98 55 (sf_ic 0 77 58) := ok_ic0 (by decide +kernel : decode (mb_ 98) 55 = .ok (.if_icmp .eq 22, 3)) (by decide)
theorem ok_X10_linesWith_58 : ok_S 98 58 (sf_ld 0 5 60) := ok_iload (by decide +kernel : decode (mb_ 98) 58 = .ok (.iload 5, 2))
theorem ok_X10_linesWith_60 : ok_S 98 60 (sf_push (0, 2) 61) := ok_iconst (by decide +kernel : decode (mb_ 98) 60 = .ok (.iconst 2, 1)) ⟨by decide, by decide⟩
theorem ok_X10_linesWith_61 : ok_S 98 61 (sf_ic 1 81 64) := ok_ic1 (by decide +kernel : decode (mb_ 98) 61 = .ok (.if_icmp .ne 20, 3)) (by decide)
theorem ok_X10_linesWith_64 : ok_S 98 64 (sf_ld 2 0 65) := ok_aload_n (by decide +kernel : decode (mb_ 98) 64 = .ok (.aload_n 0, 1)) rfl
theorem ok_X10_linesWith_65 : ok_S 98 65 (sf_gr 8 8 2 68) := ok_gr fd_8_2 (by decide +kernel : decode (mb_ 98) 65 = .ok (.getfield 18, 3)) tw_51 (Or.inl rfl) rfl
theorem ok_X10_linesWith_68 : ok_S 98 68 (sf_ld 0 4 70) := ok_iload (by decide +kernel : decode (mb_ 98) 68 = .ok (.iload 4, 2))
theorem ok_X10_linesWith_70 : ok_S 98 70 (sf_push (0, 3) 71) := ok_iconst (by decide +kernel : decode (mb_ 98) 70 = .ok (.iconst 3, 1)) ⟨by decide, by decide⟩
theorem ok_X10_linesWith_71 : ok_S 98 71 (sf_i2 mx_add 72) := ok_iadd (by decide +kernel : decode (mb_ 98) 71 = .ok (.iadd, 1))
theorem ok_X10_linesWith_72 : ok_S 98 72 (sf_iald 73) := ok_iald (by decide +kernel : decode (mb_ 98) 72 = .ok (.iaload, 1))
theorem ok_X10_linesWith_73 : ok_S 98 73 (sf_ld 0 1 74) := ok_iload_n (by decide +kernel : decode (mb_ 98) 73 = .ok (.iload_n 1, 1)) rfl
theorem ok_X10_linesWith_74 : ok_S 98 74 (sf_ic 1 81 77) := ok_ic1 (by decide +kernel : decode (mb_ 98) 74 = .ok (.if_icmp .ne 7, 3)) (by decide)
theorem ok_X10_linesWith_77 : ok_S 98 77 (sf_push (0, 1) 78) := ok_iconst (by decide +kernel : decode (mb_ 98) 77 = .ok (.iconst 1, 1)) ⟨by decide, by decide⟩
theorem ok_X10_linesWith_78 : ok_S 98 78 (sf_go 82) := ok_goto (by decide +kernel : decode (mb_ 98) 78 = .ok (.goto 4, 3)) (by decide)
theorem ok_X10_linesWith_81 : ok_S 98 81 (sf_push (0, 0) 82) := ok_iconst (by decide +kernel : decode (mb_ 98) 81 = .ok (.iconst 0, 1)) ⟨by decide, by decide⟩
theorem ok_X10_linesWith_82 : ok_S 98 82 (sf_st 0 6 84) := ok_istore (by decide +kernel : decode (mb_ 98) 82 = .ok (.istore 6, 2))
theorem ok_X10_linesWith_84 : ok_S 98 84 (sf_ld 0 6 86) := ok_iload (by decide +kernel : decode (mb_ 98) 84 = .ok (.iload 6, 2))
theorem ok_X10_linesWith_86 : ok_S 98 86 (sf_if 0 95 89) := ok_if0 (by decide +kernel : decode (mb_ 98) 86 = .ok (.ifCond .eq 9, 3)) (by decide)
theorem ok_X10_linesWith_89 : ok_S 98 89 (sf_ld 0 2 90) := ok_iload_n (by decide +kernel : decode (mb_ 98) 89 = .ok (.iload_n 2, 1)) rfl
theorem ok_X10_linesWith_90 : ok_S 98 90 (sf_push (0, 1) 91) := ok_iconst (by decide +kernel : decode (mb_ 98) 90 = .ok (.iconst 1, 1)) ⟨by decide, by decide⟩
theorem ok_X10_linesWith_91 : ok_S 98 91 (sf_ld 0 3 92) := ok_iload_n (by decide +kernel : decode (mb_ 98) 91 = .ok (.iload_n 3, 1)) rfl
theorem ok_X10_linesWith_92 : ok_S 98 92 (sf_i2 mx_shl 93) := ok_ishl (by decide +kernel : decode (mb_ 98) 92 = .ok (.ishl, 1))
theorem ok_X10_linesWith_93 : ok_S 98 93 (sf_i2 mx_or 94) := ok_ior (by decide +kernel : decode (mb_ 98) 93 = .ok (.ior, 1))
theorem ok_X10_linesWith_94 : ok_S 98 94 (sf_st 0 2 95) := ok_istore_n (by decide +kernel : decode (mb_ 98) 94 = .ok (.istore_n 2, 1)) rfl
theorem ok_X10_linesWith_95 : ok_S 98 95 (sf_inc 3 1 98) := ok_iinc (by decide +kernel : decode (mb_ 98) 95 = .ok (.iinc 3 1, 3))
theorem ok_X10_linesWith_98 : ok_S 98 98 (sf_go 4) := ok_goto (by decide +kernel : decode (mb_ 98) 98 = .ok (.goto (-94), 3)) (by decide)
theorem ok_X10_linesWith_101 : ok_S 98 101 (sf_ld 0 2 102) := ok_iload_n (by decide +kernel : decode (mb_ 98) 101 = .ok (.iload_n 2, 1)) rfl
theorem ok_X10_linesWith_102 : ok_S 98 102 (sf_ret 0) := ok_ret0 (by decide +kernel : decode (mb_ 98) 102 = .ok (.ireturn, 1)) rfl
theorem ok_X10_linesWith (pc : Nat) : ok_S 98 pc (cd_X10_linesWith pc) :=
  (ok_bf (ok_bf (ok_bf (ok_bf (ok_bf (ok_bf (ok_lf pc ok_X10_linesWith_102) (ok_lf pc ok_X10_linesWith_101)) (ok_bf (ok_lf pc ok_X10_linesWith_98) (ok_lf pc ok_X10_linesWith_95))) (ok_bf (ok_bf (ok_lf pc ok_X10_linesWith_94) (ok_lf pc ok_X10_linesWith_93)) (ok_bf (ok_lf pc ok_X10_linesWith_92) (ok_lf pc ok_X10_linesWith_91)))) (ok_bf (ok_bf (ok_bf (ok_lf pc ok_X10_linesWith_90) (ok_lf pc ok_X10_linesWith_89)) (ok_bf (ok_lf pc ok_X10_linesWith_86) (ok_lf pc ok_X10_linesWith_84))) (ok_bf (ok_bf (ok_lf pc ok_X10_linesWith_82) (ok_lf pc ok_X10_linesWith_81)) (ok_bf (ok_lf pc ok_X10_linesWith_78) (ok_lf pc ok_X10_linesWith_77))))) (ok_bf (ok_bf (ok_bf (ok_bf (ok_lf pc ok_X10_linesWith_74) (ok_lf pc ok_X10_linesWith_73)) (ok_bf (ok_lf pc ok_X10_linesWith_72) (ok_lf pc ok_X10_linesWith_71))) (ok_bf (ok_bf (ok_lf pc ok_X10_linesWith_70) (ok_lf pc ok_X10_linesWith_68)) (ok_bf (ok_lf pc ok_X10_linesWith_65) (ok_lf pc ok_X10_linesWith_64)))) (ok_bf (ok_bf (ok_bf (ok_lf pc ok_X10_linesWith_61) (ok_lf pc ok_X10_linesWith_60)) (ok_bf (ok_lf pc ok_X10_linesWith_58) (ok_lf pc ok_X10_linesWith_55))) (ok_bf (ok_bf (ok_lf pc ok_X10_linesWith_54) (ok_lf pc ok_X10_linesWith_53)) (ok_bf (ok_lf pc ok_X10_linesWith_52) (ok_lf pc ok_X10_linesWith_51)))))) (ok_bf (ok_bf (ok_bf (ok_bf (ok_bf (ok_lf pc ok_X10_linesWith_49) (ok_lf pc ok_X10_linesWith_46)) (ok_bf (ok_lf pc ok_X10_linesWith_45) (ok_lf pc ok_X10_linesWith_42))) (ok_bf (ok_bf (ok_lf pc ok_X10_linesWith_41) (ok_lf pc ok_X10_linesWith_39)) (ok_bf (ok_lf pc ok_X10_linesWith_36) (ok_lf pc ok_X10_linesWith_35)))) (ok_bf (ok_bf (ok_bf (ok_lf pc ok_X10_linesWith_34) (ok_lf pc ok_X10_linesWith_33)) (ok_bf (ok_lf pc ok_X10_linesWith_32) (ok_lf pc ok_X10_linesWith_30))) (ok_bf (ok_bf (ok_lf pc ok_X10_linesWith_27) (ok_lf pc ok_X10_linesWith_26)) (ok_bf (ok_lf pc ok_X10_linesWith_24) (ok_lf pc ok_X10_linesWith_23))))) (ok_bf (ok_bf (ok_bf (ok_bf (ok_lf pc ok_X10_linesWith_21) (ok_lf pc ok_X10_linesWith_18)) (ok_bf (ok_lf pc ok_X10_linesWith_17) (ok_lf pc ok_X10_linesWith_15))) (ok_bf (ok_bf (ok_lf pc ok_X10_linesWith_14) (ok_lf pc ok_X10_linesWith_13)) (ok_bf (ok_lf pc ok_X10_linesWith_12) (ok_lf pc ok_X10_linesWith_9)))) (ok_bf (ok_bf (ok_bf (ok_lf pc ok_X10_linesWith_6) (ok_lf pc ok_X10_linesWith_5)) (ok_bf (ok_lf pc ok_X10_linesWith_4) (ok_lf pc ok_X10_linesWith_3))) (ok_bf (ok_bf (ok_lf pc ok_X10_linesWith_2) (ok_lf pc ok_X10_linesWith_1)) (ok_lf pc ok_X10_linesWith_0))))))
theorem mo_X10_linesWith (pc : Nat) : mo_S (cd_X10_linesWith pc) :=
  (mo_bf (mo_bf (mo_bf (mo_bf (mo_bf (mo_bf (mo_bf mo_ret mo_no) (mo_bf mo_ld mo_no)) (mo_bf (mo_bf mo_go mo_no) (mo_bf mo_inc mo_no))) (mo_bf (mo_bf (mo_bf mo_st mo_no) (mo_bf mo_i2 mo_no)) (mo_bf (mo_bf mo_i2 mo_no) (mo_bf mo_ld mo_no)))) (mo_bf (mo_bf (mo_bf (mo_bf mo_push mo_no) (mo_bf mo_ld mo_no)) (mo_bf (mo_bf mo_if mo_no) (mo_bf mo_ld mo_no))) (mo_bf (mo_bf (mo_bf mo_st mo_no) (mo_bf mo_push mo_no)) (mo_bf (mo_bf mo_go mo_no) (mo_bf mo_push mo_no))))) (mo_bf (mo_bf (mo_bf (mo_bf (mo_bf mo_ic mo_no) (mo_bf mo_ld mo_no)) (mo_bf (mo_bf mo_iald mo_no) (mo_bf mo_i2 mo_no))) (mo_bf (mo_bf (mo_bf mo_push mo_no) (mo_bf mo_ld mo_no)) (mo_bf (mo_bf mo_gr mo_no) (mo_bf mo_ld mo_no)))) (mo_bf (mo_bf (mo_bf (mo_bf mo_ic mo_no) (mo_bf mo_push mo_no)) (mo_bf (mo_bf mo_ld mo_no) (mo_bf mo_ic mo_no))) (mo_bf (mo_bf (mo_bf mo_ld mo_no) (mo_bf mo_iald mo_no)) (mo_bf (mo_bf mo_i2 mo_no) (mo_bf mo_push mo_no)))))) (mo_bf (mo_bf (mo_bf (mo_bf (mo_bf (mo_bf mo_ld mo_no) (mo_bf mo_gr mo_no)) (mo_bf (mo_bf mo_ld mo_no) (mo_bf mo_ic mo_no))) (mo_bf (mo_bf (mo_bf mo_push mo_no) (mo_bf mo_ld mo_no)) (mo_bf (mo_bf mo_ic mo_no) (mo_bf mo_ld mo_no)))) (mo_bf (mo_bf (mo_bf (mo_bf mo_iald mo_no) (mo_bf mo_i2 mo_no)) (mo_bf (mo_bf mo_push mo_no) (mo_bf mo_ld mo_no))) (mo_bf (mo_bf (mo_bf mo_gr mo_no) (mo_bf mo_ld mo_no)) (mo_bf (mo_bf mo_st mo_no) (mo_bf mo_iald mo_no))))) (mo_bf (mo_bf (mo_bf (mo_bf (mo_bf mo_ld mo_no) (mo_bf mo_gr mo_no)) (mo_bf (mo_bf mo_ld mo_no) (mo_bf mo_st mo_no))) (mo_bf (mo_bf (mo_bf mo_i2 mo_no) (mo_bf mo_push mo_no)) (mo_bf (mo_bf mo_ld mo_no) (mo_bf mo_ic mo_no)))) (mo_bf (mo_bf (mo_bf (mo_bf mo_gi mo_no) (mo_bf mo_ld mo_no)) (mo_bf (mo_bf mo_ld mo_no) (mo_bf mo_st mo_no))) (mo_bf (mo_bf (mo_bf mo_push mo_no) (mo_bf mo_st mo_no)) (mo_bf mo_push mo_no))))))
theorem ok_X10_allLines_0 : ok_S 99 0 (sf_push (0, 1) 1) := ok_iconst (by decide +kernel : decode (mb_ 99) 0 = .ok (.iconst 1, 1)) ⟨by decide, by decide⟩
theorem ok_X10_allLines_1 : ok_S 99 1 (sf_ld 2 0 2) := ok_aload_n (by decide +kernel : decode (mb_ 99) 1 = .ok (.aload_n 0, 1)) rfl
theorem ok_X10_allLines_2 : ok_S 99 2 (sf_gi 8 8 4 5) := ok_gi fd_8_4 (by decide +kernel : decode (mb_ 99) 2 = .ok (.getfield 25, 3)) tw_58 (Or.inl rfl) rfl
theorem ok_X10_allLines_5 : ok_S 99 5 (sf_i2 mx_shl 6) := ok_ishl (by decide +kernel : decode (mb_ 99) 5 = .ok (.ishl, 1))
theorem ok_X10_allLines_6 : ok_S 99 6 (sf_push (0, 1) 7) := ok_iconst (by decide +kernel : decode (mb_ 99) 6 = .ok (.iconst 1, 1)) ⟨by decide, by decide⟩
theorem ok_X10_allLines_7 : ok_S 99 7 (sf_i2 mx_sub 8) := ok_isub (by decide +kernel : decode (mb_ 99) 7 = .ok (.isub, 1))
theorem ok_X10_allLines_8 : ok_S 99 8 (sf_ret 0) := ok_ret0 (by decide +kernel : decode (mb_ 99) 8 = .ok (.ireturn, 1)) rfl
theorem ok_X10_allLines (pc : Nat) : ok_S 99 pc (cd_X10_allLines pc) :=
  (ok_bf (ok_bf (ok_bf (ok_lf pc ok_X10_allLines_8) (ok_lf pc ok_X10_allLines_7)) (ok_bf (ok_lf pc ok_X10_allLines_6) (ok_lf pc ok_X10_allLines_5))) (ok_bf (ok_bf (ok_lf pc ok_X10_allLines_2) (ok_lf pc ok_X10_allLines_1)) (ok_lf pc ok_X10_allLines_0)))
theorem mo_X10_allLines (pc : Nat) : mo_S (cd_X10_allLines pc) :=
  (mo_bf (mo_bf (mo_bf (mo_bf mo_ret mo_no) (mo_bf mo_i2 mo_no)) (mo_bf (mo_bf mo_push mo_no) (mo_bf mo_i2 mo_no))) (mo_bf (mo_bf (mo_bf mo_gi mo_no) (mo_bf mo_ld mo_no)) (mo_bf mo_push mo_no)))
