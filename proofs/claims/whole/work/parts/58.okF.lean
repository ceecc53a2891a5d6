/-! PRINTED (gen_ok.py): each step is sound -/
theorem ok_X2_init_0 : ok_S 12 0 (sf_ld 2 0 1) := ok_aload_n (by decide +kernel : decode (mb_ 12) 0 = .ok (.aload_n 0, 1)) rfl
theorem ok_X2_init_1 : ok_S 12 1 (sf_oini 4) := ok_oini (by decide +kernel : decode (mb_ 12) 1 = .ok (.invokespecial 3, 3)) tw_35 tw_28 tw_29
theorem ok_X2_init_4 : ok_S 12 4 (sf_ld 2 0 5) := ok_aload_n (by decide +kernel : decode (mb_ 12) 4 = .ok (.aload_n 0, 1)) rfl
theorem ok_X2_init_5 : ok_S 12 5 (sf_new 8 8) := ok_new cn_8 (by decide +kernel : decode (mb_ 12) 5 = .ok (.new 9, 3)) tw_36 tw_37 tw_3
theorem ok_X2_init_8 : ok_S 12 8 (sf_dup 9) := ok_dup (by decide +kernel : decode (mb_ 12) 8 = .ok (.dup, 1))
theorem ok_X2_init_9 : ok_S 12 9 (sf_ci 8 8 [2] 84 12) := ok_ci mt_84 (by decide) (by decide) (by decide +kernel : decode (mb_ 12) 9 = .ok (.invokespecial 11, 3)) tw_38 tw_39 tw_3 rfl rfl rfl (by decide +kernel) (mh_ok rfl) (by decide) (by decide)
theorem ok_X2_init_12 : ok_S 12 12 (sf_pr 9 9 0 15) := ok_pr fd_9_0 (by decide +kernel : decode (mb_ 12) 12 = .ok (.putfield 12, 3)) tw_82 rfl (Or.inr ⟨ff_9_0, rfl, rfl⟩) rfl (by decide +kernel : parseFieldDescriptor "LRoomNumbers$Valley;" = some (.object "RoomNumbers$Valley")) (Or.inl ⟨_, rfl⟩)
theorem ok_X2_init_15 : ok_S 12 15 (sf_ld 2 0 16) := ok_aload_n (by decide +kernel : decode (mb_ 12) 15 = .ok (.aload_n 0, 1)) rfl
theorem ok_X2_init_16 : ok_S 12 16 (sf_push (0, 3) 17) := ok_iconst (by decide +kernel : decode (mb_ 12) 16 = .ok (.iconst 3, 1)) ⟨by decide, by decide⟩
theorem ok_X2_init_17 : ok_S 12 17 (sf_newa 20 19) := ok_newa rfl (Or.inl ⟨rfl, rfl⟩) (by decide +kernel : decode (mb_ 12) 17 = .ok (.newarray .int, 2)) tw_81
theorem ok_X2_init_19 : ok_S 12 19 (sf_pr 9 9 1 22) := ok_pr fd_9_1 (by decide +kernel : decode (mb_ 12) 19 = .ok (.putfield 18, 3)) tw_84 rfl (Or.inr ⟨ff_9_1, rfl, rfl⟩) rfl (by decide +kernel : parseFieldDescriptor "[I" = some (.array .int)) (Or.inr ⟨_, rfl⟩)
theorem ok_X2_init_22 : ok_S 12 22 (sf_ld 2 0 23) := ok_aload_n (by decide +kernel : decode (mb_ 12) 22 = .ok (.aload_n 0, 1)) rfl
theorem ok_X2_init_23 : ok_S 12 23 (sf_push (0, 0) 24) := ok_iconst (by decide +kernel : decode (mb_ 12) 23 = .ok (.iconst 0, 1)) ⟨by decide, by decide⟩
theorem ok_X2_init_24 : ok_S 12 24 (sf_pi 9 9 2 27) := ok_pi fd_9_2 (by decide +kernel : decode (mb_ 12) 24 = .ok (.putfield 22, 3)) tw_86 rfl (Or.inl ff_9_2) rfl
theorem ok_X2_init_27 : ok_S 12 27 (sf_ld 2 0 28) := ok_aload_n (by decide +kernel : decode (mb_ 12) 27 = .ok (.aload_n 0, 1)) rfl
theorem ok_X2_init_28 : ok_S 12 28 (sf_push (0, 0) 29) := ok_iconst (by decide +kernel : decode (mb_ 12) 28 = .ok (.iconst 0, 1)) ⟨by decide, by decide⟩
theorem ok_X2_init_29 : ok_S 12 29 (sf_pi 9 9 3 32) := ok_pi fd_9_3 (by decide +kernel : decode (mb_ 12) 29 = .ok (.putfield 26, 3)) tw_88 rfl (Or.inl ff_9_3) rfl
theorem ok_X2_init_32 : ok_S 12 32 (sf_ld 2 0 33) := ok_aload_n (by decide +kernel : decode (mb_ 12) 32 = .ok (.aload_n 0, 1)) rfl
theorem ok_X2_init_33 : ok_S 12 33 (sf_push (0, 0) 34) := ok_iconst (by decide +kernel : decode (mb_ 12) 33 = .ok (.iconst 0, 1)) ⟨by decide, by decide⟩
theorem ok_X2_init_34 : ok_S 12 34 (sf_pi 9 9 4 37) := ok_pi fd_9_4 (by decide +kernel : decode (mb_ 12) 34 = .ok (.putfield 29, 3)) tw_90 rfl (Or.inl ff_9_4) rfl
theorem ok_X2_init_37 : ok_S 12 37 (sf_ld 2 0 38) := ok_aload_n (by decide +kernel : decode (mb_ 12) 37 = .ok (.aload_n 0, 1)) rfl
theorem ok_X2_init_38 : ok_S 12 38 (sf_push (0, 6) 40) := ok_bipush (by decide +kernel : decode (mb_ 12) 38 = .ok (.bipush 6, 2)) ⟨by decide, by decide⟩ (by decide +kernel)
theorem ok_X2_init_40 : ok_S 12 40 (sf_newa 20 42) := ok_newa rfl (Or.inl ⟨rfl, rfl⟩) (by decide +kernel : decode (mb_ 12) 40 = .ok (.newarray .int, 2)) tw_81
theorem ok_X2_init_42 : ok_S 12 42 (sf_pr 9 9 5 45) := ok_pr fd_9_5 (by decide +kernel : decode (mb_ 12) 42 = .ok (.putfield 32, 3)) tw_92 rfl (Or.inr ⟨ff_9_5, rfl, rfl⟩) rfl (by decide +kernel : parseFieldDescriptor "[I" = some (.array .int)) (Or.inr ⟨_, rfl⟩)
theorem ok_X2_init_45 : ok_S 12 45 (sf_ld 2 0 46) := ok_aload_n (by decide +kernel : decode (mb_ 12) 45 = .ok (.aload_n 0, 1)) rfl
theorem ok_X2_init_46 : ok_S 12 46 (sf_push (0, 6) 48) := ok_bipush (by decide +kernel : decode (mb_ 12) 46 = .ok (.bipush 6, 2)) ⟨by decide, by decide⟩ (by decide +kernel)
theorem ok_X2_init_48 : ok_S 12 48 (sf_newa 20 50) := ok_newa rfl (Or.inl ⟨rfl, rfl⟩) (by decide +kernel : decode (mb_ 12) 48 = .ok (.newarray .int, 2)) tw_81
theorem ok_X2_init_50 : ok_S 12 50 (sf_pr 9 9 6 53) := ok_pr fd_9_6 (by decide +kernel : decode (mb_ 12) 50 = .ok (.putfield 35, 3)) tw_93 rfl (Or.inr ⟨ff_9_6, rfl, rfl⟩) rfl (by decide +kernel : parseFieldDescriptor "[I" = some (.array .int)) (Or.inr ⟨_, rfl⟩)
theorem ok_X2_init_53 : ok_S 12 53 (sf_ld 2 0 54) := ok_aload_n (by decide +kernel : decode (mb_ 12) 53 = .ok (.aload_n 0, 1)) rfl
theorem ok_X2_init_54 : ok_S 12 54 (sf_push (0, 102) 56) := ok_bipush (by decide +kernel : decode (mb_ 12) 54 = .ok (.bipush 102, 2)) ⟨by decide, by decide⟩ (by decide +kernel)
theorem ok_X2_init_56 : ok_S 12 56 (sf_newa 20 58) := ok_newa rfl (Or.inl ⟨rfl, rfl⟩) (by decide +kernel : decode (mb_ 12) 56 = .ok (.newarray .int, 2)) tw_81
theorem ok_X2_init_58 : ok_S 12 58 (sf_pr 9 9 7 61) := ok_pr fd_9_7 (by decide +kernel : decode (mb_ 12) 58 = .ok (.putfield 38, 3)) tw_94 rfl (Or.inr ⟨ff_9_7, rfl, rfl⟩) rfl (by decide +kernel : parseFieldDescriptor "[I" = some (.array .int)) (Or.inr ⟨_, rfl⟩)
theorem ok_X2_init_61 : ok_S 12 61 (sf_ld 2 0 62) := ok_aload_n (by decide +kernel : decode (mb_ 12) 61 = .ok (.aload_n 0, 1)) rfl
theorem ok_X2_init_62 : ok_S 12 62 (sf_push (0, 6) 64) := ok_bipush (by decide +kernel : decode (mb_ 12) 62 = .ok (.bipush 6, 2)) ⟨by decide, by decide⟩ (by decide +kernel)
theorem ok_X2_init_64 : ok_S 12 64 (sf_newa 20 66) := ok_newa rfl (Or.inl ⟨rfl, rfl⟩) (by decide +kernel : decode (mb_ 12) 64 = .ok (.newarray .int, 2)) tw_81
theorem ok_X2_init_66 : ok_S 12 66 (sf_pr 9 9 8 69) := ok_pr fd_9_8 (by decide +kernel : decode (mb_ 12) 66 = .ok (.putfield 41, 3)) tw_95 rfl (Or.inr ⟨ff_9_8, rfl, rfl⟩) rfl (by decide +kernel : parseFieldDescriptor "[I" = some (.array .int)) (Or.inr ⟨_, rfl⟩)
theorem ok_X2_init_69 : ok_S 12 69 (sf_ld 2 0 70) := ok_aload_n (by decide +kernel : decode (mb_ 12) 69 = .ok (.aload_n 0, 1)) rfl
theorem ok_X2_init_70 : ok_S 12 70 (sf_push (0, 54) 72) := ok_bipush (by decide +kernel : decode (mb_ 12) 70 = .ok (.bipush 54, 2)) ⟨by decide, by decide⟩ (by decide +kernel)
theorem ok_X2_init_72 : ok_S 12 72 (sf_newa 20 74) := ok_newa rfl (Or.inl ⟨rfl, rfl⟩) (by decide +kernel : decode (mb_ 12) 72 = .ok (.newarray .int, 2)) tw_81
theorem ok_X2_init_74 : ok_S 12 74 (sf_pr 9 9 9 77) := ok_pr fd_9_9 (by decide +kernel : decode (mb_ 12) 74 = .ok (.putfield 44, 3)) tw_96 rfl (Or.inr ⟨ff_9_9, rfl, rfl⟩) rfl (by decide +kernel : parseFieldDescriptor "[I" = some (.array .int)) (Or.inr ⟨_, rfl⟩)
theorem ok_X2_init_77 : ok_S 12 77 (sf_ld 2 0 78) := ok_aload_n (by decide +kernel : decode (mb_ 12) 77 = .ok (.aload_n 0, 1)) rfl
theorem ok_X2_init_78 : ok_S 12 78 (sf_push (0, 54) 80) := ok_bipush (by decide +kernel : decode (mb_ 12) 78 = .ok (.bipush 54, 2)) ⟨by decide, by decide⟩ (by decide +kernel)
theorem ok_X2_init_80 : ok_S 12 80 (sf_newa 20 82) := ok_newa rfl (Or.inl ⟨rfl, rfl⟩) (by decide +kernel : decode (mb_ 12) 80 = .ok (.newarray .int, 2)) tw_81
theorem ok_X2_init_82 : ok_S 12 82 (sf_pr 9 9 10 85) := ok_pr fd_9_10 (by decide +kernel : decode (mb_ 12) 82 = .ok (.putfield 47, 3)) tw_97 rfl (Or.inr ⟨ff_9_10, rfl, rfl⟩) rfl (by decide +kernel : parseFieldDescriptor "[I" = some (.array .int)) (Or.inr ⟨_, rfl⟩)
theorem ok_X2_init_85 : ok_S 12 85 (sf_ld 2 0 86) := ok_aload_n (by decide +kernel : decode (mb_ 12) 85 = .ok (.aload_n 0, 1)) rfl
theorem ok_X2_init_86 : ok_S 12 86 (sf_push (0, 289) 89) := ok_sipush (by decide +kernel : decode (mb_ 12) 86 = .ok (.sipush 289, 3)) ⟨by decide, by decide⟩ (by decide +kernel)
theorem ok_X2_init_89 : ok_S 12 89 (sf_newa 20 91) := ok_newa rfl (Or.inl ⟨rfl, rfl⟩) (by decide +kernel : decode (mb_ 12) 89 = .ok (.newarray .int, 2)) tw_81
theorem ok_X2_init_91 : ok_S 12 91 (sf_pr 9 9 11 94) := ok_pr fd_9_11 (by decide +kernel : decode (mb_ 12) 91 = .ok (.putfield 50, 3)) tw_98 rfl (Or.inr ⟨ff_9_11, rfl, rfl⟩) rfl (by decide +kernel : parseFieldDescriptor "[I" = some (.array .int)) (Or.inr ⟨_, rfl⟩)
theorem ok_X2_init_94 : ok_S 12 94 (sf_ld 2 0 95) := ok_aload_n (by decide +kernel : decode (mb_ 12) 94 = .ok (.aload_n 0, 1)) rfl
theorem ok_X2_init_95 : ok_S 12 95 (sf_push (0, 3) 96) := ok_iconst (by decide +kernel : decode (mb_ 12) 95 = .ok (.iconst 3, 1)) ⟨by decide, by decide⟩
theorem ok_X2_init_96 : ok_S 12 96 (sf_newa 20 98) := ok_newa rfl (Or.inl ⟨rfl, rfl⟩) (by decide +kernel : decode (mb_ 12) 96 = .ok (.newarray .int, 2)) tw_81
theorem ok_X2_init_98 : ok_S 12 98 (sf_pr 9 9 12 101) := ok_pr fd_9_12 (by decide +kernel : decode (mb_ 12) 98 = .ok (.putfield 53, 3)) tw_99 rfl (Or.inr ⟨ff_9_12, rfl, rfl⟩) rfl (by decide +kernel : parseFieldDescriptor "[I" = some (.array .int)) (Or.inr ⟨_, rfl⟩)
theorem ok_X2_init_101 : ok_S 12 101 (sf_ld 2 0 102) := ok_aload_n (by decide +kernel : decode (mb_ 12) 101 = .ok (.aload_n 0, 1)) rfl
theorem ok_X2_init_102 : ok_S 12 102 (sf_push (0, 0) 103) := ok_iconst (by decide +kernel : decode (mb_ 12) 102 = .ok (.iconst 0, 1)) ⟨by decide, by decide⟩
theorem ok_X2_init_103 : ok_S 12 103 (sf_pi 9 9 13 106) := ok_pi fd_9_13 (by decide +kernel : decode (mb_ 12) 103 = .ok (.putfield 56, 3)) tw_100 rfl (Or.inl ff_9_13) rfl
theorem ok_X2_init_106 : ok_S 12 106 (sf_ld 2 0 107) := ok_aload_n (by decide +kernel : decode (mb_ 12) 106 = .ok (.aload_n 0, 1)) rfl
theorem ok_X2_init_107 : ok_S 12 107 (sf_push (0, (-1)) 108) := ok_iconst (by decide +kernel : decode (mb_ 12) 107 = .ok (.iconst (-1), 1)) ⟨by decide, by decide⟩
theorem ok_X2_init_108 : ok_S 12 108 (sf_pi 9 9 14 111) := ok_pi fd_9_14 (by decide +kernel : decode (mb_ 12) 108 = .ok (.putfield 59, 3)) tw_101 rfl (Or.inl ff_9_14) rfl
theorem ok_X2_init_111 : ok_S 12 111 (sf_ld 2 0 112) := ok_aload_n (by decide +kernel : decode (mb_ 12) 111 = .ok (.aload_n 0, 1)) rfl
theorem ok_X2_init_112 : ok_S 12 112 (sf_push (0, (-1)) 113) := ok_iconst (by decide +kernel : decode (mb_ 12) 112 = .ok (.iconst (-1), 1)) ⟨by decide, by decide⟩
theorem ok_X2_init_113 : ok_S 12 113 (sf_pi 9 9 15 116) := ok_pi fd_9_15 (by decide +kernel : decode (mb_ 12) 113 = .ok (.putfield 62, 3)) tw_102 rfl (Or.inl ff_9_15) rfl
theorem ok_X2_init_116 : ok_S 12 116 (sf_retv) := ok_retv (by decide +kernel : decode (mb_ 12) 116 = .ok (.return_, 1)) rfl
theorem ok_X2_init (pc : Nat) : ok_S 12 pc (cd_X2_init pc) :=
  (ok_bf (ok_bf (ok_bf (ok_bf (ok_bf (ok_bf (ok_lf pc ok_X2_init_116) (ok_lf pc ok_X2_init_113)) (ok_bf (ok_lf pc ok_X2_init_112) (ok_lf pc ok_X2_init_111))) (ok_bf (ok_bf (ok_lf pc ok_X2_init_108) (ok_lf pc ok_X2_init_107)) (ok_bf (ok_lf pc ok_X2_init_106) (ok_lf pc ok_X2_init_103)))) (ok_bf (ok_bf (ok_bf (ok_lf pc ok_X2_init_102) (ok_lf pc ok_X2_init_101)) (ok_bf (ok_lf pc ok_X2_init_98) (ok_lf pc ok_X2_init_96))) (ok_bf (ok_bf (ok_lf pc ok_X2_init_95) (ok_lf pc ok_X2_init_94)) (ok_bf (ok_lf pc ok_X2_init_91) (ok_lf pc ok_X2_init_89))))) (ok_bf (ok_bf (ok_bf (ok_bf (ok_lf pc ok_X2_init_86) (ok_lf pc ok_X2_init_85)) (ok_bf (ok_lf pc ok_X2_init_82) (ok_lf pc ok_X2_init_80))) (ok_bf (ok_bf (ok_lf pc ok_X2_init_78) (ok_lf pc ok_X2_init_77)) (ok_bf (ok_lf pc ok_X2_init_74) (ok_lf pc ok_X2_init_72)))) (ok_bf (ok_bf (ok_bf (ok_lf pc ok_X2_init_70) (ok_lf pc ok_X2_init_69)) (ok_bf (ok_lf pc ok_X2_init_66) (ok_lf pc ok_X2_init_64))) (ok_bf (ok_bf (ok_lf pc ok_X2_init_62) (ok_lf pc ok_X2_init_61)) (ok_lf pc ok_X2_init_58))))) (ok_bf (ok_bf (ok_bf (ok_bf (ok_bf (ok_lf pc ok_X2_init_56) (ok_lf pc ok_X2_init_54)) (ok_bf (ok_lf pc ok_X2_init_53) (ok_lf pc ok_X2_init_50))) (ok_bf (ok_bf (ok_lf pc ok_X2_init_48) (ok_lf pc ok_X2_init_46)) (ok_bf (ok_lf pc ok_X2_init_45) (ok_lf pc ok_X2_init_42)))) (ok_bf (ok_bf (ok_bf (ok_lf pc ok_X2_init_40) (ok_lf pc ok_X2_init_38)) (ok_bf (ok_lf pc ok_X2_init_37) (ok_lf pc ok_X2_init_34))) (ok_bf (ok_bf (ok_lf pc ok_X2_init_33) (ok_lf pc ok_X2_init_32)) (ok_bf (ok_lf pc ok_X2_init_29) (ok_lf pc ok_X2_init_28))))) (ok_bf (ok_bf (ok_bf (ok_bf (ok_lf pc ok_X2_init_27) (ok_lf pc ok_X2_init_24)) (ok_bf (ok_lf pc ok_X2_init_23) (ok_lf pc ok_X2_init_22))) (ok_bf (ok_bf (ok_lf pc ok_X2_init_19) (ok_lf pc ok_X2_init_17)) (ok_bf (ok_lf pc ok_X2_init_16) (ok_lf pc ok_X2_init_15)))) (ok_bf (ok_bf (ok_bf (ok_lf pc ok_X2_init_12) (ok_lf pc ok_X2_init_9)) (ok_bf (ok_lf pc ok_X2_init_8) (ok_lf pc ok_X2_init_5))) (ok_bf (ok_bf (ok_lf pc ok_X2_init_4) (ok_lf pc ok_X2_init_1)) (ok_lf pc ok_X2_init_0))))))
theorem mo_X2_init (pc : Nat) : mo_S (cd_X2_init pc) :=
  (mo_bf (mo_bf (mo_bf (mo_bf (mo_bf (mo_bf (mo_bf mo_retv mo_no) (mo_bf mo_pi mo_no)) (mo_bf (mo_bf mo_push mo_no) (mo_bf mo_ld mo_no))) (mo_bf (mo_bf (mo_bf mo_pi mo_no) (mo_bf mo_push mo_no)) (mo_bf (mo_bf mo_ld mo_no) (mo_bf mo_pi mo_no)))) (mo_bf (mo_bf (mo_bf (mo_bf mo_push mo_no) (mo_bf mo_ld mo_no)) (mo_bf (mo_bf mo_pr mo_no) (mo_bf mo_newa mo_no))) (mo_bf (mo_bf (mo_bf mo_push mo_no) (mo_bf mo_ld mo_no)) (mo_bf (mo_bf mo_pr mo_no) (mo_bf mo_newa mo_no))))) (mo_bf (mo_bf (mo_bf (mo_bf (mo_bf mo_push mo_no) (mo_bf mo_ld mo_no)) (mo_bf (mo_bf mo_pr mo_no) (mo_bf mo_newa mo_no))) (mo_bf (mo_bf (mo_bf mo_push mo_no) (mo_bf mo_ld mo_no)) (mo_bf (mo_bf mo_pr mo_no) (mo_bf mo_newa mo_no)))) (mo_bf (mo_bf (mo_bf (mo_bf mo_push mo_no) (mo_bf mo_ld mo_no)) (mo_bf (mo_bf mo_pr mo_no) (mo_bf mo_newa mo_no))) (mo_bf (mo_bf (mo_bf mo_push mo_no) (mo_bf mo_ld mo_no)) (mo_bf mo_pr mo_no))))) (mo_bf (mo_bf (mo_bf (mo_bf (mo_bf (mo_bf mo_newa mo_no) (mo_bf mo_push mo_no)) (mo_bf (mo_bf mo_ld mo_no) (mo_bf mo_pr mo_no))) (mo_bf (mo_bf (mo_bf mo_newa mo_no) (mo_bf mo_push mo_no)) (mo_bf (mo_bf mo_ld mo_no) (mo_bf mo_pr mo_no)))) (mo_bf (mo_bf (mo_bf (mo_bf mo_newa mo_no) (mo_bf mo_push mo_no)) (mo_bf (mo_bf mo_ld mo_no) (mo_bf mo_pi mo_no))) (mo_bf (mo_bf (mo_bf mo_push mo_no) (mo_bf mo_ld mo_no)) (mo_bf (mo_bf mo_pi mo_no) (mo_bf mo_push mo_no))))) (mo_bf (mo_bf (mo_bf (mo_bf (mo_bf mo_ld mo_no) (mo_bf mo_pi mo_no)) (mo_bf (mo_bf mo_push mo_no) (mo_bf mo_ld mo_no))) (mo_bf (mo_bf (mo_bf mo_pr mo_no) (mo_bf mo_newa mo_no)) (mo_bf (mo_bf mo_push mo_no) (mo_bf mo_ld mo_no)))) (mo_bf (mo_bf (mo_bf (mo_bf mo_pr mo_no) (mo_bf mo_ci mo_no)) (mo_bf (mo_bf mo_dup mo_no) (mo_bf mo_new mo_no))) (mo_bf (mo_bf (mo_bf mo_ld mo_no) (mo_bf mo_oini mo_no)) (mo_bf mo_ld mo_no))))))
theorem ok_X2_howMany_0 : ok_S 13 0 (sf_ld 2 0 1) := ok_aload_n (by decide +kernel : decode (mb_ 13) 0 = .ok (.aload_n 0, 1)) rfl
theorem ok_X2_howMany_1 : ok_S 13 1 (sf_cv 9 [2] 22 4) := ok_cv mt_22 cl_9 (by decide +kernel : decode (mb_ 13) 1 = .ok (.invokevirtual 65, 3)) tw_695 tw_697 ts_11 tw_2 rfl (by decide +kernel) (mh_ok rfl) (by decide) (by decide)
theorem ok_X2_howMany_4 : ok_S 13 4 (sf_ld 2 0 5) := ok_aload_n (by decide +kernel : decode (mb_ 13) 4 = .ok (.aload_n 0, 1)) rfl
theorem ok_X2_howMany_5 : ok_S 13 5 (sf_gi 9 9 13 8) := ok_gi fd_9_13 (by decide +kernel : decode (mb_ 13) 5 = .ok (.getfield 56, 3)) tw_100 (Or.inl rfl) rfl
theorem ok_X2_howMany_8 : ok_S 13 8 (sf_ret 0) := ok_ret0 (by decide +kernel : decode (mb_ 13) 8 = .ok (.ireturn, 1)) rfl
theorem ok_X2_howMany (pc : Nat) : ok_S 13 pc (cd_X2_howMany pc) :=
  (ok_bf (ok_bf (ok_bf (ok_lf pc ok_X2_howMany_8) (ok_lf pc ok_X2_howMany_5)) (ok_lf pc ok_X2_howMany_4)) (ok_bf (ok_lf pc ok_X2_howMany_1) (ok_lf pc ok_X2_howMany_0)))
theorem mo_X2_howMany (pc : Nat) : mo_S (cd_X2_howMany pc) :=
  (mo_bf (mo_bf (mo_bf (mo_bf mo_ret mo_no) (mo_bf mo_gi mo_no)) (mo_bf mo_ld mo_no)) (mo_bf (mo_bf mo_cv mo_no) (mo_bf mo_ld mo_no)))
theorem ok_X2_basesSeen_0 : ok_S 14 0 (sf_ld 2 0 1) := ok_aload_n (by decide +kernel : decode (mb_ 14) 0 = .ok (.aload_n 0, 1)) rfl
theorem ok_X2_basesSeen_1 : ok_S 14 1 (sf_cv 9 [2] 22 4) := ok_cv mt_22 cl_9 (by decide +kernel : decode (mb_ 14) 1 = .ok (.invokevirtual 65, 3)) tw_695 tw_697 ts_11 tw_2 rfl (by decide +kernel) (mh_ok rfl) (by decide) (by decide)
theorem ok_X2_basesSeen_4 : ok_S 14 4 (sf_ld 2 0 5) := ok_aload_n (by decide +kernel : decode (mb_ 14) 4 = .ok (.aload_n 0, 1)) rfl
theorem ok_X2_basesSeen_5 : ok_S 14 5 (sf_gr 9 9 12 8) := ok_gr fd_9_12 (by decide +kernel : decode (mb_ 14) 5 = .ok (.getfield 53, 3)) tw_99 (Or.inl rfl) rfl
theorem ok_X2_basesSeen_8 : ok_S 14 8 (sf_ld 0 1 9) := ok_iload_n (by decide +kernel : decode (mb_ 14) 8 = .ok (.iload_n 1, 1)) rfl
theorem ok_X2_basesSeen_9 : ok_S 14 9 (sf_iald 10) := ok_iald (by decide +kernel : decode (mb_ 14) 9 = .ok (.iaload, 1))
theorem ok_X2_basesSeen_10 : ok_S 14 10 (sf_ret 0) := ok_ret0 (by decide +kernel : decode (mb_ 14) 10 = .ok (.ireturn, 1)) rfl
theorem ok_X2_basesSeen (pc : Nat) : ok_S 14 pc (cd_X2_basesSeen pc) :=
  (ok_bf (ok_bf (ok_bf (ok_lf pc ok_X2_basesSeen_10) (ok_lf pc ok_X2_basesSeen_9)) (ok_bf (ok_lf pc ok_X2_basesSeen_8) (ok_lf pc ok_X2_basesSeen_5))) (ok_bf (ok_bf (ok_lf pc ok_X2_basesSeen_4) (ok_lf pc ok_X2_basesSeen_1)) (ok_lf pc ok_X2_basesSeen_0)))
theorem mo_X2_basesSeen (pc : Nat) : mo_S (cd_X2_basesSeen pc) :=
  (mo_bf (mo_bf (mo_bf (mo_bf mo_ret mo_no) (mo_bf mo_iald mo_no)) (mo_bf (mo_bf mo_ld mo_no) (mo_bf mo_gr mo_no))) (mo_bf (mo_bf (mo_bf mo_ld mo_no) (mo_bf mo_cv mo_no)) (mo_bf mo_ld mo_no)))
theorem ok_X2_goTo_0 : ok_S 15 0 (sf_ld 2 0 1) := ok_aload_n (by decide +kernel : decode (mb_ 15) 0 = .ok (.aload_n 0, 1)) rfl
theorem ok_X2_goTo_1 : ok_S 15 1 (sf_cv 9 [2] 22 4) := ok_cv mt_22 cl_9 (by decide +kernel : decode (mb_ 15) 1 = .ok (.invokevirtual 65, 3)) tw_695 tw_697 ts_11 tw_2 rfl (by decide +kernel) (mh_ok rfl) (by decide) (by decide)
theorem ok_X2_goTo_4 : ok_S 15 4 (sf_ld 0 1 5) := ok_iload_n (by decide +kernel : decode (mb_ 15) 4 = .ok (.iload_n 1, 1)) rfl
theorem ok_X2_goTo_5 : ok_S 15 5 (sf_if 2 16 8) := ok_if2 (by decide +kernel : decode (mb_ 15) 5 = .ok (.ifCond .lt 11, 3)) (by decide)
theorem ok_X2_goTo_8 : ok_S 15 8 (sf_ld 0 1 9) := ok_iload_n (by decide +kernel : decode (mb_ 15) 8 = .ok (.iload_n 1, 1)) rfl
theorem ok_X2_goTo_9 : ok_S 15 9 (sf_ld 2 0 10) := ok_aload_n (by decide +kernel : decode (mb_ 15) 9 = .ok (.aload_n 0, 1)) rfl
theorem ok_X2_goTo_10 : ok_S 15 10 (sf_gi 9 9 13 13) := ok_gi fd_9_13 (by decide +kernel : decode (mb_ 15) 10 = .ok (.getfield 56, 3)) tw_100 (Or.inl rfl) rfl
theorem ok_X2_goTo_13 : ok_S 15 13 (sf_ic 2 18 16) := ok_ic2 (by decide +kernel : decode (mb_ 15) 13 = .ok (.if_icmp .lt 5, 3)) (by decide)
theorem ok_X2_goTo_16 : ok_S 15 16 (sf_push (0, 0) 17) := ok_iconst (by decide +kernel : decode (mb_ 15) 16 = .ok (.iconst 0, 1)) ⟨by decide, by decide⟩
theorem ok_X2_goTo_17 : ok_S 15 17 (sf_rr 0 1) := ok_rr (by decide +kernel : decode (mb_ 15) 17 = .ok (.ireturn, 1)) rfl (so_nz .boolean rfl rfl)
theorem ok_X2_goTo_18 : ok_S 15 18 (sf_ld 0 1 19) := ok_iload_n (by decide +kernel : decode (mb_ 15) 18 = .ok (.iload_n 1, 1)) rfl
theorem ok_X2_goTo_19 : ok_S 15 19 (sf_st 0 2 20) := ok_istore_n (by decide +kernel : decode (mb_ 15) 19 = .ok (.istore_n 2, 1)) rfl
theorem ok_X2_goTo_20 : ok_S 15 20 (sf_push (0, 0) 21) := ok_iconst (by decide +kernel : decode (mb_ 15) 20 = .ok (.iconst 0, 1)) ⟨by decide, by decide⟩
theorem ok_X2_goTo_21 : ok_S 15 21 (sf_st 0 3 22) := ok_istore_n (by decide +kernel : decode (mb_ 15) 21 = .ok (.istore_n 3, 1)) rfl
theorem ok_X2_goTo_22 : ok_S 15 22 (sf_ld 0 3 23) := ok_iload_n (by decide +kernel : decode (mb_ 15) 22 = .ok (.iload_n 3, 1)) rfl
theorem ok_X2_goTo_23 : ok_S 15 23 (sf_ld 2 0 24) := ok_aload_n (by decide +kernel : decode (mb_ 15) 23 = .ok (.aload_n 0, 1)) rfl
theorem ok_X2_goTo_24 : ok_S 15 24 (sf_gr 9 9 11 27) := ok_gr fd_9_11 (by decide +kernel : decode (mb_ 15) 24 = .ok (.getfield 50, 3)) tw_98 (Or.inl rfl) rfl
theorem ok_X2_goTo_27 : ok_S 15 27 (sf_alen 28) := ok_alen (by decide +kernel : decode (mb_ 15) 27 = .ok (.arraylength, 1))
theorem ok_X2_goTo_28 : ok_S 15 28 (sf_ic 3 97 31) := ok_ic3 (by decide +kernel : decode (mb_ 15) 28 = .ok (.if_icmp .ge 69, 3)) (by decide)
theorem ok_X2_goTo_31 : ok_S 15 31 (sf_ld 2 0 32) := ok_aload_n (by decide +kernel : decode (mb_ 15) 31 = .ok (.aload_n 0, 1)) rfl
theorem ok_X2_goTo_32 : ok_S 15 32 (sf_gr 9 9 11 35) := ok_gr fd_9_11 (by decide +kernel : decode (mb_ 15) 32 = .ok (.getfield 50, 3)) tw_98 (Or.inl rfl) rfl
theorem ok_X2_goTo_35 : ok_S 15 35 (sf_ld 0 3 36) := ok_iload_n (by decide +kernel : decode (mb_ 15) 35 = .ok (.iload_n 3, 1)) rfl
theorem ok_X2_goTo_36 : ok_S 15 36 (sf_iald 37) := ok_iald (by decide +kernel : decode (mb_ 15) 36 = .ok (.iaload, 1))
theorem ok_X2_goTo_37 : ok_S 15 37 (sf_cs [0] 248 40) := ok_cs mt_248 (by decide +kernel : decode (mb_ 15) 37 = .ok (.invokestatic 68, 3)) tw_751 tw_752 tw_20 (by decide +kernel) (mh_ok rfl) (by decide) (by decide)
theorem ok_X2_goTo_40 : ok_S 15 40 (sf_st 0 4 42) := ok_istore (by decide +kernel : decode (mb_ 15) 40 = .ok (.istore 4, 2))
theorem ok_X2_goTo_42 : ok_S 15 42 (sf_ld 0 2 43) := ok_iload_n (by decide +kernel : decode (mb_ 15) 42 = .ok (.iload_n 2, 1)) rfl
theorem ok_X2_goTo_43 : ok_S 15 43 (sf_ld 0 4 45) := ok_iload (by decide +kernel : decode (mb_ 15) 43 = .ok (.iload 4, 2))
theorem ok_X2_goTo_45 : ok_S 15 45 (sf_ic 3 86 48) := ok_ic3 (by decide +kernel : decode (mb_ 15) 45 = .ok (.if_icmp .ge 41, 3)) (by decide)
theorem ok_X2_goTo_48 : ok_S 15 48 (sf_ld 2 0 49) := ok_aload_n (by decide +kernel : decode (mb_ 15) 48 = .ok (.aload_n 0, 1)) rfl
theorem ok_X2_goTo_49 : ok_S 15 49 (sf_gr 9 9 1 52) := ok_gr fd_9_1 (by decide +kernel : decode (mb_ 15) 49 = .ok (.getfield 18, 3)) tw_84 (Or.inl rfl) rfl
theorem ok_X2_goTo_52 : ok_S 15 52 (sf_push (0, 0) 53) := ok_iconst (by decide +kernel : decode (mb_ 15) 52 = .ok (.iconst 0, 1)) ⟨by decide, by decide⟩
theorem ok_X2_goTo_53 : ok_S 15 53 (sf_ld 0 3 54) := ok_iload_n (by decide +kernel : decode (mb_ 15) 53 = .ok (.iload_n 3, 1)) rfl
theorem ok_X2_goTo_54 : ok_S 15 54 (sf_push (0, 17) 56) := ok_bipush (by decide +kernel : decode (mb_ 15) 54 = .ok (.bipush 17, 2)) ⟨by decide, by decide⟩ (by decide +kernel)
theorem ok_X2_goTo_56 : ok_S 15 56 (sf_i2d mx_div 57) := ok_idiv (by decide +kernel : decode (mb_ 15) 56 = .ok (.idiv, 1))
theorem ok_X2_goTo_57 : ok_S 15 57 (sf_iast 58) := ok_iast (by decide +kernel : decode (mb_ 15) 57 = .ok (.iastore, 1))
theorem ok_X2_goTo_58 : ok_S 15 58 (sf_ld 2 0 59) := ok_aload_n (by decide +kernel : decode (mb_ 15) 58 = .ok (.aload_n 0, 1)) rfl
theorem ok_X2_goTo_59 : ok_S 15 59 (sf_gr 9 9 1 62) := ok_gr fd_9_1 (by decide +kernel : decode (mb_ 15) 59 = .ok (.getfield 18, 3)) tw_84 (Or.inl rfl) rfl
theorem ok_X2_goTo_62 : ok_S 15 62 (sf_push (0, 1) 63) := ok_iconst (by decide +kernel : decode (mb_ 15) 62 = .ok (.iconst 1, 1)) ⟨by decide, by decide⟩
theorem ok_X2_goTo_63 : ok_S 15 63 (sf_ld 0 3 64) := ok_iload_n (by decide +kernel : decode (mb_ 15) 63 = .ok (.iload_n 3, 1)) rfl
theorem ok_X2_goTo_64 : ok_S 15 64 (sf_push (0, 17) 66) := ok_bipush (by decide +kernel : decode (mb_ 15) 64 = .ok (.bipush 17, 2)) ⟨by decide, by decide⟩ (by decide +kernel)
theorem ok_X2_goTo_66 : ok_S 15 66 (sf_i2d mx_rem 67) := ok_irem (by decide +kernel : decode (mb_ 15) 66 = .ok (.irem, 1))
theorem ok_X2_goTo_67 : ok_S 15 67 (sf_iast 68) := ok_iast (by decide +kernel : decode (mb_ 15) 67 = .ok (.iastore, 1))
theorem ok_X2_goTo_68 : ok_S 15 68 (sf_ld 2 0 69) := ok_aload_n (by decide +kernel : decode (mb_ 15) 68 = .ok (.aload_n 0, 1)) rfl
theorem ok_X2_goTo_69 : ok_S 15 69 (sf_gr 9 9 1 72) := ok_gr fd_9_1 (by decide +kernel : decode (mb_ 15) 69 = .ok (.getfield 18, 3)) tw_84 (Or.inl rfl) rfl
theorem ok_X2_goTo_72 : ok_S 15 72 (sf_push (0, 2) 73) := ok_iconst (by decide +kernel : decode (mb_ 15) 72 = .ok (.iconst 2, 1)) ⟨by decide, by decide⟩
theorem ok_X2_goTo_73 : ok_S 15 73 (sf_ld 2 0 74) := ok_aload_n (by decide +kernel : decode (mb_ 15) 73 = .ok (.aload_n 0, 1)) rfl
theorem ok_X2_goTo_74 : ok_S 15 74 (sf_gr 9 9 11 77) := ok_gr fd_9_11 (by decide +kernel : decode (mb_ 15) 74 = .ok (.getfield 50, 3)) tw_98 (Or.inl rfl) rfl
theorem ok_X2_goTo_77 : ok_S 15 77 (sf_ld 0 3 78) := ok_iload_n (by decide +kernel : decode (mb_ 15) 77 = .ok (.iload_n 3, 1)) rfl
theorem ok_X2_goTo_78 : ok_S 15 78 (sf_iald 79) := ok_iald (by decide +kernel : decode (mb_ 15) 78 = .ok (.iaload, 1))
theorem ok_X2_goTo_79 : ok_S 15 79 (sf_ld 0 2 80) := ok_iload_n (by decide +kernel : decode (mb_ 15) 79 = .ok (.iload_n 2, 1)) rfl
theorem ok_X2_goTo_80 : ok_S 15 80 (sf_cs [0, 0] 151 83) := ok_csn mt_151 (by decide +kernel : decode (mb_ 15) 80 = .ok (.invokestatic 74, 3)) (List.mem_of_getElem? (i := 4) rfl) tw_766 tw_1 (by decide +kernel) (mh_ok rfl) (by decide) (by decide)
theorem ok_X2_goTo_83 : ok_S 15 83 (sf_iast 84) := ok_iast (by decide +kernel : decode (mb_ 15) 83 = .ok (.iastore, 1))
theorem ok_X2_goTo_84 : ok_S 15 84 (sf_push (0, 1) 85) := ok_iconst (by decide +kernel : decode (mb_ 15) 84 = .ok (.iconst 1, 1)) ⟨by decide, by decide⟩
theorem ok_X2_goTo_85 : ok_S 15 85 (sf_rr 0 1) := ok_rr (by decide +kernel : decode (mb_ 15) 85 = .ok (.ireturn, 1)) rfl (so_nz .boolean rfl rfl)
theorem ok_X2_goTo_86 : ok_S 15 86 (sf_ld 0 2 87) := ok_iload_n (by decide +kernel : decode (mb_ 15) 86 = .ok (.iload_n 2, 1)) rfl
theorem ok_X2_goTo_87 : ok_S 15 87 (sf_ld 0 4 89) := ok_iload (by decide +kernel : decode (mb_ 15) 87 = .ok (.iload 4, 2))
theorem ok_X2_goTo_89 : ok_S 15 89 (sf_i2 mx_sub 90) := ok_isub (by decide +kernel : decode (mb_ 15) 89 = .ok (.isub, 1))
theorem ok_X2_goTo_90 : ok_S 15 90 (sf_st 0 2 91) := ok_istore_n (by decide +kernel : decode (mb_ 15) 90 = .ok (.istore_n 2, 1)) rfl
theorem ok_X2_goTo_91 : ok_S 15 91 (sf_inc 3 1 94) := ok_iinc (by decide +kernel : decode (mb_ 15) 91 = .ok (.iinc 3 1, 3))
theorem ok_X2_goTo_94 : ok_S 15 94 (sf_go 22) := ok_goto (by decide +kernel : decode (mb_ 15) 94 = .ok (.goto (-72), 3)) (by decide)
theorem ok_X2_goTo_97 : ok_S 15 97 (sf_push (0, 0) 98) := ok_iconst (by decide +kernel : decode (mb_ 15) 97 = .ok (.iconst 0, 1)) ⟨by decide, by decide⟩
theorem ok_X2_goTo_98 : ok_S 15 98 (sf_rr 0 1) := ok_rr (by decide +kernel : decode (mb_ 15) 98 = .ok (.ireturn, 1)) rfl (so_nz .boolean rfl rfl)
theorem ok_X2_goTo (pc : Nat) : ok_S 15 pc (cd_X2_goTo pc) :=
  (ok_bf (ok_bf (ok_bf (ok_bf (ok_bf (ok_bf (ok_lf pc ok_X2_goTo_98) (ok_lf pc ok_X2_goTo_97)) (ok_bf (ok_lf pc ok_X2_goTo_94) (ok_lf pc ok_X2_goTo_91))) (ok_bf (ok_bf (ok_lf pc ok_X2_goTo_90) (ok_lf pc ok_X2_goTo_89)) (ok_bf (ok_lf pc ok_X2_goTo_87) (ok_lf pc ok_X2_goTo_86)))) (ok_bf (ok_bf (ok_bf (ok_lf pc ok_X2_goTo_85) (ok_lf pc ok_X2_goTo_84)) (ok_bf (ok_lf pc ok_X2_goTo_83) (ok_lf pc ok_X2_goTo_80))) (ok_bf (ok_bf (ok_lf pc ok_X2_goTo_79) (ok_lf pc ok_X2_goTo_78)) (ok_bf (ok_lf pc ok_X2_goTo_77) (ok_lf pc ok_X2_goTo_74))))) (ok_bf (ok_bf (ok_bf (ok_bf (ok_lf pc ok_X2_goTo_73) (ok_lf pc ok_X2_goTo_72)) (ok_bf (ok_lf pc ok_X2_goTo_69) (ok_lf pc ok_X2_goTo_68))) (ok_bf (ok_bf (ok_lf pc ok_X2_goTo_67) (ok_lf pc ok_X2_goTo_66)) (ok_bf (ok_lf pc ok_X2_goTo_64) (ok_lf pc ok_X2_goTo_63)))) (ok_bf (ok_bf (ok_bf (ok_lf pc ok_X2_goTo_62) (ok_lf pc ok_X2_goTo_59)) (ok_bf (ok_lf pc ok_X2_goTo_58) (ok_lf pc ok_X2_goTo_57))) (ok_bf (ok_bf (ok_lf pc ok_X2_goTo_56) (ok_lf pc ok_X2_goTo_54)) (ok_lf pc ok_X2_goTo_53))))) (ok_bf (ok_bf (ok_bf (ok_bf (ok_bf (ok_lf pc ok_X2_goTo_52) (ok_lf pc ok_X2_goTo_49)) (ok_bf (ok_lf pc ok_X2_goTo_48) (ok_lf pc ok_X2_goTo_45))) (ok_bf (ok_bf (ok_lf pc ok_X2_goTo_43) (ok_lf pc ok_X2_goTo_42)) (ok_bf (ok_lf pc ok_X2_goTo_40) (ok_lf pc ok_X2_goTo_37)))) (ok_bf (ok_bf (ok_bf (ok_lf pc ok_X2_goTo_36) (ok_lf pc ok_X2_goTo_35)) (ok_bf (ok_lf pc ok_X2_goTo_32) (ok_lf pc ok_X2_goTo_31))) (ok_bf (ok_bf (ok_lf pc ok_X2_goTo_28) (ok_lf pc ok_X2_goTo_27)) (ok_bf (ok_lf pc ok_X2_goTo_24) (ok_lf pc ok_X2_goTo_23))))) (ok_bf (ok_bf (ok_bf (ok_bf (ok_lf pc ok_X2_goTo_22) (ok_lf pc ok_X2_goTo_21)) (ok_bf (ok_lf pc ok_X2_goTo_20) (ok_lf pc ok_X2_goTo_19))) (ok_bf (ok_bf (ok_lf pc ok_X2_goTo_18) (ok_lf pc ok_X2_goTo_17)) (ok_bf (ok_lf pc ok_X2_goTo_16) (ok_lf pc ok_X2_goTo_13)))) (ok_bf (ok_bf (ok_bf (ok_lf pc ok_X2_goTo_10) (ok_lf pc ok_X2_goTo_9)) (ok_bf (ok_lf pc ok_X2_goTo_8) (ok_lf pc ok_X2_goTo_5))) (ok_bf (ok_bf (ok_lf pc ok_X2_goTo_4) (ok_lf pc ok_X2_goTo_1)) (ok_lf pc ok_X2_goTo_0))))))
theorem mo_X2_goTo (pc : Nat) : mo_S (cd_X2_goTo pc) :=
  (mo_bf (mo_bf (mo_bf (mo_bf (mo_bf (mo_bf (mo_bf mo_rr mo_no) (mo_bf mo_push mo_no)) (mo_bf (mo_bf mo_go mo_no) (mo_bf mo_inc mo_no))) (mo_bf (mo_bf (mo_bf mo_st mo_no) (mo_bf mo_i2 mo_no)) (mo_bf (mo_bf mo_ld mo_no) (mo_bf mo_ld mo_no)))) (mo_bf (mo_bf (mo_bf (mo_bf mo_rr mo_no) (mo_bf mo_push mo_no)) (mo_bf (mo_bf mo_iast mo_no) (mo_bf mo_cs mo_no))) (mo_bf (mo_bf (mo_bf mo_ld mo_no) (mo_bf mo_iald mo_no)) (mo_bf (mo_bf mo_ld mo_no) (mo_bf mo_gr mo_no))))) (mo_bf (mo_bf (mo_bf (mo_bf (mo_bf mo_ld mo_no) (mo_bf mo_push mo_no)) (mo_bf (mo_bf mo_gr mo_no) (mo_bf mo_ld mo_no))) (mo_bf (mo_bf (mo_bf mo_iast mo_no) (mo_bf mo_i2d mo_no)) (mo_bf (mo_bf mo_push mo_no) (mo_bf mo_ld mo_no)))) (mo_bf (mo_bf (mo_bf (mo_bf mo_push mo_no) (mo_bf mo_gr mo_no)) (mo_bf (mo_bf mo_ld mo_no) (mo_bf mo_iast mo_no))) (mo_bf (mo_bf (mo_bf mo_i2d mo_no) (mo_bf mo_push mo_no)) (mo_bf mo_ld mo_no))))) (mo_bf (mo_bf (mo_bf (mo_bf (mo_bf (mo_bf mo_push mo_no) (mo_bf mo_gr mo_no)) (mo_bf (mo_bf mo_ld mo_no) (mo_bf mo_ic mo_no))) (mo_bf (mo_bf (mo_bf mo_ld mo_no) (mo_bf mo_ld mo_no)) (mo_bf (mo_bf mo_st mo_no) (mo_bf mo_cs mo_no)))) (mo_bf (mo_bf (mo_bf (mo_bf mo_iald mo_no) (mo_bf mo_ld mo_no)) (mo_bf (mo_bf mo_gr mo_no) (mo_bf mo_ld mo_no))) (mo_bf (mo_bf (mo_bf mo_ic mo_no) (mo_bf mo_alen mo_no)) (mo_bf (mo_bf mo_gr mo_no) (mo_bf mo_ld mo_no))))) (mo_bf (mo_bf (mo_bf (mo_bf (mo_bf mo_ld mo_no) (mo_bf mo_st mo_no)) (mo_bf (mo_bf mo_push mo_no) (mo_bf mo_st mo_no))) (mo_bf (mo_bf (mo_bf mo_ld mo_no) (mo_bf mo_rr mo_no)) (mo_bf (mo_bf mo_push mo_no) (mo_bf mo_ic mo_no)))) (mo_bf (mo_bf (mo_bf (mo_bf mo_gi mo_no) (mo_bf mo_ld mo_no)) (mo_bf (mo_bf mo_ld mo_no) (mo_bf mo_if mo_no))) (mo_bf (mo_bf (mo_bf mo_ld mo_no) (mo_bf mo_cv mo_no)) (mo_bf mo_ld mo_no))))))
theorem ok_X2_fewestLines_0 : ok_S 16 0 (sf_ld 2 0 1) := ok_aload_n (by decide +kernel : decode (mb_ 16) 0 = .ok (.aload_n 0, 1)) rfl
theorem ok_X2_fewestLines_1 : ok_S 16 1 (sf_cv 9 [2] 23 4) := ok_cv mt_23 cl_9 (by decide +kernel : decode (mb_ 16) 1 = .ok (.invokevirtual 78, 3)) tw_699 tw_701 ts_12 tw_2 rfl (by decide +kernel) (mh_ok rfl) (by decide) (by decide)
theorem ok_X2_fewestLines_4 : ok_S 16 4 (sf_ld 2 0 5) := ok_aload_n (by decide +kernel : decode (mb_ 16) 4 = .ok (.aload_n 0, 1)) rfl
theorem ok_X2_fewestLines_5 : ok_S 16 5 (sf_gr 9 9 0 8) := ok_gr fd_9_0 (by decide +kernel : decode (mb_ 16) 5 = .ok (.getfield 12, 3)) tw_82 (Or.inl rfl) rfl
theorem ok_X2_fewestLines_8 : ok_S 16 8 (sf_cv 8 [2] 97 11) := ok_cv mt_97 cl_8 (by decide +kernel : decode (mb_ 16) 8 = .ok (.invokevirtual 81, 3)) tw_714 tw_715 tw_716 tw_3 rfl (by decide +kernel) (mh_ok rfl) (by decide) (by decide)
theorem ok_X2_fewestLines_11 : ok_S 16 11 (sf_st 0 1 12) := ok_istore_n (by decide +kernel : decode (mb_ 16) 11 = .ok (.istore_n 1, 1)) rfl
theorem ok_X2_fewestLines_12 : ok_S 16 12 (sf_push (0, 0) 13) := ok_iconst (by decide +kernel : decode (mb_ 16) 12 = .ok (.iconst 0, 1)) ⟨by decide, by decide⟩
theorem ok_X2_fewestLines_13 : ok_S 16 13 (sf_st 0 2 14) := ok_istore_n (by decide +kernel : decode (mb_ 16) 13 = .ok (.istore_n 2, 1)) rfl
theorem ok_X2_fewestLines_14 : ok_S 16 14 (sf_ld 0 2 15) := ok_iload_n (by decide +kernel : decode (mb_ 16) 14 = .ok (.iload_n 2, 1)) rfl
theorem ok_X2_fewestLines_15 : ok_S 16 15 (sf_push (0, 6) 17) := ok_bipush (by decide +kernel : decode (mb_ 16) 15 = .ok (.bipush 6, 2)) ⟨by decide, by decide⟩ (by decide +kernel)
theorem ok_X2_fewestLines_17 : ok_S 16 17 (sf_ic 4 57 20) := ok_ic4 (by decide +kernel : decode (mb_ 16) 17 = .ok (.if_icmp .gt 40, 3)) (by decide)
theorem ok_X2_fewestLines_20 : ok_S 16 20 (sf_push (0, 0) 21) := ok_iconst (by decide +kernel : decode (mb_ 16) 20 = .ok (.iconst 0, 1)) ⟨by decide, by decide⟩
theorem ok_X2_fewestLines_21 : ok_S 16 21 (sf_st 0 3 22) := ok_istore_n (by decide +kernel : decode (mb_ 16) 21 = .ok (.istore_n 3, 1)) rfl
theorem ok_X2_fewestLines_22 : ok_S 16 22 (sf_ld 0 3 23) := ok_iload_n (by decide +kernel : decode (mb_ 16) 22 = .ok (.iload_n 3, 1)) rfl
theorem ok_X2_fewestLines_23 : ok_S 16 23 (sf_ld 0 1 24) := ok_iload_n (by decide +kernel : decode (mb_ 16) 23 = .ok (.iload_n 1, 1)) rfl
theorem ok_X2_fewestLines_24 : ok_S 16 24 (sf_ic 4 51 27) := ok_ic4 (by decide +kernel : decode (mb_ 16) 24 = .ok (.if_icmp .gt 27, 3)) (by decide)
theorem ok_X2_fewestLines_27 : ok_S 16 27 (sf_ld 0 3 28) := ok_iload_n (by decide +kernel : decode (mb_ 16) 27 = .ok (.iload_n 3, 1)) rfl
theorem ok_X2_fewestLines_28 : ok_S 16 28 (sf_cs [0] 248 31) := ok_cs mt_248 (by decide +kernel : decode (mb_ 16) 28 = .ok (.invokestatic 68, 3)) tw_751 tw_752 tw_20 (by decide +kernel) (mh_ok rfl) (by decide) (by decide)
theorem ok_X2_fewestLines_31 : ok_S 16 31 (sf_ld 0 2 32) := ok_iload_n (by decide +kernel : decode (mb_ 16) 31 = .ok (.iload_n 2, 1)) rfl
theorem ok_X2_fewestLines_32 : ok_S 16 32 (sf_ic 1 45 35) := ok_ic1 (by decide +kernel : decode (mb_ 16) 32 = .ok (.if_icmp .ne 13, 3)) (by decide)
theorem ok_X2_fewestLines_35 : ok_S 16 35 (sf_ld 2 0 36) := ok_aload_n (by decide +kernel : decode (mb_ 16) 35 = .ok (.aload_n 0, 1)) rfl
theorem ok_X2_fewestLines_36 : ok_S 16 36 (sf_ld 0 3 37) := ok_iload_n (by decide +kernel : decode (mb_ 16) 36 = .ok (.iload_n 3, 1)) rfl
theorem ok_X2_fewestLines_37 : ok_S 16 37 (sf_cv 9 [2, 0] 29 40) := ok_cv mt_29 cl_9 (by decide +kernel : decode (mb_ 16) 37 = .ok (.invokevirtual 85, 3)) tw_804 tw_806 ts_21 tw_2 rfl (by decide +kernel) (mh_ok rfl) (by decide) (by decide)
theorem ok_X2_fewestLines_40 : ok_S 16 40 (sf_if 1 45 43) := ok_if1 (by decide +kernel : decode (mb_ 16) 40 = .ok (.ifCond .ne 5, 3)) (by decide)
theorem ok_X2_fewestLines_43 : ok_S 16 43 (sf_ld 0 3 44) := ok_iload_n (by decide +kernel : decode (mb_ 16) 43 = .ok (.iload_n 3, 1)) rfl
theorem ok_X2_fewestLines_44 : ok_S 16 44 (sf_ret 0) := ok_ret0 (by decide +kernel : decode (mb_ 16) 44 = .ok (.ireturn, 1)) rfl
theorem ok_X2_fewestLines_45 : ok_S 16 45 (sf_inc 3 1 48) := ok_iinc (by decide +kernel : decode (mb_ 16) 45 = .ok (.iinc 3 1, 3))
theorem ok_X2_fewestLines_48 : ok_S 16 48 (sf_go 22) := ok_goto (by decide +kernel : decode (mb_ 16) 48 = .ok (.goto (-26), 3)) (by decide)
theorem ok_X2_fewestLines_51 : ok_S 16 51 (sf_inc 2 1 54) := ok_iinc (by decide +kernel : decode (mb_ 16) 51 = .ok (.iinc 2 1, 3))
theorem ok_X2_fewestLines_54 : ok_S 16 54 (sf_go 14) := ok_goto (by decide +kernel : decode (mb_ 16) 54 = .ok (.goto (-40), 3)) (by decide)
theorem ok_X2_fewestLines_57 : ok_S 16 57 (sf_ld 0 1 58) := ok_iload_n (by decide +kernel : decode (mb_ 16) 57 = .ok (.iload_n 1, 1)) rfl
theorem ok_X2_fewestLines_58 : ok_S 16 58 (sf_ret 0) := ok_ret0 (by decide +kernel : decode (mb_ 16) 58 = .ok (.ireturn, 1)) rfl
theorem ok_X2_fewestLines (pc : Nat) : ok_S 16 pc (cd_X2_fewestLines pc) :=
  (ok_bf (ok_bf (ok_bf (ok_bf (ok_bf (ok_lf pc ok_X2_fewestLines_58) (ok_lf pc ok_X2_fewestLines_57)) (ok_bf (ok_lf pc ok_X2_fewestLines_54) (ok_lf pc ok_X2_fewestLines_51))) (ok_bf (ok_bf (ok_lf pc ok_X2_fewestLines_48) (ok_lf pc ok_X2_fewestLines_45)) (ok_bf (ok_lf pc ok_X2_fewestLines_44) (ok_lf pc ok_X2_fewestLines_43)))) (ok_bf (ok_bf (ok_bf (ok_lf pc ok_X2_fewestLines_40) (ok_lf pc ok_X2_fewestLines_37)) (ok_bf (ok_lf pc ok_X2_fewestLines_36) (ok_lf pc ok_X2_fewestLines_35))) (ok_bf (ok_bf (ok_lf pc ok_X2_fewestLines_32) (ok_lf pc ok_X2_fewestLines_31)) (ok_bf (ok_lf pc ok_X2_fewestLines_28) (ok_lf pc ok_X2_fewestLines_27))))) (ok_bf (ok_bf (ok_bf (ok_bf (ok_lf pc ok_X2_fewestLines_24) (ok_lf pc ok_X2_fewestLines_23)) (ok_bf (ok_lf pc ok_X2_fewestLines_22) (ok_lf pc ok_X2_fewestLines_21))) (ok_bf (ok_bf (ok_lf pc ok_X2_fewestLines_20) (ok_lf pc ok_X2_fewestLines_17)) (ok_bf (ok_lf pc ok_X2_fewestLines_15) (ok_lf pc ok_X2_fewestLines_14)))) (ok_bf (ok_bf (ok_bf (ok_lf pc ok_X2_fewestLines_13) (ok_lf pc ok_X2_fewestLines_12)) (ok_bf (ok_lf pc ok_X2_fewestLines_11) (ok_lf pc ok_X2_fewestLines_8))) (ok_bf (ok_bf (ok_lf pc ok_X2_fewestLines_5) (ok_lf pc ok_X2_fewestLines_4)) (ok_bf (ok_lf pc ok_X2_fewestLines_1) (ok_lf pc ok_X2_fewestLines_0))))))
theorem mo_X2_fewestLines (pc : Nat) : mo_S (cd_X2_fewestLines pc) :=
  (mo_bf (mo_bf (mo_bf (mo_bf (mo_bf (mo_bf mo_ret mo_no) (mo_bf mo_ld mo_no)) (mo_bf (mo_bf mo_go mo_no) (mo_bf mo_inc mo_no))) (mo_bf (mo_bf (mo_bf mo_go mo_no) (mo_bf mo_inc mo_no)) (mo_bf (mo_bf mo_ret mo_no) (mo_bf mo_ld mo_no)))) (mo_bf (mo_bf (mo_bf (mo_bf mo_if mo_no) (mo_bf mo_cv mo_no)) (mo_bf (mo_bf mo_ld mo_no) (mo_bf mo_ld mo_no))) (mo_bf (mo_bf (mo_bf mo_ic mo_no) (mo_bf mo_ld mo_no)) (mo_bf (mo_bf mo_cs mo_no) (mo_bf mo_ld mo_no))))) (mo_bf (mo_bf (mo_bf (mo_bf (mo_bf mo_ic mo_no) (mo_bf mo_ld mo_no)) (mo_bf (mo_bf mo_ld mo_no) (mo_bf mo_st mo_no))) (mo_bf (mo_bf (mo_bf mo_push mo_no) (mo_bf mo_ic mo_no)) (mo_bf (mo_bf mo_push mo_no) (mo_bf mo_ld mo_no)))) (mo_bf (mo_bf (mo_bf (mo_bf mo_st mo_no) (mo_bf mo_push mo_no)) (mo_bf (mo_bf mo_st mo_no) (mo_bf mo_cv mo_no))) (mo_bf (mo_bf (mo_bf mo_gr mo_no) (mo_bf mo_ld mo_no)) (mo_bf (mo_bf mo_cv mo_no) (mo_bf mo_ld mo_no))))))
theorem ok_X2_eveningsFor_0 : ok_S 17 0 (sf_ld 2 0 1) := ok_aload_n (by decide +kernel : decode (mb_ 17) 0 = .ok (.aload_n 0, 1)) rfl
theorem ok_X2_eveningsFor_1 : ok_S 17 1 (sf_cv 9 [2] 23 4) := ok_cv mt_23 cl_9 (by decide +kernel : decode (mb_ 17) 1 = .ok (.invokevirtual 78, 3)) tw_699 tw_701 ts_12 tw_2 rfl (by decide +kernel) (mh_ok rfl) (by decide) (by decide)
theorem ok_X2_eveningsFor_4 : ok_S 17 4 (sf_push (0, 0) 5) := ok_iconst (by decide +kernel : decode (mb_ 17) 4 = .ok (.iconst 0, 1)) ⟨by decide, by decide⟩
theorem ok_X2_eveningsFor_5 : ok_S 17 5 (sf_st 0 2 6) := ok_istore_n (by decide +kernel : decode (mb_ 17) 5 = .ok (.istore_n 2, 1)) rfl
theorem ok_X2_eveningsFor_6 : ok_S 17 6 (sf_push (0, 0) 7) := ok_iconst (by decide +kernel : decode (mb_ 17) 6 = .ok (.iconst 0, 1)) ⟨by decide, by decide⟩
theorem ok_X2_eveningsFor_7 : ok_S 17 7 (sf_st 0 3 8) := ok_istore_n (by decide +kernel : decode (mb_ 17) 7 = .ok (.istore_n 3, 1)) rfl
theorem ok_X2_eveningsFor_8 : ok_S 17 8 (sf_ld 0 3 9) := ok_iload_n (by decide +kernel : decode (mb_ 17) 8 = .ok (.iload_n 3, 1)) rfl
theorem ok_X2_eveningsFor_9 : ok_S 17 9 (sf_push (0, 3) 10) := ok_iconst (by decide +kernel : decode (mb_ 17) 9 = .ok (.iconst 3, 1)) ⟨by decide, by decide⟩
theorem ok_X2_eveningsFor_10 : ok_S 17 10 (sf_ic 3 50 13) := ok_ic3 (by decide +kernel : decode (mb_ 17) 10 = .ok (.if_icmp .ge 40, 3)) (by decide)
theorem ok_X2_eveningsFor_13 : ok_S 17 13 (sf_ld 2 0 14) := ok_aload_n (by decide +kernel : decode (mb_ 17) 13 = .ok (.aload_n 0, 1)) rfl
theorem ok_X2_eveningsFor_14 : ok_S 17 14 (sf_gr 9 9 5 17) := ok_gr fd_9_5 (by decide +kernel : decode (mb_ 17) 14 = .ok (.getfield 32, 3)) tw_92 (Or.inl rfl) rfl
theorem ok_X2_eveningsFor_17 : ok_S 17 17 (sf_ld 0 1 18) := ok_iload_n (by decide +kernel : decode (mb_ 17) 17 = .ok (.iload_n 1, 1)) rfl
theorem ok_X2_eveningsFor_18 : ok_S 17 18 (sf_ld 0 3 19) := ok_iload_n (by decide +kernel : decode (mb_ 17) 18 = .ok (.iload_n 3, 1)) rfl
theorem ok_X2_eveningsFor_19 : ok_S 17 19 (sf_iast 20) := ok_iast (by decide +kernel : decode (mb_ 17) 19 = .ok (.iastore, 1))
theorem ok_X2_eveningsFor_20 : ok_S 17 20 (sf_ld 2 0 21) := ok_aload_n (by decide +kernel : decode (mb_ 17) 20 = .ok (.aload_n 0, 1)) rfl
theorem ok_X2_eveningsFor_21 : ok_S 17 21 (sf_cv 9 [2] 25 24) := ok_cv mt_25 cl_9 (by decide +kernel : decode (mb_ 17) 21 = .ok (.invokevirtual 89, 3)) tw_710 tw_712 ts_14 tw_2 rfl (by decide +kernel) (mh_ok rfl) (by decide) (by decide)
theorem ok_X2_eveningsFor_24 : ok_S 17 24 (sf_ld 2 0 25) := ok_aload_n (by decide +kernel : decode (mb_ 17) 24 = .ok (.aload_n 0, 1)) rfl
theorem ok_X2_eveningsFor_25 : ok_S 17 25 (sf_ld 2 0 26) := ok_aload_n (by decide +kernel : decode (mb_ 17) 25 = .ok (.aload_n 0, 1)) rfl
theorem ok_X2_eveningsFor_26 : ok_S 17 26 (sf_gr 9 9 0 29) := ok_gr fd_9_0 (by decide +kernel : decode (mb_ 17) 26 = .ok (.getfield 12, 3)) tw_82 (Or.inl rfl) rfl
theorem ok_X2_eveningsFor_29 : ok_S 17 29 (sf_cv 8 [2] 97 32) := ok_cv mt_97 cl_8 (by decide +kernel : decode (mb_ 17) 29 = .ok (.invokevirtual 81, 3)) tw_714 tw_715 tw_716 tw_3 rfl (by decide +kernel) (mh_ok rfl) (by decide) (by decide)
theorem ok_X2_eveningsFor_32 : ok_S 17 32 (sf_cv 9 [2, 0] 29 35) := ok_cv mt_29 cl_9 (by decide +kernel : decode (mb_ 17) 32 = .ok (.invokevirtual 85, 3)) tw_804 tw_806 ts_21 tw_2 rfl (by decide +kernel) (mh_ok rfl) (by decide) (by decide)
theorem ok_X2_eveningsFor_35 : ok_S 17 35 (sf_if 0 44 38) := ok_if0 (by decide +kernel : decode (mb_ 17) 35 = .ok (.ifCond .eq 9, 3)) (by decide)
theorem ok_X2_eveningsFor_38 : ok_S 17 38 (sf_ld 0 2 39) := ok_iload_n (by decide +kernel : decode (mb_ 17) 38 = .ok (.iload_n 2, 1)) rfl
theorem ok_X2_eveningsFor_39 : ok_S 17 39 (sf_push (0, 1) 40) := ok_iconst (by decide +kernel : decode (mb_ 17) 39 = .ok (.iconst 1, 1)) ⟨by decide, by decide⟩
theorem ok_X2_eveningsFor_40 : ok_S 17 40 (sf_ld 0 3 41) := ok_iload_n (by decide +kernel : decode (mb_ 17) 40 = .ok (.iload_n 3, 1)) rfl
theorem ok_X2_eveningsFor_41 : ok_S 17 41 (sf_i2 mx_shl 42) := ok_ishl (by decide +kernel : decode (mb_ 17) 41 = .ok (.ishl, 1))
theorem ok_X2_eveningsFor_42 : ok_S 17 42 (sf_i2 mx_or 43) := ok_ior (by decide +kernel : decode (mb_ 17) 42 = .ok (.ior, 1))
theorem ok_X2_eveningsFor_43 : ok_S 17 43 (sf_st 0 2 44) := ok_istore_n (by decide +kernel : decode (mb_ 17) 43 = .ok (.istore_n 2, 1)) rfl
theorem ok_X2_eveningsFor_44 : ok_S 17 44 (sf_inc 3 1 47) := ok_iinc (by decide +kernel : decode (mb_ 17) 44 = .ok (.iinc 3 1, 3))
theorem ok_X2_eveningsFor_47 : ok_S 17 47 (sf_go 8) := ok_goto (by decide +kernel : decode (mb_ 17) 47 = .ok (.goto (-39), 3)) (by decide)
theorem ok_X2_eveningsFor_50 : ok_S 17 50 (sf_ld 0 2 51) := ok_iload_n (by decide +kernel : decode (mb_ 17) 50 = .ok (.iload_n 2, 1)) rfl
theorem ok_X2_eveningsFor_51 : ok_S 17 51 (sf_ret 0) := ok_ret0 (by decide +kernel : decode (mb_ 17) 51 = .ok (.ireturn, 1)) rfl
theorem ok_X2_eveningsFor (pc : Nat) : ok_S 17 pc (cd_X2_eveningsFor pc) :=
  (ok_bf (ok_bf (ok_bf (ok_bf (ok_bf (ok_lf pc ok_X2_eveningsFor_51) (ok_lf pc ok_X2_eveningsFor_50)) (ok_bf (ok_lf pc ok_X2_eveningsFor_47) (ok_lf pc ok_X2_eveningsFor_44))) (ok_bf (ok_bf (ok_lf pc ok_X2_eveningsFor_43) (ok_lf pc ok_X2_eveningsFor_42)) (ok_bf (ok_lf pc ok_X2_eveningsFor_41) (ok_lf pc ok_X2_eveningsFor_40)))) (ok_bf (ok_bf (ok_bf (ok_lf pc ok_X2_eveningsFor_39) (ok_lf pc ok_X2_eveningsFor_38)) (ok_bf (ok_lf pc ok_X2_eveningsFor_35) (ok_lf pc ok_X2_eveningsFor_32))) (ok_bf (ok_bf (ok_lf pc ok_X2_eveningsFor_29) (ok_lf pc ok_X2_eveningsFor_26)) (ok_bf (ok_lf pc ok_X2_eveningsFor_25) (ok_lf pc ok_X2_eveningsFor_24))))) (ok_bf (ok_bf (ok_bf (ok_bf (ok_lf pc ok_X2_eveningsFor_21) (ok_lf pc ok_X2_eveningsFor_20)) (ok_bf (ok_lf pc ok_X2_eveningsFor_19) (ok_lf pc ok_X2_eveningsFor_18))) (ok_bf (ok_bf (ok_lf pc ok_X2_eveningsFor_17) (ok_lf pc ok_X2_eveningsFor_14)) (ok_bf (ok_lf pc ok_X2_eveningsFor_13) (ok_lf pc ok_X2_eveningsFor_10)))) (ok_bf (ok_bf (ok_bf (ok_lf pc ok_X2_eveningsFor_9) (ok_lf pc ok_X2_eveningsFor_8)) (ok_bf (ok_lf pc ok_X2_eveningsFor_7) (ok_lf pc ok_X2_eveningsFor_6))) (ok_bf (ok_bf (ok_lf pc ok_X2_eveningsFor_5) (ok_lf pc ok_X2_eveningsFor_4)) (ok_bf (ok_lf pc ok_X2_eveningsFor_1) (ok_lf pc ok_X2_eveningsFor_0))))))
theorem mo_X2_eveningsFor (pc : Nat) : mo_S (cd_X2_eveningsFor pc) :=
  (mo_bf (mo_bf (mo_bf (mo_bf (mo_bf (mo_bf mo_ret mo_no) (mo_bf mo_ld mo_no)) (mo_bf (mo_bf mo_go mo_no) (mo_bf mo_inc mo_no))) (mo_bf (mo_bf (mo_bf mo_st mo_no) (mo_bf mo_i2 mo_no)) (mo_bf (mo_bf mo_i2 mo_no) (mo_bf mo_ld mo_no)))) (mo_bf (mo_bf (mo_bf (mo_bf mo_push mo_no) (mo_bf mo_ld mo_no)) (mo_bf (mo_bf mo_if mo_no) (mo_bf mo_cv mo_no))) (mo_bf (mo_bf (mo_bf mo_cv mo_no) (mo_bf mo_gr mo_no)) (mo_bf (mo_bf mo_ld mo_no) (mo_bf mo_ld mo_no))))) (mo_bf (mo_bf (mo_bf (mo_bf (mo_bf mo_cv mo_no) (mo_bf mo_ld mo_no)) (mo_bf (mo_bf mo_iast mo_no) (mo_bf mo_ld mo_no))) (mo_bf (mo_bf (mo_bf mo_ld mo_no) (mo_bf mo_gr mo_no)) (mo_bf (mo_bf mo_ld mo_no) (mo_bf mo_ic mo_no)))) (mo_bf (mo_bf (mo_bf (mo_bf mo_push mo_no) (mo_bf mo_ld mo_no)) (mo_bf (mo_bf mo_st mo_no) (mo_bf mo_push mo_no))) (mo_bf (mo_bf (mo_bf mo_st mo_no) (mo_bf mo_push mo_no)) (mo_bf (mo_bf mo_cv mo_no) (mo_bf mo_ld mo_no))))))
theorem ok_X2_canMend_0 : ok_S 18 0 (sf_ld 2 0 1) := ok_aload_n (by decide +kernel : decode (mb_ 18) 0 = .ok (.aload_n 0, 1)) rfl
theorem ok_X2_canMend_1 : ok_S 18 1 (sf_gi 9 9 15 4) := ok_gi fd_9_15 (by decide +kernel : decode (mb_ 18) 1 = .ok (.getfield 62, 3)) tw_102 (Or.inl rfl) rfl
theorem ok_X2_canMend_4 : ok_S 18 4 (sf_ld 2 0 5) := ok_aload_n (by decide +kernel : decode (mb_ 18) 4 = .ok (.aload_n 0, 1)) rfl
theorem ok_X2_canMend_5 : ok_S 18 5 (sf_gr 9 9 0 8) := ok_gr fd_9_0 (by decide +kernel : decode (mb_ 18) 5 = .ok (.getfield 12, 3)) tw_82 (Or.inl rfl) rfl
theorem ok_X2_canMend_8 : ok_S 18 8 (sf_gi 8 8 5 11) := ok_gi fd_8_5 (by decide +kernel : decode (mb_ 18) 8 = .ok (.getfield 92, 3)) tw_63 (Or.inl rfl) rfl
theorem ok_X2_canMend_11 : ok_S 18 11 (sf_ic 1 28 14) := ok_ic1 (by decide +kernel : decode (mb_ 18) 11 = .ok (.if_icmp .ne 17, 3)) (by decide)
theorem ok_X2_canMend_14 : ok_S 18 14 (sf_ld 2 0 15) := ok_aload_n (by decide +kernel : decode (mb_ 18) 14 = .ok (.aload_n 0, 1)) rfl
theorem ok_X2_canMend_15 : ok_S 18 15 (sf_gi 9 9 2 18) := ok_gi fd_9_2 (by decide +kernel : decode (mb_ 18) 15 = .ok (.getfield 22, 3)) tw_86 (Or.inl rfl) rfl
theorem ok_X2_canMend_18 : ok_S 18 18 (sf_push (0, (-1)) 19) := ok_iconst (by decide +kernel : decode (mb_ 18) 18 = .ok (.iconst (-1), 1)) ⟨by decide, by decide⟩
theorem ok_X2_canMend_19 : ok_S 18 19 (sf_ic 0 26 22) := ok_ic0 (by decide +kernel : decode (mb_ 18) 19 = .ok (.if_icmp .eq 7, 3)) (by decide)
theorem ok_X2_canMend_22 : ok_S 18 22 (sf_push (0, 1) 23) := ok_iconst (by decide +kernel : decode (mb_ 18) 22 = .ok (.iconst 1, 1)) ⟨by decide, by decide⟩
theorem ok_X2_canMend_23 : ok_S 18 23 (sf_go 27) := ok_goto (by decide +kernel : decode (mb_ 18) 23 = .ok (.goto 4, 3)) (by decide)
theorem ok_X2_canMend_26 : ok_S 18 26 (sf_push (0, 0) 27) := ok_iconst (by decide +kernel : decode (mb_ 18) 26 = .ok (.iconst 0, 1)) ⟨by decide, by decide⟩
theorem ok_X2_canMend_27 : ok_S 18 27 (sf_rr 0 1) := ok_rr (by decide +kernel : decode (mb_ 18) 27 = .ok (.ireturn, 1)) rfl (so_nz .boolean rfl rfl)
theorem ok_X2_canMend_28 : ok_S 18 28 (sf_ld 2 0 29) := ok_aload_n (by decide +kernel : decode (mb_ 18) 28 = .ok (.aload_n 0, 1)) rfl
theorem ok_X2_canMend_29 : ok_S 18 29 (sf_ld 2 0 30) := ok_aload_n (by decide +kernel : decode (mb_ 18) 29 = .ok (.aload_n 0, 1)) rfl
theorem ok_X2_canMend_30 : ok_S 18 30 (sf_gr 9 9 0 33) := ok_gr fd_9_0 (by decide +kernel : decode (mb_ 18) 30 = .ok (.getfield 12, 3)) tw_82 (Or.inl rfl) rfl
theorem ok_X2_canMend_33 : ok_S 18 33 (sf_gi 8 8 5 36) := ok_gi fd_8_5 (by decide +kernel : decode (mb_ 18) 33 = .ok (.getfield 92, 3)) tw_63 (Or.inl rfl) rfl
theorem ok_X2_canMend_36 : ok_S 18 36 (sf_pi 9 9 15 39) := ok_pi fd_9_15 (by decide +kernel : decode (mb_ 18) 36 = .ok (.putfield 62, 3)) tw_102 rfl (Or.inl ff_9_15) rfl
theorem ok_X2_canMend_39 : ok_S 18 39 (sf_ld 2 0 40) := ok_aload_n (by decide +kernel : decode (mb_ 18) 39 = .ok (.aload_n 0, 1)) rfl
theorem ok_X2_canMend_40 : ok_S 18 40 (sf_cv 9 [2] 23 43) := ok_cv mt_23 cl_9 (by decide +kernel : decode (mb_ 18) 40 = .ok (.invokevirtual 78, 3)) tw_699 tw_701 ts_12 tw_2 rfl (by decide +kernel) (mh_ok rfl) (by decide) (by decide)
theorem ok_X2_canMend_43 : ok_S 18 43 (sf_push (0, 0) 44) := ok_iconst (by decide +kernel : decode (mb_ 18) 43 = .ok (.iconst 0, 1)) ⟨by decide, by decide⟩
theorem ok_X2_canMend_44 : ok_S 18 44 (sf_st 0 1 45) := ok_istore_n (by decide +kernel : decode (mb_ 18) 44 = .ok (.istore_n 1, 1)) rfl
theorem ok_X2_canMend_45 : ok_S 18 45 (sf_ld 0 1 46) := ok_iload_n (by decide +kernel : decode (mb_ 18) 45 = .ok (.iload_n 1, 1)) rfl
theorem ok_X2_canMend_46 : ok_S 18 46 (sf_ld 2 0 47) := ok_aload_n (by decide +kernel : decode (mb_ 18) 46 = .ok (.aload_n 0, 1)) rfl
theorem ok_X2_canMend_47 : ok_S 18 47 (sf_gr 9 9 0 50) := ok_gr fd_9_0 (by decide +kernel : decode (mb_ 18) 47 = .ok (.getfield 12, 3)) tw_82 (Or.inl rfl) rfl
theorem ok_X2_canMend_50 : ok_S 18 50 (sf_gi 8 8 3 53) := ok_gi fd_8_3 (by decide +kernel : decode (mb_ 18) 50 = .ok (.getfield 93, 3)) tw_57 (Or.inl rfl) rfl
theorem ok_X2_canMend_53 : ok_S 18 53 (sf_ic 3 72 56) := ok_ic3 (by decide +kernel : decode (mb_ 18) 53 = .ok (.if_icmp .ge 19, 3)) (by decide)
theorem ok_X2_canMend_56 : ok_S 18 56 (sf_ld 2 0 57) := ok_aload_n (by decide +kernel : decode (mb_ 18) 56 = .ok (.aload_n 0, 1)) rfl
theorem ok_X2_canMend_57 : ok_S 18 57 (sf_ld 0 1 58) := ok_iload_n (by decide +kernel : decode (mb_ 18) 57 = .ok (.iload_n 1, 1)) rfl
theorem ok_X2_canMend_58 : ok_S 18 58 (sf_cv 9 [2, 0] 19 61) := ok_cv mt_19 cl_9 (by decide +kernel : decode (mb_ 18) 58 = .ok (.invokevirtual 96, 3)) tw_820 tw_822 ts_23 tw_2 rfl (by decide +kernel) (mh_ok rfl) (by decide) (by decide)
theorem ok_X2_canMend_61 : ok_S 18 61 (sf_if 0 66 64) := ok_if0 (by decide +kernel : decode (mb_ 18) 61 = .ok (.ifCond .eq 5, 3)) (by decide)
theorem ok_X2_canMend_64 : ok_S 18 64 (sf_push (0, 1) 65) := ok_iconst (by decide +kernel : decode (mb_ 18) 64 = .ok (.iconst 1, 1)) ⟨by decide, by decide⟩
theorem ok_X2_canMend_65 : ok_S 18 65 (sf_rr 0 1) := ok_rr (by decide +kernel : decode (mb_ 18) 65 = .ok (.ireturn, 1)) rfl (so_nz .boolean rfl rfl)
theorem ok_X2_canMend_66 : ok_S 18 66 (sf_inc 1 1 69) := ok_iinc (by decide +kernel : decode (mb_ 18) 66 = .ok (.iinc 1 1, 3))
theorem ok_X2_canMend_69 : ok_S 18 69 (sf_go 45) := ok_goto (by decide +kernel : decode (mb_ 18) 69 = .ok (.goto (-24), 3)) (by decide)
theorem ok_X2_canMend_72 : ok_S 18 72 (sf_ld 2 0 73) := ok_aload_n (by decide +kernel : decode (mb_ 18) 72 = .ok (.aload_n 0, 1)) rfl
theorem ok_X2_canMend_73 : ok_S 18 73 (sf_push (0, (-1)) 74) := ok_iconst (by decide +kernel : decode (mb_ 18) 73 = .ok (.iconst (-1), 1)) ⟨by decide, by decide⟩
theorem ok_X2_canMend_74 : ok_S 18 74 (sf_pi 9 9 2 77) := ok_pi fd_9_2 (by decide +kernel : decode (mb_ 18) 74 = .ok (.putfield 22, 3)) tw_86 rfl (Or.inl ff_9_2) rfl
theorem ok_X2_canMend_77 : ok_S 18 77 (sf_push (0, 0) 78) := ok_iconst (by decide +kernel : decode (mb_ 18) 77 = .ok (.iconst 0, 1)) ⟨by decide, by decide⟩
theorem ok_X2_canMend_78 : ok_S 18 78 (sf_rr 0 1) := ok_rr (by decide +kernel : decode (mb_ 18) 78 = .ok (.ireturn, 1)) rfl (so_nz .boolean rfl rfl)
theorem ok_X2_canMend (pc : Nat) : ok_S 18 pc (cd_X2_canMend pc) :=
  (ok_bf (ok_bf (ok_bf (ok_bf (ok_bf (ok_bf (ok_lf pc ok_X2_canMend_78) (ok_lf pc ok_X2_canMend_77)) (ok_lf pc ok_X2_canMend_74)) (ok_bf (ok_bf (ok_lf pc ok_X2_canMend_73) (ok_lf pc ok_X2_canMend_72)) (ok_lf pc ok_X2_canMend_69))) (ok_bf (ok_bf (ok_bf (ok_lf pc ok_X2_canMend_66) (ok_lf pc ok_X2_canMend_65)) (ok_lf pc ok_X2_canMend_64)) (ok_bf (ok_lf pc ok_X2_canMend_61) (ok_lf pc ok_X2_canMend_58)))) (ok_bf (ok_bf (ok_bf (ok_bf (ok_lf pc ok_X2_canMend_57) (ok_lf pc ok_X2_canMend_56)) (ok_lf pc ok_X2_canMend_53)) (ok_bf (ok_lf pc ok_X2_canMend_50) (ok_lf pc ok_X2_canMend_47))) (ok_bf (ok_bf (ok_bf (ok_lf pc ok_X2_canMend_46) (ok_lf pc ok_X2_canMend_45)) (ok_lf pc ok_X2_canMend_44)) (ok_bf (ok_lf pc ok_X2_canMend_43) (ok_lf pc ok_X2_canMend_40))))) (ok_bf (ok_bf (ok_bf (ok_bf (ok_bf (ok_lf pc ok_X2_canMend_39) (ok_lf pc ok_X2_canMend_36)) (ok_lf pc ok_X2_canMend_33)) (ok_bf (ok_lf pc ok_X2_canMend_30) (ok_lf pc ok_X2_canMend_29))) (ok_bf (ok_bf (ok_bf (ok_lf pc ok_X2_canMend_28) (ok_lf pc ok_X2_canMend_27)) (ok_lf pc ok_X2_canMend_26)) (ok_bf (ok_lf pc ok_X2_canMend_23) (ok_lf pc ok_X2_canMend_22)))) (ok_bf (ok_bf (ok_bf (ok_bf (ok_lf pc ok_X2_canMend_19) (ok_lf pc ok_X2_canMend_18)) (ok_lf pc ok_X2_canMend_15)) (ok_bf (ok_lf pc ok_X2_canMend_14) (ok_lf pc ok_X2_canMend_11))) (ok_bf (ok_bf (ok_bf (ok_lf pc ok_X2_canMend_8) (ok_lf pc ok_X2_canMend_5)) (ok_lf pc ok_X2_canMend_4)) (ok_bf (ok_lf pc ok_X2_canMend_1) (ok_lf pc ok_X2_canMend_0))))))
theorem mo_X2_canMend (pc : Nat) : mo_S (cd_X2_canMend pc) :=
  (mo_bf (mo_bf (mo_bf (mo_bf (mo_bf (mo_bf (mo_bf mo_rr mo_no) (mo_bf mo_push mo_no)) (mo_bf mo_pi mo_no)) (mo_bf (mo_bf (mo_bf mo_push mo_no) (mo_bf mo_ld mo_no)) (mo_bf mo_go mo_no))) (mo_bf (mo_bf (mo_bf (mo_bf mo_inc mo_no) (mo_bf mo_rr mo_no)) (mo_bf mo_push mo_no)) (mo_bf (mo_bf mo_if mo_no) (mo_bf mo_cv mo_no)))) (mo_bf (mo_bf (mo_bf (mo_bf (mo_bf mo_ld mo_no) (mo_bf mo_ld mo_no)) (mo_bf mo_ic mo_no)) (mo_bf (mo_bf mo_gi mo_no) (mo_bf mo_gr mo_no))) (mo_bf (mo_bf (mo_bf (mo_bf mo_ld mo_no) (mo_bf mo_ld mo_no)) (mo_bf mo_st mo_no)) (mo_bf (mo_bf mo_push mo_no) (mo_bf mo_cv mo_no))))) (mo_bf (mo_bf (mo_bf (mo_bf (mo_bf (mo_bf mo_ld mo_no) (mo_bf mo_pi mo_no)) (mo_bf mo_gi mo_no)) (mo_bf (mo_bf mo_gr mo_no) (mo_bf mo_ld mo_no))) (mo_bf (mo_bf (mo_bf (mo_bf mo_ld mo_no) (mo_bf mo_rr mo_no)) (mo_bf mo_push mo_no)) (mo_bf (mo_bf mo_go mo_no) (mo_bf mo_push mo_no)))) (mo_bf (mo_bf (mo_bf (mo_bf (mo_bf mo_ic mo_no) (mo_bf mo_push mo_no)) (mo_bf mo_gi mo_no)) (mo_bf (mo_bf mo_ld mo_no) (mo_bf mo_ic mo_no))) (mo_bf (mo_bf (mo_bf (mo_bf mo_gi mo_no) (mo_bf mo_gr mo_no)) (mo_bf mo_ld mo_no)) (mo_bf (mo_bf mo_gi mo_no) (mo_bf mo_ld mo_no))))))
theorem ok_X2_mendsBy_0 : ok_S 19 0 (sf_ld 2 0 1) := ok_aload_n (by decide +kernel : decode (mb_ 19) 0 = .ok (.aload_n 0, 1)) rfl
theorem ok_X2_mendsBy_1 : ok_S 19 1 (sf_gr 9 9 0 4) := ok_gr fd_9_0 (by decide +kernel : decode (mb_ 19) 1 = .ok (.getfield 12, 3)) tw_82 (Or.inl rfl) rfl
theorem ok_X2_mendsBy_4 : ok_S 19 4 (sf_ld 0 1 5) := ok_iload_n (by decide +kernel : decode (mb_ 19) 4 = .ok (.iload_n 1, 1)) rfl
theorem ok_X2_mendsBy_5 : ok_S 19 5 (sf_cv 8 [2, 0] 90 8) := ok_cv mt_90 cl_8 (by decide +kernel : decode (mb_ 19) 5 = .ok (.invokevirtual 99, 3)) tw_703 tw_514 tw_515 tw_3 rfl (by decide +kernel) (mh_ok rfl) (by decide) (by decide)
theorem ok_X2_mendsBy_8 : ok_S 19 8 (sf_st 2 2 9) := ok_astore_n (by decide +kernel : decode (mb_ 19) 8 = .ok (.astore_n 2, 1)) rfl
theorem ok_X2_mendsBy_9 : ok_S 19 9 (sf_ld 2 0 10) := ok_aload_n (by decide +kernel : decode (mb_ 19) 9 = .ok (.aload_n 0, 1)) rfl
theorem ok_X2_mendsBy_10 : ok_S 19 10 (sf_gr 9 9 0 13) := ok_gr fd_9_0 (by decide +kernel : decode (mb_ 19) 10 = .ok (.getfield 12, 3)) tw_82 (Or.inl rfl) rfl
theorem ok_X2_mendsBy_13 : ok_S 19 13 (sf_cv 8 [2] 97 16) := ok_cv mt_97 cl_8 (by decide +kernel : decode (mb_ 19) 13 = .ok (.invokevirtual 81, 3)) tw_714 tw_715 tw_716 tw_3 rfl (by decide +kernel) (mh_ok rfl) (by decide) (by decide)
theorem ok_X2_mendsBy_16 : ok_S 19 16 (sf_ld 2 0 17) := ok_aload_n (by decide +kernel : decode (mb_ 19) 16 = .ok (.aload_n 0, 1)) rfl
theorem ok_X2_mendsBy_17 : ok_S 19 17 (sf_gr 9 9 0 20) := ok_gr fd_9_0 (by decide +kernel : decode (mb_ 19) 17 = .ok (.getfield 12, 3)) tw_82 (Or.inl rfl) rfl
theorem ok_X2_mendsBy_20 : ok_S 19 20 (sf_ld 0 1 21) := ok_iload_n (by decide +kernel : decode (mb_ 19) 20 = .ok (.iload_n 1, 1)) rfl
theorem ok_X2_mendsBy_21 : ok_S 19 21 (sf_cv 8 [2, 0] 96 24) := ok_cv mt_96 cl_8 (by decide +kernel : decode (mb_ 19) 21 = .ok (.invokevirtual 103, 3)) tw_824 tw_825 tw_826 tw_3 rfl (by decide +kernel) (mh_ok rfl) (by decide) (by decide)
theorem ok_X2_mendsBy_24 : ok_S 19 24 (sf_push (0, (-1)) 25) := ok_iconst (by decide +kernel : decode (mb_ 19) 24 = .ok (.iconst (-1), 1)) ⟨by decide, by decide⟩
theorem ok_X2_mendsBy_25 : ok_S 19 25 (sf_i2 mx_xor 26) := ok_ixor (by decide +kernel : decode (mb_ 19) 25 = .ok (.ixor, 1))
theorem ok_X2_mendsBy_26 : ok_S 19 26 (sf_i2 mx_and 27) := ok_iand (by decide +kernel : decode (mb_ 19) 26 = .ok (.iand, 1))
theorem ok_X2_mendsBy_27 : ok_S 19 27 (sf_st 0 3 28) := ok_istore_n (by decide +kernel : decode (mb_ 19) 27 = .ok (.istore_n 3, 1)) rfl
theorem ok_X2_mendsBy_28 : ok_S 19 28 (sf_ld 2 0 29) := ok_aload_n (by decide +kernel : decode (mb_ 19) 28 = .ok (.aload_n 0, 1)) rfl
theorem ok_X2_mendsBy_29 : ok_S 19 29 (sf_ld 0 3 30) := ok_iload_n (by decide +kernel : decode (mb_ 19) 29 = .ok (.iload_n 3, 1)) rfl
theorem ok_X2_mendsBy_30 : ok_S 19 30 (sf_ld 0 1 31) := ok_iload_n (by decide +kernel : decode (mb_ 19) 30 = .ok (.iload_n 1, 1)) rfl
theorem ok_X2_mendsBy_31 : ok_S 19 31 (sf_cv 9 [2, 0, 0] 26 34) := ok_cv mt_26 cl_9 (by decide +kernel : decode (mb_ 19) 31 = .ok (.invokevirtual 106, 3)) tw_718 tw_720 ts_15 tw_2 rfl (by decide +kernel) (mh_ok rfl) (by decide) (by decide)
theorem ok_X2_mendsBy_34 : ok_S 19 34 (sf_ld 2 2 35) := ok_aload_n (by decide +kernel : decode (mb_ 19) 34 = .ok (.aload_n 2, 1)) rfl
theorem ok_X2_mendsBy_35 : ok_S 19 35 (sf_nul 46 38) := ok_nul (by decide +kernel : decode (mb_ 19) 35 = .ok (.ifnull 11, 3)) (by decide)
theorem ok_X2_mendsBy_38 : ok_S 19 38 (sf_ld 2 0 39) := ok_aload_n (by decide +kernel : decode (mb_ 19) 38 = .ok (.aload_n 0, 1)) rfl
theorem ok_X2_mendsBy_39 : ok_S 19 39 (sf_ld 0 3 40) := ok_iload_n (by decide +kernel : decode (mb_ 19) 39 = .ok (.iload_n 3, 1)) rfl
theorem ok_X2_mendsBy_40 : ok_S 19 40 (sf_cv 9 [2, 0] 30 43) := ok_cv mt_30 cl_9 (by decide +kernel : decode (mb_ 19) 40 = .ok (.invokevirtual 110, 3)) tw_808 tw_810 ts_22 tw_2 rfl (by decide +kernel) (mh_ok rfl) (by decide) (by decide)
theorem ok_X2_mendsBy_43 : ok_S 19 43 (sf_if 1 48 46) := ok_if1 (by decide +kernel : decode (mb_ 19) 43 = .ok (.ifCond .ne 5, 3)) (by decide)
theorem ok_X2_mendsBy_46 : ok_S 19 46 (sf_push (0, 0) 47) := ok_iconst (by decide +kernel : decode (mb_ 19) 46 = .ok (.iconst 0, 1)) ⟨by decide, by decide⟩
theorem ok_X2_mendsBy_47 : ok_S 19 47 (sf_rr 0 1) := ok_rr (by decide +kernel : decode (mb_ 19) 47 = .ok (.ireturn, 1)) rfl (so_nz .boolean rfl rfl)
theorem ok_X2_mendsBy_48 : ok_S 19 48 (sf_ld 2 0 49) := ok_aload_n (by decide +kernel : decode (mb_ 19) 48 = .ok (.aload_n 0, 1)) rfl
theorem ok_X2_mendsBy_49 : ok_S 19 49 (sf_gr 9 9 9 52) := ok_gr fd_9_9 (by decide +kernel : decode (mb_ 19) 49 = .ok (.getfield 44, 3)) tw_96 (Or.inl rfl) rfl
theorem ok_X2_mendsBy_52 : ok_S 19 52 (sf_push (0, 0) 53) := ok_iconst (by decide +kernel : decode (mb_ 19) 52 = .ok (.iconst 0, 1)) ⟨by decide, by decide⟩
theorem ok_X2_mendsBy_53 : ok_S 19 53 (sf_ld 2 0 54) := ok_aload_n (by decide +kernel : decode (mb_ 19) 53 = .ok (.aload_n 0, 1)) rfl
theorem ok_X2_mendsBy_54 : ok_S 19 54 (sf_gr 9 9 10 57) := ok_gr fd_9_10 (by decide +kernel : decode (mb_ 19) 54 = .ok (.getfield 47, 3)) tw_97 (Or.inl rfl) rfl
theorem ok_X2_mendsBy_57 : ok_S 19 57 (sf_push (0, 0) 58) := ok_iconst (by decide +kernel : decode (mb_ 19) 57 = .ok (.iconst 0, 1)) ⟨by decide, by decide⟩
theorem ok_X2_mendsBy_58 : ok_S 19 58 (sf_ld 2 0 59) := ok_aload_n (by decide +kernel : decode (mb_ 19) 58 = .ok (.aload_n 0, 1)) rfl
theorem ok_X2_mendsBy_59 : ok_S 19 59 (sf_gr 9 9 9 62) := ok_gr fd_9_9 (by decide +kernel : decode (mb_ 19) 59 = .ok (.getfield 44, 3)) tw_96 (Or.inl rfl) rfl
theorem ok_X2_mendsBy_62 : ok_S 19 62 (sf_alen 63) := ok_alen (by decide +kernel : decode (mb_ 19) 62 = .ok (.arraylength, 1))
theorem ok_X2_mendsBy_63 : ok_S 19 63 (sf_copy 66) := ok_copy (by decide +kernel : decode (mb_ 19) 63 = .ok (.invokestatic 113, 3)) tw_828 tw_383 tw_382 tw_13
theorem ok_X2_mendsBy_66 : ok_S 19 66 (sf_push (0, 0) 67) := ok_iconst (by decide +kernel : decode (mb_ 19) 66 = .ok (.iconst 0, 1)) ⟨by decide, by decide⟩
theorem ok_X2_mendsBy_67 : ok_S 19 67 (sf_st 0 4 69) := ok_istore (by decide +kernel : decode (mb_ 19) 67 = .ok (.istore 4, 2))
theorem ok_X2_mendsBy_69 : ok_S 19 69 (sf_push (0, 0) 70) := ok_iconst (by decide +kernel : decode (mb_ 19) 69 = .ok (.iconst 0, 1)) ⟨by decide, by decide⟩
theorem ok_X2_mendsBy_70 : ok_S 19 70 (sf_st 0 5 72) := ok_istore (by decide +kernel : decode (mb_ 19) 70 = .ok (.istore 5, 2))
theorem ok_X2_mendsBy_72 : ok_S 19 72 (sf_ld 0 5 74) := ok_iload (by decide +kernel : decode (mb_ 19) 72 = .ok (.iload 5, 2))
theorem ok_X2_mendsBy_74 : ok_S 19 74 (sf_ld 2 2 75) := ok_aload_n (by decide +kernel : decode (mb_ 19) 74 = .ok (.aload_n 2, 1)) rfl
theorem ok_X2_mendsBy_75 : ok_S 19 75 (sf_gr 1 6 2 78) := ok_gr fd_1_2 (by decide +kernel : decode (mb_ 19) 75 = .ok (.getfield 119, 3)) tw_424 (Or.inl rfl) rfl
theorem ok_X2_mendsBy_78 : ok_S 19 78 (sf_alen 79) := ok_alen (by decide +kernel : decode (mb_ 19) 78 = .ok (.arraylength, 1))
theorem ok_X2_mendsBy_79 : ok_S 19 79 (sf_ic 3 177 82) := ok_ic3 (by decide +kernel : decode (mb_ 19) 79 = .ok (.if_icmp .ge 98, 3)) (by decide)
theorem ok_X2_mendsBy_82 : ok_S 19 82 (sf_ld 0 4 84) := ok_iload (by decide +kernel : decode (mb_ 19) 82 = .ok (.iload 4, 2))
theorem ok_X2_mendsBy_84 : ok_S 19 84 (sf_if 1 177 87) := ok_if1 (by decide +kernel : decode (mb_ 19) 84 = .ok (.ifCond .ne 93, 3)) (by decide)
theorem ok_X2_mendsBy_87 : ok_S 19 87 (sf_ld 2 2 88) := ok_aload_n (by decide +kernel : decode (mb_ 19) 87 = .ok (.aload_n 2, 1)) rfl
theorem ok_X2_mendsBy_88 : ok_S 19 88 (sf_gr 1 6 2 91) := ok_gr fd_1_2 (by decide +kernel : decode (mb_ 19) 88 = .ok (.getfield 119, 3)) tw_424 (Or.inl rfl) rfl
theorem ok_X2_mendsBy_91 : ok_S 19 91 (sf_ld 0 5 93) := ok_iload (by decide +kernel : decode (mb_ 19) 91 = .ok (.iload 5, 2))
theorem ok_X2_mendsBy_93 : ok_S 19 93 (sf_iald 94) := ok_iald (by decide +kernel : decode (mb_ 19) 93 = .ok (.iaload, 1))
theorem ok_X2_mendsBy_94 : ok_S 19 94 (sf_st 0 6 96) := ok_istore (by decide +kernel : decode (mb_ 19) 94 = .ok (.istore 6, 2))
theorem ok_X2_mendsBy_96 : ok_S 19 96 (sf_push (0, 0) 97) := ok_iconst (by decide +kernel : decode (mb_ 19) 96 = .ok (.iconst 0, 1)) ⟨by decide, by decide⟩
theorem ok_X2_mendsBy_97 : ok_S 19 97 (sf_st 0 7 99) := ok_istore (by decide +kernel : decode (mb_ 19) 97 = .ok (.istore 7, 2))
theorem ok_X2_mendsBy_99 : ok_S 19 99 (sf_ld 0 7 101) := ok_iload (by decide +kernel : decode (mb_ 19) 99 = .ok (.iload 7, 2))
theorem ok_X2_mendsBy_101 : ok_S 19 101 (sf_push (0, 15) 103) := ok_bipush (by decide +kernel : decode (mb_ 19) 101 = .ok (.bipush 15, 2)) ⟨by decide, by decide⟩ (by decide +kernel)
theorem ok_X2_mendsBy_103 : ok_S 19 103 (sf_ic 4 162 106) := ok_ic4 (by decide +kernel : decode (mb_ 19) 103 = .ok (.if_icmp .gt 59, 3)) (by decide)
theorem ok_X2_mendsBy_106 : ok_S 19 106 (sf_ld 0 4 108) := ok_iload (by decide +kernel : decode (mb_ 19) 106 = .ok (.iload 4, 2))
theorem ok_X2_mendsBy_108 : ok_S 19 108 (sf_if 1 162 111) := ok_if1 (by decide +kernel : decode (mb_ 19) 108 = .ok (.ifCond .ne 54, 3)) (by decide)
theorem ok_X2_mendsBy_111 : ok_S 19 111 (sf_ld 2 2 112) := ok_aload_n (by decide +kernel : decode (mb_ 19) 111 = .ok (.aload_n 2, 1)) rfl
theorem ok_X2_mendsBy_112 : ok_S 19 112 (sf_gr 1 6 2 115) := ok_gr fd_1_2 (by decide +kernel : decode (mb_ 19) 112 = .ok (.getfield 119, 3)) tw_424 (Or.inl rfl) rfl
theorem ok_X2_mendsBy_115 : ok_S 19 115 (sf_ld 0 5 117) := ok_iload (by decide +kernel : decode (mb_ 19) 115 = .ok (.iload 5, 2))
theorem ok_X2_mendsBy_117 : ok_S 19 117 (sf_ld 0 7 119) := ok_iload (by decide +kernel : decode (mb_ 19) 117 = .ok (.iload 7, 2))
theorem ok_X2_mendsBy_119 : ok_S 19 119 (sf_iast 120) := ok_iast (by decide +kernel : decode (mb_ 19) 119 = .ok (.iastore, 1))
theorem ok_X2_mendsBy_120 : ok_S 19 120 (sf_ld 0 7 122) := ok_iload (by decide +kernel : decode (mb_ 19) 120 = .ok (.iload 7, 2))
theorem ok_X2_mendsBy_122 : ok_S 19 122 (sf_ld 0 6 124) := ok_iload (by decide +kernel : decode (mb_ 19) 122 = .ok (.iload 6, 2))
theorem ok_X2_mendsBy_124 : ok_S 19 124 (sf_ic 0 139 127) := ok_ic0 (by decide +kernel : decode (mb_ 19) 124 = .ok (.if_icmp .eq 15, 3)) (by decide)
theorem ok_X2_mendsBy_127 : ok_S 19 127 (sf_ld 2 0 128) := ok_aload_n (by decide +kernel : decode (mb_ 19) 127 = .ok (.aload_n 0, 1)) rfl
theorem ok_X2_mendsBy_128 : ok_S 19 128 (sf_ld 2 2 129) := ok_aload_n (by decide +kernel : decode (mb_ 19) 128 = .ok (.aload_n 2, 1)) rfl
theorem ok_X2_mendsBy_129 : ok_S 19 129 (sf_cv 9 [2, 2] 21 132) := ok_cv mt_21 cl_9 (by decide +kernel : decode (mb_ 19) 129 = .ok (.invokevirtual 124, 3)) tw_829 tw_831 ts_24 tw_2 rfl (by decide +kernel) (mh_ok rfl) (by decide) (by decide)
theorem ok_X2_mendsBy_132 : ok_S 19 132 (sf_if 0 139 135) := ok_if0 (by decide +kernel : decode (mb_ 19) 132 = .ok (.ifCond .eq 7, 3)) (by decide)
theorem ok_X2_mendsBy_135 : ok_S 19 135 (sf_push (0, 1) 136) := ok_iconst (by decide +kernel : decode (mb_ 19) 135 = .ok (.iconst 1, 1)) ⟨by decide, by decide⟩
theorem ok_X2_mendsBy_136 : ok_S 19 136 (sf_go 140) := ok_goto (by decide +kernel : decode (mb_ 19) 136 = .ok (.goto 4, 3)) (by decide)
theorem ok_X2_mendsBy_139 : ok_S 19 139 (sf_push (0, 0) 140) := ok_iconst (by decide +kernel : decode (mb_ 19) 139 = .ok (.iconst 0, 1)) ⟨by decide, by decide⟩
theorem ok_X2_mendsBy_140 : ok_S 19 140 (sf_st 0 4 142) := ok_istore (by decide +kernel : decode (mb_ 19) 140 = .ok (.istore 4, 2))
theorem ok_X2_mendsBy_142 : ok_S 19 142 (sf_ld 0 4 144) := ok_iload (by decide +kernel : decode (mb_ 19) 142 = .ok (.iload 4, 2))
theorem ok_X2_mendsBy_144 : ok_S 19 144 (sf_if 0 156 147) := ok_if0 (by decide +kernel : decode (mb_ 19) 144 = .ok (.ifCond .eq 12, 3)) (by decide)
theorem ok_X2_mendsBy_147 : ok_S 19 147 (sf_ld 2 0 148) := ok_aload_n (by decide +kernel : decode (mb_ 19) 147 = .ok (.aload_n 0, 1)) rfl
theorem ok_X2_mendsBy_148 : ok_S 19 148 (sf_ld 0 1 149) := ok_iload_n (by decide +kernel : decode (mb_ 19) 148 = .ok (.iload_n 1, 1)) rfl
theorem ok_X2_mendsBy_149 : ok_S 19 149 (sf_ld 0 5 151) := ok_iload (by decide +kernel : decode (mb_ 19) 149 = .ok (.iload 5, 2))
theorem ok_X2_mendsBy_151 : ok_S 19 151 (sf_ld 0 7 153) := ok_iload (by decide +kernel : decode (mb_ 19) 151 = .ok (.iload 7, 2))
theorem ok_X2_mendsBy_153 : ok_S 19 153 (sf_cv 9 [2, 0, 0, 0] 20 156) := ok_cv mt_20 cl_9 (by decide +kernel : decode (mb_ 19) 153 = .ok (.invokevirtual 128, 3)) tw_833 tw_835 ts_25 tw_2 rfl (by decide +kernel) (mh_ok rfl) (by decide) (by decide)
theorem ok_X2_mendsBy_156 : ok_S 19 156 (sf_inc 7 1 159) := ok_iinc (by decide +kernel : decode (mb_ 19) 156 = .ok (.iinc 7 1, 3))
theorem ok_X2_mendsBy_159 : ok_S 19 159 (sf_go 99) := ok_goto (by decide +kernel : decode (mb_ 19) 159 = .ok (.goto (-60), 3)) (by decide)
theorem ok_X2_mendsBy_162 : ok_S 19 162 (sf_ld 2 2 163) := ok_aload_n (by decide +kernel : decode (mb_ 19) 162 = .ok (.aload_n 2, 1)) rfl
theorem ok_X2_mendsBy_163 : ok_S 19 163 (sf_gr 1 6 2 166) := ok_gr fd_1_2 (by decide +kernel : decode (mb_ 19) 163 = .ok (.getfield 119, 3)) tw_424 (Or.inl rfl) rfl
theorem ok_X2_mendsBy_166 : ok_S 19 166 (sf_ld 0 5 168) := ok_iload (by decide +kernel : decode (mb_ 19) 166 = .ok (.iload 5, 2))
theorem ok_X2_mendsBy_168 : ok_S 19 168 (sf_ld 0 6 170) := ok_iload (by decide +kernel : decode (mb_ 19) 168 = .ok (.iload 6, 2))
theorem ok_X2_mendsBy_170 : ok_S 19 170 (sf_iast 171) := ok_iast (by decide +kernel : decode (mb_ 19) 170 = .ok (.iastore, 1))
theorem ok_X2_mendsBy_171 : ok_S 19 171 (sf_inc 5 1 174) := ok_iinc (by decide +kernel : decode (mb_ 19) 171 = .ok (.iinc 5 1, 3))
theorem ok_X2_mendsBy_174 : ok_S 19 174 (sf_go 72) := ok_goto (by decide +kernel : decode (mb_ 19) 174 = .ok (.goto (-102), 3)) (by decide)
theorem ok_X2_mendsBy_177 : ok_S 19 177 (sf_ld 2 0 178) := ok_aload_n (by decide +kernel : decode (mb_ 19) 177 = .ok (.aload_n 0, 1)) rfl
theorem ok_X2_mendsBy_178 : ok_S 19 178 (sf_ld 2 2 179) := ok_aload_n (by decide +kernel : decode (mb_ 19) 178 = .ok (.aload_n 2, 1)) rfl
theorem ok_X2_mendsBy_179 : ok_S 19 179 (sf_cv 9 [2, 2] 24 182) := ok_cv mt_24 cl_9 (by decide +kernel : decode (mb_ 19) 179 = .ok (.invokevirtual 132, 3)) tw_704 tw_706 ts_13 tw_2 rfl (by decide +kernel) (mh_ok rfl) (by decide) (by decide)
theorem ok_X2_mendsBy_182 : ok_S 19 182 (sf_ld 0 4 184) := ok_iload (by decide +kernel : decode (mb_ 19) 182 = .ok (.iload 4, 2))
theorem ok_X2_mendsBy_184 : ok_S 19 184 (sf_rr 0 1) := ok_rr (by decide +kernel : decode (mb_ 19) 184 = .ok (.ireturn, 1)) rfl (so_nz .boolean rfl rfl)
theorem ok_X2_mendsBy (pc : Nat) : ok_S 19 pc (cd_X2_mendsBy pc) :=
  (ok_bf (ok_bf (ok_bf (ok_bf (ok_bf (ok_bf (ok_bf (ok_lf pc ok_X2_mendsBy_184) (ok_lf pc ok_X2_mendsBy_182)) (ok_bf (ok_lf pc ok_X2_mendsBy_179) (ok_lf pc ok_X2_mendsBy_178))) (ok_bf (ok_bf (ok_lf pc ok_X2_mendsBy_177) (ok_lf pc ok_X2_mendsBy_174)) (ok_lf pc ok_X2_mendsBy_171))) (ok_bf (ok_bf (ok_bf (ok_lf pc ok_X2_mendsBy_170) (ok_lf pc ok_X2_mendsBy_168)) (ok_lf pc ok_X2_mendsBy_166)) (ok_bf (ok_bf (ok_lf pc ok_X2_mendsBy_163) (ok_lf pc ok_X2_mendsBy_162)) (ok_lf pc ok_X2_mendsBy_159)))) (ok_bf (ok_bf (ok_bf (ok_bf (ok_lf pc ok_X2_mendsBy_156) (ok_lf pc ok_X2_mendsBy_153)) (ok_lf pc ok_X2_mendsBy_151)) (ok_bf (ok_bf (ok_lf pc ok_X2_mendsBy_149) (ok_lf pc ok_X2_mendsBy_148)) (ok_lf pc ok_X2_mendsBy_147))) (ok_bf (ok_bf (ok_bf (ok_lf pc ok_X2_mendsBy_144) (ok_lf pc ok_X2_mendsBy_142)) (ok_lf pc ok_X2_mendsBy_140)) (ok_bf (ok_bf (ok_lf pc ok_X2_mendsBy_139) (ok_lf pc ok_X2_mendsBy_136)) (ok_lf pc ok_X2_mendsBy_135))))) (ok_bf (ok_bf (ok_bf (ok_bf (ok_bf (ok_lf pc ok_X2_mendsBy_132) (ok_lf pc ok_X2_mendsBy_129)) (ok_lf pc ok_X2_mendsBy_128)) (ok_bf (ok_bf (ok_lf pc ok_X2_mendsBy_127) (ok_lf pc ok_X2_mendsBy_124)) (ok_lf pc ok_X2_mendsBy_122))) (ok_bf (ok_bf (ok_bf (ok_lf pc ok_X2_mendsBy_120) (ok_lf pc ok_X2_mendsBy_119)) (ok_lf pc ok_X2_mendsBy_117)) (ok_bf (ok_bf (ok_lf pc ok_X2_mendsBy_115) (ok_lf pc ok_X2_mendsBy_112)) (ok_lf pc ok_X2_mendsBy_111)))) (ok_bf (ok_bf (ok_bf (ok_bf (ok_lf pc ok_X2_mendsBy_108) (ok_lf pc ok_X2_mendsBy_106)) (ok_lf pc ok_X2_mendsBy_103)) (ok_bf (ok_bf (ok_lf pc ok_X2_mendsBy_101) (ok_lf pc ok_X2_mendsBy_99)) (ok_lf pc ok_X2_mendsBy_97))) (ok_bf (ok_bf (ok_bf (ok_lf pc ok_X2_mendsBy_96) (ok_lf pc ok_X2_mendsBy_94)) (ok_lf pc ok_X2_mendsBy_93)) (ok_bf (ok_bf (ok_lf pc ok_X2_mendsBy_91) (ok_lf pc ok_X2_mendsBy_88)) (ok_lf pc ok_X2_mendsBy_87)))))) (ok_bf (ok_bf (ok_bf (ok_bf (ok_bf (ok_bf (ok_lf pc ok_X2_mendsBy_84) (ok_lf pc ok_X2_mendsBy_82)) (ok_bf (ok_lf pc ok_X2_mendsBy_79) (ok_lf pc ok_X2_mendsBy_78))) (ok_bf (ok_bf (ok_lf pc ok_X2_mendsBy_75) (ok_lf pc ok_X2_mendsBy_74)) (ok_lf pc ok_X2_mendsBy_72))) (ok_bf (ok_bf (ok_bf (ok_lf pc ok_X2_mendsBy_70) (ok_lf pc ok_X2_mendsBy_69)) (ok_lf pc ok_X2_mendsBy_67)) (ok_bf (ok_bf (ok_lf pc ok_X2_mendsBy_66) (ok_lf pc ok_X2_mendsBy_63)) (ok_lf pc ok_X2_mendsBy_62)))) (ok_bf (ok_bf (ok_bf (ok_bf (ok_lf pc ok_X2_mendsBy_59) (ok_lf pc ok_X2_mendsBy_58)) (ok_lf pc ok_X2_mendsBy_57)) (ok_bf (ok_bf (ok_lf pc ok_X2_mendsBy_54) (ok_lf pc ok_X2_mendsBy_53)) (ok_lf pc ok_X2_mendsBy_52))) (ok_bf (ok_bf (ok_bf (ok_lf pc ok_X2_mendsBy_49) (ok_lf pc ok_X2_mendsBy_48)) (ok_lf pc ok_X2_mendsBy_47)) (ok_bf (ok_bf (ok_lf pc ok_X2_mendsBy_46) (ok_lf pc ok_X2_mendsBy_43)) (ok_lf pc ok_X2_mendsBy_40))))) (ok_bf (ok_bf (ok_bf (ok_bf (ok_bf (ok_lf pc ok_X2_mendsBy_39) (ok_lf pc ok_X2_mendsBy_38)) (ok_lf pc ok_X2_mendsBy_35)) (ok_bf (ok_bf (ok_lf pc ok_X2_mendsBy_34) (ok_lf pc ok_X2_mendsBy_31)) (ok_lf pc ok_X2_mendsBy_30))) (ok_bf (ok_bf (ok_bf (ok_lf pc ok_X2_mendsBy_29) (ok_lf pc ok_X2_mendsBy_28)) (ok_lf pc ok_X2_mendsBy_27)) (ok_bf (ok_bf (ok_lf pc ok_X2_mendsBy_26) (ok_lf pc ok_X2_mendsBy_25)) (ok_lf pc ok_X2_mendsBy_24)))) (ok_bf (ok_bf (ok_bf (ok_bf (ok_lf pc ok_X2_mendsBy_21) (ok_lf pc ok_X2_mendsBy_20)) (ok_lf pc ok_X2_mendsBy_17)) (ok_bf (ok_bf (ok_lf pc ok_X2_mendsBy_16) (ok_lf pc ok_X2_mendsBy_13)) (ok_lf pc ok_X2_mendsBy_10))) (ok_bf (ok_bf (ok_bf (ok_lf pc ok_X2_mendsBy_9) (ok_lf pc ok_X2_mendsBy_8)) (ok_lf pc ok_X2_mendsBy_5)) (ok_bf (ok_bf (ok_lf pc ok_X2_mendsBy_4) (ok_lf pc ok_X2_mendsBy_1)) (ok_lf pc ok_X2_mendsBy_0)))))))
theorem mo_X2_mendsBy (pc : Nat) : mo_S (cd_X2_mendsBy pc) :=
  (mo_bf (mo_bf (mo_bf (mo_bf (mo_bf (mo_bf (mo_bf (mo_bf mo_rr mo_no) (mo_bf mo_ld mo_no)) (mo_bf (mo_bf mo_cv mo_no) (mo_bf mo_ld mo_no))) (mo_bf (mo_bf (mo_bf mo_ld mo_no) (mo_bf mo_go mo_no)) (mo_bf mo_inc mo_no))) (mo_bf (mo_bf (mo_bf (mo_bf mo_iast mo_no) (mo_bf mo_ld mo_no)) (mo_bf mo_ld mo_no)) (mo_bf (mo_bf (mo_bf mo_gr mo_no) (mo_bf mo_ld mo_no)) (mo_bf mo_go mo_no)))) (mo_bf (mo_bf (mo_bf (mo_bf (mo_bf mo_inc mo_no) (mo_bf mo_cv mo_no)) (mo_bf mo_ld mo_no)) (mo_bf (mo_bf (mo_bf mo_ld mo_no) (mo_bf mo_ld mo_no)) (mo_bf mo_ld mo_no))) (mo_bf (mo_bf (mo_bf (mo_bf mo_if mo_no) (mo_bf mo_ld mo_no)) (mo_bf mo_st mo_no)) (mo_bf (mo_bf (mo_bf mo_push mo_no) (mo_bf mo_go mo_no)) (mo_bf mo_push mo_no))))) (mo_bf (mo_bf (mo_bf (mo_bf (mo_bf (mo_bf mo_if mo_no) (mo_bf mo_cv mo_no)) (mo_bf mo_ld mo_no)) (mo_bf (mo_bf (mo_bf mo_ld mo_no) (mo_bf mo_ic mo_no)) (mo_bf mo_ld mo_no))) (mo_bf (mo_bf (mo_bf (mo_bf mo_ld mo_no) (mo_bf mo_iast mo_no)) (mo_bf mo_ld mo_no)) (mo_bf (mo_bf (mo_bf mo_ld mo_no) (mo_bf mo_gr mo_no)) (mo_bf mo_ld mo_no)))) (mo_bf (mo_bf (mo_bf (mo_bf (mo_bf mo_if mo_no) (mo_bf mo_ld mo_no)) (mo_bf mo_ic mo_no)) (mo_bf (mo_bf (mo_bf mo_push mo_no) (mo_bf mo_ld mo_no)) (mo_bf mo_st mo_no))) (mo_bf (mo_bf (mo_bf (mo_bf mo_push mo_no) (mo_bf mo_st mo_no)) (mo_bf mo_iald mo_no)) (mo_bf (mo_bf (mo_bf mo_ld mo_no) (mo_bf mo_gr mo_no)) (mo_bf mo_ld mo_no)))))) (mo_bf (mo_bf (mo_bf (mo_bf (mo_bf (mo_bf (mo_bf mo_if mo_no) (mo_bf mo_ld mo_no)) (mo_bf (mo_bf mo_ic mo_no) (mo_bf mo_alen mo_no))) (mo_bf (mo_bf (mo_bf mo_gr mo_no) (mo_bf mo_ld mo_no)) (mo_bf mo_ld mo_no))) (mo_bf (mo_bf (mo_bf (mo_bf mo_st mo_no) (mo_bf mo_push mo_no)) (mo_bf mo_st mo_no)) (mo_bf (mo_bf (mo_bf mo_push mo_no) (mo_bf mo_copy mo_no)) (mo_bf mo_alen mo_no)))) (mo_bf (mo_bf (mo_bf (mo_bf (mo_bf mo_gr mo_no) (mo_bf mo_ld mo_no)) (mo_bf mo_push mo_no)) (mo_bf (mo_bf (mo_bf mo_gr mo_no) (mo_bf mo_ld mo_no)) (mo_bf mo_push mo_no))) (mo_bf (mo_bf (mo_bf (mo_bf mo_gr mo_no) (mo_bf mo_ld mo_no)) (mo_bf mo_rr mo_no)) (mo_bf (mo_bf (mo_bf mo_push mo_no) (mo_bf mo_if mo_no)) (mo_bf mo_cv mo_no))))) (mo_bf (mo_bf (mo_bf (mo_bf (mo_bf (mo_bf mo_ld mo_no) (mo_bf mo_ld mo_no)) (mo_bf mo_nul mo_no)) (mo_bf (mo_bf (mo_bf mo_ld mo_no) (mo_bf mo_cv mo_no)) (mo_bf mo_ld mo_no))) (mo_bf (mo_bf (mo_bf (mo_bf mo_ld mo_no) (mo_bf mo_ld mo_no)) (mo_bf mo_st mo_no)) (mo_bf (mo_bf (mo_bf mo_i2 mo_no) (mo_bf mo_i2 mo_no)) (mo_bf mo_push mo_no)))) (mo_bf (mo_bf (mo_bf (mo_bf (mo_bf mo_cv mo_no) (mo_bf mo_ld mo_no)) (mo_bf mo_gr mo_no)) (mo_bf (mo_bf (mo_bf mo_ld mo_no) (mo_bf mo_cv mo_no)) (mo_bf mo_gr mo_no))) (mo_bf (mo_bf (mo_bf (mo_bf mo_ld mo_no) (mo_bf mo_st mo_no)) (mo_bf mo_cv mo_no)) (mo_bf (mo_bf (mo_bf mo_ld mo_no) (mo_bf mo_gr mo_no)) (mo_bf mo_ld mo_no)))))))
theorem ok_X2_keepMend_0 : ok_S 20 0 (sf_ld 2 0 1) := ok_aload_n (by decide +kernel : decode (mb_ 20) 0 = .ok (.aload_n 0, 1)) rfl
theorem ok_X2_keepMend_1 : ok_S 20 1 (sf_ld 0 1 2) := ok_iload_n (by decide +kernel : decode (mb_ 20) 1 = .ok (.iload_n 1, 1)) rfl
theorem ok_X2_keepMend_2 : ok_S 20 2 (sf_pi 9 9 2 5) := ok_pi fd_9_2 (by decide +kernel : decode (mb_ 20) 2 = .ok (.putfield 22, 3)) tw_86 rfl (Or.inl ff_9_2) rfl
theorem ok_X2_keepMend_5 : ok_S 20 5 (sf_ld 2 0 6) := ok_aload_n (by decide +kernel : decode (mb_ 20) 5 = .ok (.aload_n 0, 1)) rfl
theorem ok_X2_keepMend_6 : ok_S 20 6 (sf_ld 0 2 7) := ok_iload_n (by decide +kernel : decode (mb_ 20) 6 = .ok (.iload_n 2, 1)) rfl
theorem ok_X2_keepMend_7 : ok_S 20 7 (sf_pi 9 9 3 10) := ok_pi fd_9_3 (by decide +kernel : decode (mb_ 20) 7 = .ok (.putfield 26, 3)) tw_88 rfl (Or.inl ff_9_3) rfl
theorem ok_X2_keepMend_10 : ok_S 20 10 (sf_ld 2 0 11) := ok_aload_n (by decide +kernel : decode (mb_ 20) 10 = .ok (.aload_n 0, 1)) rfl
theorem ok_X2_keepMend_11 : ok_S 20 11 (sf_ld 0 3 12) := ok_iload_n (by decide +kernel : decode (mb_ 20) 11 = .ok (.iload_n 3, 1)) rfl
theorem ok_X2_keepMend_12 : ok_S 20 12 (sf_pi 9 9 4 15) := ok_pi fd_9_4 (by decide +kernel : decode (mb_ 20) 12 = .ok (.putfield 29, 3)) tw_90 rfl (Or.inl ff_9_4) rfl
theorem ok_X2_keepMend_15 : ok_S 20 15 (sf_retv) := ok_retv (by decide +kernel : decode (mb_ 20) 15 = .ok (.return_, 1)) rfl
theorem ok_X2_keepMend (pc : Nat) : ok_S 20 pc (cd_X2_keepMend pc) :=
  (ok_bf (ok_bf (ok_bf (ok_bf (ok_lf pc ok_X2_keepMend_15) (ok_lf pc ok_X2_keepMend_12)) (ok_lf pc ok_X2_keepMend_11)) (ok_bf (ok_lf pc ok_X2_keepMend_10) (ok_lf pc ok_X2_keepMend_7))) (ok_bf (ok_bf (ok_bf (ok_lf pc ok_X2_keepMend_6) (ok_lf pc ok_X2_keepMend_5)) (ok_lf pc ok_X2_keepMend_2)) (ok_bf (ok_lf pc ok_X2_keepMend_1) (ok_lf pc ok_X2_keepMend_0))))
theorem mo_X2_keepMend (pc : Nat) : mo_S (cd_X2_keepMend pc) :=
  (mo_bf (mo_bf (mo_bf (mo_bf (mo_bf mo_retv mo_no) (mo_bf mo_pi mo_no)) (mo_bf mo_ld mo_no)) (mo_bf (mo_bf mo_ld mo_no) (mo_bf mo_pi mo_no))) (mo_bf (mo_bf (mo_bf (mo_bf mo_ld mo_no) (mo_bf mo_ld mo_no)) (mo_bf mo_pi mo_no)) (mo_bf (mo_bf mo_ld mo_no) (mo_bf mo_ld mo_no))))
theorem ok_X2_fitsAgain_0 : ok_S 21 0 (sf_ld 2 1 1) := ok_aload_n (by decide +kernel : decode (mb_ 21) 0 = .ok (.aload_n 1, 1)) rfl
theorem ok_X2_fitsAgain_1 : ok_S 21 1 (sf_ci 1 6 [2] 45 4) := ok_cu1 (x := ⟨"RoomNumbers$Note", "basesItCanBeIn", "()I"⟩) (ow := "RoomNumbers$Note") ⟨tw_708, tw_641, tw_639, ⟨_, _, _, tw_647⟩, mh_ok rfl, (by decide +kernel)⟩ (by
    intro t h1 h2
    rcases (by omega : t = 1 ∨ t = 2 ∨ t = 3 ∨ t = 4 ∨ t = 5 ∨ t = 6) with e | e | e | e | e | e <;> subst e
    · exact ⟨"RoomNumbers$Note", cl_1, mt_45, tw_640, tw_639, tw_14, by decide, by decide⟩
    · exact ⟨"RoomNumbers$Strokes", cl_2, mt_45, tw_645, tw_639, tw_14, by decide, by decide⟩
    · exact ⟨"RoomNumbers$Broken", cl_3, mt_45, tw_642, tw_639, tw_14, by decide, by decide⟩
    · exact ⟨"RoomNumbers$Left", cl_4, mt_45, tw_644, tw_639, tw_14, by decide, by decide⟩
    · exact ⟨"RoomNumbers$Turned", cl_5, mt_45, tw_646, tw_639, tw_14, by decide, by decide⟩
    · exact ⟨"RoomNumbers$Debt", cl_6, mt_45, tw_643, tw_639, tw_14, by decide, by decide⟩) mt_45 (by decide) (by decide +kernel : decode (mb_ 21) 1 = .ok (.invokevirtual 136, 3)) rfl
theorem ok_X2_fitsAgain_4 : ok_S 21 4 (sf_st 0 2 5) := ok_istore_n (by decide +kernel : decode (mb_ 21) 4 = .ok (.istore_n 2, 1)) rfl
theorem ok_X2_fitsAgain_5 : ok_S 21 5 (sf_ld 2 0 6) := ok_aload_n (by decide +kernel : decode (mb_ 21) 5 = .ok (.aload_n 0, 1)) rfl
theorem ok_X2_fitsAgain_6 : ok_S 21 6 (sf_gr 9 9 10 9) := ok_gr fd_9_10 (by decide +kernel : decode (mb_ 21) 6 = .ok (.getfield 47, 3)) tw_97 (Or.inl rfl) rfl
theorem ok_X2_fitsAgain_9 : ok_S 21 9 (sf_ld 2 1 10) := ok_aload_n (by decide +kernel : decode (mb_ 21) 9 = .ok (.aload_n 1, 1)) rfl
theorem ok_X2_fitsAgain_10 : ok_S 21 10 (sf_gi 1 6 3 13) := ok_gi fd_1_3 (by decide +kernel : decode (mb_ 21) 10 = .ok (.getfield 139, 3)) tw_428 (Or.inl rfl) rfl
theorem ok_X2_fitsAgain_13 : ok_S 21 13 (sf_iald 14) := ok_iald (by decide +kernel : decode (mb_ 21) 13 = .ok (.iaload, 1))
theorem ok_X2_fitsAgain_14 : ok_S 21 14 (sf_ld 0 2 15) := ok_iload_n (by decide +kernel : decode (mb_ 21) 14 = .ok (.iload_n 2, 1)) rfl
theorem ok_X2_fitsAgain_15 : ok_S 21 15 (sf_i2 mx_and 16) := ok_iand (by decide +kernel : decode (mb_ 21) 15 = .ok (.iand, 1))
theorem ok_X2_fitsAgain_16 : ok_S 21 16 (sf_if 1 21 19) := ok_if1 (by decide +kernel : decode (mb_ 21) 16 = .ok (.ifCond .ne 5, 3)) (by decide)
theorem ok_X2_fitsAgain_19 : ok_S 21 19 (sf_push (0, 0) 20) := ok_iconst (by decide +kernel : decode (mb_ 21) 19 = .ok (.iconst 0, 1)) ⟨by decide, by decide⟩
theorem ok_X2_fitsAgain_20 : ok_S 21 20 (sf_rr 0 1) := ok_rr (by decide +kernel : decode (mb_ 21) 20 = .ok (.ireturn, 1)) rfl (so_nz .boolean rfl rfl)
theorem ok_X2_fitsAgain_21 : ok_S 21 21 (sf_ld 2 0 22) := ok_aload_n (by decide +kernel : decode (mb_ 21) 21 = .ok (.aload_n 0, 1)) rfl
theorem ok_X2_fitsAgain_22 : ok_S 21 22 (sf_ld 2 1 23) := ok_aload_n (by decide +kernel : decode (mb_ 21) 22 = .ok (.aload_n 1, 1)) rfl
theorem ok_X2_fitsAgain_23 : ok_S 21 23 (sf_cv 9 [2, 2] 24 26) := ok_cv mt_24 cl_9 (by decide +kernel : decode (mb_ 21) 23 = .ok (.invokevirtual 132, 3)) tw_704 tw_706 ts_13 tw_2 rfl (by decide +kernel) (mh_ok rfl) (by decide) (by decide)
theorem ok_X2_fitsAgain_26 : ok_S 21 26 (sf_ld 2 0 27) := ok_aload_n (by decide +kernel : decode (mb_ 21) 26 = .ok (.aload_n 0, 1)) rfl
theorem ok_X2_fitsAgain_27 : ok_S 21 27 (sf_gr 9 9 10 30) := ok_gr fd_9_10 (by decide +kernel : decode (mb_ 21) 27 = .ok (.getfield 47, 3)) tw_97 (Or.inl rfl) rfl
theorem ok_X2_fitsAgain_30 : ok_S 21 30 (sf_push (0, 0) 31) := ok_iconst (by decide +kernel : decode (mb_ 21) 30 = .ok (.iconst 0, 1)) ⟨by decide, by decide⟩
theorem ok_X2_fitsAgain_31 : ok_S 21 31 (sf_ld 2 0 32) := ok_aload_n (by decide +kernel : decode (mb_ 21) 31 = .ok (.aload_n 0, 1)) rfl
theorem ok_X2_fitsAgain_32 : ok_S 21 32 (sf_gr 9 9 9 35) := ok_gr fd_9_9 (by decide +kernel : decode (mb_ 21) 32 = .ok (.getfield 44, 3)) tw_96 (Or.inl rfl) rfl
theorem ok_X2_fitsAgain_35 : ok_S 21 35 (sf_push (0, 0) 36) := ok_iconst (by decide +kernel : decode (mb_ 21) 35 = .ok (.iconst 0, 1)) ⟨by decide, by decide⟩
theorem ok_X2_fitsAgain_36 : ok_S 21 36 (sf_ld 2 0 37) := ok_aload_n (by decide +kernel : decode (mb_ 21) 36 = .ok (.aload_n 0, 1)) rfl
theorem ok_X2_fitsAgain_37 : ok_S 21 37 (sf_gr 9 9 9 40) := ok_gr fd_9_9 (by decide +kernel : decode (mb_ 21) 37 = .ok (.getfield 44, 3)) tw_96 (Or.inl rfl) rfl
theorem ok_X2_fitsAgain_40 : ok_S 21 40 (sf_alen 41) := ok_alen (by decide +kernel : decode (mb_ 21) 40 = .ok (.arraylength, 1))
theorem ok_X2_fitsAgain_41 : ok_S 21 41 (sf_copy 44) := ok_copy (by decide +kernel : decode (mb_ 21) 41 = .ok (.invokestatic 113, 3)) tw_828 tw_383 tw_382 tw_13
theorem ok_X2_fitsAgain_44 : ok_S 21 44 (sf_ld 2 0 45) := ok_aload_n (by decide +kernel : decode (mb_ 21) 44 = .ok (.aload_n 0, 1)) rfl
theorem ok_X2_fitsAgain_45 : ok_S 21 45 (sf_gr 9 9 9 48) := ok_gr fd_9_9 (by decide +kernel : decode (mb_ 21) 45 = .ok (.getfield 44, 3)) tw_96 (Or.inl rfl) rfl
theorem ok_X2_fitsAgain_48 : ok_S 21 48 (sf_ld 2 1 49) := ok_aload_n (by decide +kernel : decode (mb_ 21) 48 = .ok (.aload_n 1, 1)) rfl
theorem ok_X2_fitsAgain_49 : ok_S 21 49 (sf_gi 1 6 3 52) := ok_gi fd_1_3 (by decide +kernel : decode (mb_ 21) 49 = .ok (.getfield 139, 3)) tw_428 (Or.inl rfl) rfl
theorem ok_X2_fitsAgain_52 : ok_S 21 52 (sf_dup2 53) := ok_dup2 (by decide +kernel : decode (mb_ 21) 52 = .ok (.dup2, 1))
theorem ok_X2_fitsAgain_53 : ok_S 21 53 (sf_iald 54) := ok_iald (by decide +kernel : decode (mb_ 21) 53 = .ok (.iaload, 1))
theorem ok_X2_fitsAgain_54 : ok_S 21 54 (sf_ld 0 2 55) := ok_iload_n (by decide +kernel : decode (mb_ 21) 54 = .ok (.iload_n 2, 1)) rfl
theorem ok_X2_fitsAgain_55 : ok_S 21 55 (sf_i2 mx_and 56) := ok_iand (by decide +kernel : decode (mb_ 21) 55 = .ok (.iand, 1))
theorem ok_X2_fitsAgain_56 : ok_S 21 56 (sf_iast 57) := ok_iast (by decide +kernel : decode (mb_ 21) 56 = .ok (.iastore, 1))
theorem ok_X2_fitsAgain_57 : ok_S 21 57 (sf_ld 2 0 58) := ok_aload_n (by decide +kernel : decode (mb_ 21) 57 = .ok (.aload_n 0, 1)) rfl
theorem ok_X2_fitsAgain_58 : ok_S 21 58 (sf_gr 9 9 0 61) := ok_gr fd_9_0 (by decide +kernel : decode (mb_ 21) 58 = .ok (.getfield 12, 3)) tw_82 (Or.inl rfl) rfl
theorem ok_X2_fitsAgain_61 : ok_S 21 61 (sf_ld 2 1 62) := ok_aload_n (by decide +kernel : decode (mb_ 21) 61 = .ok (.aload_n 1, 1)) rfl
theorem ok_X2_fitsAgain_62 : ok_S 21 62 (sf_gi 1 6 0 65) := ok_gi fd_1_0 (by decide +kernel : decode (mb_ 21) 62 = .ok (.getfield 142, 3)) tw_404 (Or.inl rfl) rfl
theorem ok_X2_fitsAgain_65 : ok_S 21 65 (sf_cv 8 [2, 0] 96 68) := ok_cv mt_96 cl_8 (by decide +kernel : decode (mb_ 21) 65 = .ok (.invokevirtual 103, 3)) tw_824 tw_825 tw_826 tw_3 rfl (by decide +kernel) (mh_ok rfl) (by decide) (by decide)
theorem ok_X2_fitsAgain_68 : ok_S 21 68 (sf_st 0 3 69) := ok_istore_n (by decide +kernel : decode (mb_ 21) 68 = .ok (.istore_n 3, 1)) rfl
theorem ok_X2_fitsAgain_69 : ok_S 21 69 (sf_push (0, 0) 70) := ok_iconst (by decide +kernel : decode (mb_ 21) 69 = .ok (.iconst 0, 1)) ⟨by decide, by decide⟩
theorem ok_X2_fitsAgain_70 : ok_S 21 70 (sf_st 0 4 72) := ok_istore (by decide +kernel : decode (mb_ 21) 70 = .ok (.istore 4, 2))
theorem ok_X2_fitsAgain_72 : ok_S 21 72 (sf_ld 0 4 74) := ok_iload (by decide +kernel : decode (mb_ 21) 72 = .ok (.iload 4, 2))
theorem ok_X2_fitsAgain_74 : ok_S 21 74 (sf_ld 2 0 75) := ok_aload_n (by decide +kernel : decode (mb_ 21) 74 = .ok (.aload_n 0, 1)) rfl
theorem ok_X2_fitsAgain_75 : ok_S 21 75 (sf_gr 9 9 0 78) := ok_gr fd_9_0 (by decide +kernel : decode (mb_ 21) 75 = .ok (.getfield 12, 3)) tw_82 (Or.inl rfl) rfl
theorem ok_X2_fitsAgain_78 : ok_S 21 78 (sf_gi 8 8 4 81) := ok_gi fd_8_4 (by decide +kernel : decode (mb_ 21) 78 = .ok (.getfield 145, 3)) tw_60 (Or.inl rfl) rfl
theorem ok_X2_fitsAgain_81 : ok_S 21 81 (sf_ic 3 105 84) := ok_ic3 (by decide +kernel : decode (mb_ 21) 81 = .ok (.if_icmp .ge 24, 3)) (by decide)
theorem ok_X2_fitsAgain_84 : ok_S 21 84 (sf_ld 0 3 85) := ok_iload_n (by decide +kernel : decode (mb_ 21) 84 = .ok (.iload_n 3, 1)) rfl
theorem ok_X2_fitsAgain_85 : ok_S 21 85 (sf_ld 0 4 87) := ok_iload (by decide +kernel : decode (mb_ 21) 85 = .ok (.iload 4, 2))
theorem ok_X2_fitsAgain_87 : ok_S 21 87 (sf_i2 mx_shr 88) := ok_ishr (by decide +kernel : decode (mb_ 21) 87 = .ok (.ishr, 1))
theorem ok_X2_fitsAgain_88 : ok_S 21 88 (sf_push (0, 1) 89) := ok_iconst (by decide +kernel : decode (mb_ 21) 88 = .ok (.iconst 1, 1)) ⟨by decide, by decide⟩
theorem ok_X2_fitsAgain_89 : ok_S 21 89 (sf_i2 mx_and 90) := ok_iand (by decide +kernel : decode (mb_ 21) 89 = .ok (.iand, 1))
theorem ok_X2_fitsAgain_90 : ok_S 21 90 (sf_if 0 99 93) := ok_if0 (by decide +kernel : decode (mb_ 21) 90 = .ok (.ifCond .eq 9, 3)) (by decide)
theorem ok_X2_fitsAgain_93 : ok_S 21 93 (sf_ld 2 0 94) := ok_aload_n (by decide +kernel : decode (mb_ 21) 93 = .ok (.aload_n 0, 1)) rfl
theorem ok_X2_fitsAgain_94 : ok_S 21 94 (sf_ld 0 4 96) := ok_iload (by decide +kernel : decode (mb_ 21) 94 = .ok (.iload 4, 2))
theorem ok_X2_fitsAgain_96 : ok_S 21 96 (sf_cv 9 [2, 0] 27 99) := ok_cv mt_27 cl_9 (by decide +kernel : decode (mb_ 21) 96 = .ok (.invokevirtual 148, 3)) tw_728 tw_730 ts_16 tw_2 rfl (by decide +kernel) (mh_ok rfl) (by decide) (by decide)
theorem ok_X2_fitsAgain_99 : ok_S 21 99 (sf_inc 4 1 102) := ok_iinc (by decide +kernel : decode (mb_ 21) 99 = .ok (.iinc 4 1, 3))
theorem ok_X2_fitsAgain_102 : ok_S 21 102 (sf_go 72) := ok_goto (by decide +kernel : decode (mb_ 21) 102 = .ok (.goto (-30), 3)) (by decide)
theorem ok_X2_fitsAgain_105 : ok_S 21 105 (sf_ld 2 0 106) := ok_aload_n (by decide +kernel : decode (mb_ 21) 105 = .ok (.aload_n 0, 1)) rfl
theorem ok_X2_fitsAgain_106 : ok_S 21 106 (sf_ld 2 0 107) := ok_aload_n (by decide +kernel : decode (mb_ 21) 106 = .ok (.aload_n 0, 1)) rfl
theorem ok_X2_fitsAgain_107 : ok_S 21 107 (sf_gr 9 9 0 110) := ok_gr fd_9_0 (by decide +kernel : decode (mb_ 21) 107 = .ok (.getfield 12, 3)) tw_82 (Or.inl rfl) rfl
theorem ok_X2_fitsAgain_110 : ok_S 21 110 (sf_cv 8 [2] 97 113) := ok_cv mt_97 cl_8 (by decide +kernel : decode (mb_ 21) 110 = .ok (.invokevirtual 81, 3)) tw_714 tw_715 tw_716 tw_3 rfl (by decide +kernel) (mh_ok rfl) (by decide) (by decide)
theorem ok_X2_fitsAgain_113 : ok_S 21 113 (sf_cv 9 [2, 0] 30 116) := ok_cv mt_30 cl_9 (by decide +kernel : decode (mb_ 21) 113 = .ok (.invokevirtual 110, 3)) tw_808 tw_810 ts_22 tw_2 rfl (by decide +kernel) (mh_ok rfl) (by decide) (by decide)
theorem ok_X2_fitsAgain_116 : ok_S 21 116 (sf_rr 0 1) := ok_rr (by decide +kernel : decode (mb_ 21) 116 = .ok (.ireturn, 1)) rfl (so_nz .boolean rfl rfl)
theorem ok_X2_fitsAgain (pc : Nat) : ok_S 21 pc (cd_X2_fitsAgain pc) :=
  (ok_bf (ok_bf (ok_bf (ok_bf (ok_bf (ok_bf (ok_bf (ok_lf pc ok_X2_fitsAgain_116) (ok_lf pc ok_X2_fitsAgain_113)) (ok_lf pc ok_X2_fitsAgain_110)) (ok_bf (ok_lf pc ok_X2_fitsAgain_107) (ok_lf pc ok_X2_fitsAgain_106))) (ok_bf (ok_bf (ok_lf pc ok_X2_fitsAgain_105) (ok_lf pc ok_X2_fitsAgain_102)) (ok_bf (ok_lf pc ok_X2_fitsAgain_99) (ok_lf pc ok_X2_fitsAgain_96)))) (ok_bf (ok_bf (ok_bf (ok_lf pc ok_X2_fitsAgain_94) (ok_lf pc ok_X2_fitsAgain_93)) (ok_bf (ok_lf pc ok_X2_fitsAgain_90) (ok_lf pc ok_X2_fitsAgain_89))) (ok_bf (ok_bf (ok_lf pc ok_X2_fitsAgain_88) (ok_lf pc ok_X2_fitsAgain_87)) (ok_bf (ok_lf pc ok_X2_fitsAgain_85) (ok_lf pc ok_X2_fitsAgain_84))))) (ok_bf (ok_bf (ok_bf (ok_bf (ok_lf pc ok_X2_fitsAgain_81) (ok_lf pc ok_X2_fitsAgain_78)) (ok_bf (ok_lf pc ok_X2_fitsAgain_75) (ok_lf pc ok_X2_fitsAgain_74))) (ok_bf (ok_bf (ok_lf pc ok_X2_fitsAgain_72) (ok_lf pc ok_X2_fitsAgain_70)) (ok_bf (ok_lf pc ok_X2_fitsAgain_69) (ok_lf pc ok_X2_fitsAgain_68)))) (ok_bf (ok_bf (ok_bf (ok_lf pc ok_X2_fitsAgain_65) (ok_lf pc ok_X2_fitsAgain_62)) (ok_bf (ok_lf pc ok_X2_fitsAgain_61) (ok_lf pc ok_X2_fitsAgain_58))) (ok_bf (ok_bf (ok_lf pc ok_X2_fitsAgain_57) (ok_lf pc ok_X2_fitsAgain_56)) (ok_bf (ok_lf pc ok_X2_fitsAgain_55) (ok_lf pc ok_X2_fitsAgain_54)))))) (ok_bf (ok_bf (ok_bf (ok_bf (ok_bf (ok_lf pc ok_X2_fitsAgain_53) (ok_lf pc ok_X2_fitsAgain_52)) (ok_bf (ok_lf pc ok_X2_fitsAgain_49) (ok_lf pc ok_X2_fitsAgain_48))) (ok_bf (ok_bf (ok_lf pc ok_X2_fitsAgain_45) (ok_lf pc ok_X2_fitsAgain_44)) (ok_bf (ok_lf pc ok_X2_fitsAgain_41) (ok_lf pc ok_X2_fitsAgain_40)))) (ok_bf (ok_bf (ok_bf (ok_lf pc ok_X2_fitsAgain_37) (ok_lf pc ok_X2_fitsAgain_36)) (ok_bf (ok_lf pc ok_X2_fitsAgain_35) (ok_lf pc ok_X2_fitsAgain_32))) (ok_bf (ok_bf (ok_lf pc ok_X2_fitsAgain_31) (ok_lf pc ok_X2_fitsAgain_30)) (ok_bf (ok_lf pc ok_X2_fitsAgain_27) (ok_lf pc ok_X2_fitsAgain_26))))) (ok_bf (ok_bf (ok_bf (ok_bf (ok_lf pc ok_X2_fitsAgain_23) (ok_lf pc ok_X2_fitsAgain_22)) (ok_bf (ok_lf pc ok_X2_fitsAgain_21) (ok_lf pc ok_X2_fitsAgain_20))) (ok_bf (ok_bf (ok_lf pc ok_X2_fitsAgain_19) (ok_lf pc ok_X2_fitsAgain_16)) (ok_bf (ok_lf pc ok_X2_fitsAgain_15) (ok_lf pc ok_X2_fitsAgain_14)))) (ok_bf (ok_bf (ok_bf (ok_lf pc ok_X2_fitsAgain_13) (ok_lf pc ok_X2_fitsAgain_10)) (ok_bf (ok_lf pc ok_X2_fitsAgain_9) (ok_lf pc ok_X2_fitsAgain_6))) (ok_bf (ok_bf (ok_lf pc ok_X2_fitsAgain_5) (ok_lf pc ok_X2_fitsAgain_4)) (ok_bf (ok_lf pc ok_X2_fitsAgain_1) (ok_lf pc ok_X2_fitsAgain_0)))))))
theorem mo_X2_fitsAgain (pc : Nat) : mo_S (cd_X2_fitsAgain pc) :=
  (mo_bf (mo_bf (mo_bf (mo_bf (mo_bf (mo_bf (mo_bf (mo_bf mo_rr mo_no) (mo_bf mo_cv mo_no)) (mo_bf mo_cv mo_no)) (mo_bf (mo_bf mo_gr mo_no) (mo_bf mo_ld mo_no))) (mo_bf (mo_bf (mo_bf mo_ld mo_no) (mo_bf mo_go mo_no)) (mo_bf (mo_bf mo_inc mo_no) (mo_bf mo_cv mo_no)))) (mo_bf (mo_bf (mo_bf (mo_bf mo_ld mo_no) (mo_bf mo_ld mo_no)) (mo_bf (mo_bf mo_if mo_no) (mo_bf mo_i2 mo_no))) (mo_bf (mo_bf (mo_bf mo_push mo_no) (mo_bf mo_i2 mo_no)) (mo_bf (mo_bf mo_ld mo_no) (mo_bf mo_ld mo_no))))) (mo_bf (mo_bf (mo_bf (mo_bf (mo_bf mo_ic mo_no) (mo_bf mo_gi mo_no)) (mo_bf (mo_bf mo_gr mo_no) (mo_bf mo_ld mo_no))) (mo_bf (mo_bf (mo_bf mo_ld mo_no) (mo_bf mo_st mo_no)) (mo_bf (mo_bf mo_push mo_no) (mo_bf mo_st mo_no)))) (mo_bf (mo_bf (mo_bf (mo_bf mo_cv mo_no) (mo_bf mo_gi mo_no)) (mo_bf (mo_bf mo_ld mo_no) (mo_bf mo_gr mo_no))) (mo_bf (mo_bf (mo_bf mo_ld mo_no) (mo_bf mo_iast mo_no)) (mo_bf (mo_bf mo_i2 mo_no) (mo_bf mo_ld mo_no)))))) (mo_bf (mo_bf (mo_bf (mo_bf (mo_bf (mo_bf mo_iald mo_no) (mo_bf mo_dup2 mo_no)) (mo_bf (mo_bf mo_gi mo_no) (mo_bf mo_ld mo_no))) (mo_bf (mo_bf (mo_bf mo_gr mo_no) (mo_bf mo_ld mo_no)) (mo_bf (mo_bf mo_copy mo_no) (mo_bf mo_alen mo_no)))) (mo_bf (mo_bf (mo_bf (mo_bf mo_gr mo_no) (mo_bf mo_ld mo_no)) (mo_bf (mo_bf mo_push mo_no) (mo_bf mo_gr mo_no))) (mo_bf (mo_bf (mo_bf mo_ld mo_no) (mo_bf mo_push mo_no)) (mo_bf (mo_bf mo_gr mo_no) (mo_bf mo_ld mo_no))))) (mo_bf (mo_bf (mo_bf (mo_bf (mo_bf mo_cv mo_no) (mo_bf mo_ld mo_no)) (mo_bf (mo_bf mo_ld mo_no) (mo_bf mo_rr mo_no))) (mo_bf (mo_bf (mo_bf mo_push mo_no) (mo_bf mo_if mo_no)) (mo_bf (mo_bf mo_i2 mo_no) (mo_bf mo_ld mo_no)))) (mo_bf (mo_bf (mo_bf (mo_bf mo_iald mo_no) (mo_bf mo_gi mo_no)) (mo_bf (mo_bf mo_ld mo_no) (mo_bf mo_gr mo_no))) (mo_bf (mo_bf (mo_bf mo_ld mo_no) (mo_bf mo_st mo_no)) (mo_bf (mo_bf mo_ci mo_no) (mo_bf mo_ld mo_no)))))))
theorem ok_X2_refresh_0 : ok_S 22 0 (sf_ld 2 0 1) := ok_aload_n (by decide +kernel : decode (mb_ 22) 0 = .ok (.aload_n 0, 1)) rfl
theorem ok_X2_refresh_1 : ok_S 22 1 (sf_gi 9 9 14 4) := ok_gi fd_9_14 (by decide +kernel : decode (mb_ 22) 1 = .ok (.getfield 59, 3)) tw_101 (Or.inl rfl) rfl
theorem ok_X2_refresh_4 : ok_S 22 4 (sf_ld 2 0 5) := ok_aload_n (by decide +kernel : decode (mb_ 22) 4 = .ok (.aload_n 0, 1)) rfl
theorem ok_X2_refresh_5 : ok_S 22 5 (sf_gr 9 9 0 8) := ok_gr fd_9_0 (by decide +kernel : decode (mb_ 22) 5 = .ok (.getfield 12, 3)) tw_82 (Or.inl rfl) rfl
theorem ok_X2_refresh_8 : ok_S 22 8 (sf_gi 8 8 5 11) := ok_gi fd_8_5 (by decide +kernel : decode (mb_ 22) 8 = .ok (.getfield 92, 3)) tw_63 (Or.inl rfl) rfl
theorem ok_X2_refresh_11 : ok_S 22 11 (sf_ic 1 15 14) := ok_ic1 (by decide +kernel : decode (mb_ 22) 11 = .ok (.if_icmp .ne 4, 3)) (by decide)
theorem ok_X2_refresh_14 : ok_S 22 14 (sf_retv) := ok_retv (by decide +kernel : decode (mb_ 22) 14 = .ok (.return_, 1)) rfl
theorem ok_X2_refresh_15 : ok_S 22 15 (sf_ld 2 0 16) := ok_aload_n (by decide +kernel : decode (mb_ 22) 15 = .ok (.aload_n 0, 1)) rfl
theorem ok_X2_refresh_16 : ok_S 22 16 (sf_ld 2 0 17) := ok_aload_n (by decide +kernel : decode (mb_ 22) 16 = .ok (.aload_n 0, 1)) rfl
theorem ok_X2_refresh_17 : ok_S 22 17 (sf_gr 9 9 0 20) := ok_gr fd_9_0 (by decide +kernel : decode (mb_ 22) 17 = .ok (.getfield 12, 3)) tw_82 (Or.inl rfl) rfl
theorem ok_X2_refresh_20 : ok_S 22 20 (sf_gi 8 8 5 23) := ok_gi fd_8_5 (by decide +kernel : decode (mb_ 22) 20 = .ok (.getfield 92, 3)) tw_63 (Or.inl rfl) rfl
theorem ok_X2_refresh_23 : ok_S 22 23 (sf_pi 9 9 14 26) := ok_pi fd_9_14 (by decide +kernel : decode (mb_ 22) 23 = .ok (.putfield 59, 3)) tw_101 rfl (Or.inl ff_9_14) rfl
theorem ok_X2_refresh_26 : ok_S 22 26 (sf_ld 2 0 27) := ok_aload_n (by decide +kernel : decode (mb_ 22) 26 = .ok (.aload_n 0, 1)) rfl
theorem ok_X2_refresh_27 : ok_S 22 27 (sf_cv 9 [2] 23 30) := ok_cv mt_23 cl_9 (by decide +kernel : decode (mb_ 22) 27 = .ok (.invokevirtual 78, 3)) tw_699 tw_701 ts_12 tw_2 rfl (by decide +kernel) (mh_ok rfl) (by decide) (by decide)
theorem ok_X2_refresh_30 : ok_S 22 30 (sf_ld 2 0 31) := ok_aload_n (by decide +kernel : decode (mb_ 22) 30 = .ok (.aload_n 0, 1)) rfl
theorem ok_X2_refresh_31 : ok_S 22 31 (sf_ld 2 0 32) := ok_aload_n (by decide +kernel : decode (mb_ 22) 31 = .ok (.aload_n 0, 1)) rfl
theorem ok_X2_refresh_32 : ok_S 22 32 (sf_gr 9 9 0 35) := ok_gr fd_9_0 (by decide +kernel : decode (mb_ 22) 32 = .ok (.getfield 12, 3)) tw_82 (Or.inl rfl) rfl
theorem ok_X2_refresh_35 : ok_S 22 35 (sf_cv 8 [2] 97 38) := ok_cv mt_97 cl_8 (by decide +kernel : decode (mb_ 22) 35 = .ok (.invokevirtual 81, 3)) tw_714 tw_715 tw_716 tw_3 rfl (by decide +kernel) (mh_ok rfl) (by decide) (by decide)
theorem ok_X2_refresh_38 : ok_S 22 38 (sf_push (0, (-1)) 39) := ok_iconst (by decide +kernel : decode (mb_ 22) 38 = .ok (.iconst (-1), 1)) ⟨by decide, by decide⟩
theorem ok_X2_refresh_39 : ok_S 22 39 (sf_cv 9 [2, 0, 0] 26 42) := ok_cv mt_26 cl_9 (by decide +kernel : decode (mb_ 22) 39 = .ok (.invokevirtual 106, 3)) tw_718 tw_720 ts_15 tw_2 rfl (by decide +kernel) (mh_ok rfl) (by decide) (by decide)
theorem ok_X2_refresh_42 : ok_S 22 42 (sf_ld 2 0 43) := ok_aload_n (by decide +kernel : decode (mb_ 22) 42 = .ok (.aload_n 0, 1)) rfl
theorem ok_X2_refresh_43 : ok_S 22 43 (sf_cv 9 [2] 32 46) := ok_cv mt_32 cl_9 (by decide +kernel : decode (mb_ 22) 43 = .ok (.invokevirtual 152, 3)) tw_743 tw_745 ts_18 tw_2 rfl (by decide +kernel) (mh_ok rfl) (by decide) (by decide)
theorem ok_X2_refresh_46 : ok_S 22 46 (sf_retv) := ok_retv (by decide +kernel : decode (mb_ 22) 46 = .ok (.return_, 1)) rfl
theorem ok_X2_refresh (pc : Nat) : ok_S 22 pc (cd_X2_refresh pc) :=
  (ok_bf (ok_bf (ok_bf (ok_bf (ok_bf (ok_lf pc ok_X2_refresh_46) (ok_lf pc ok_X2_refresh_43)) (ok_lf pc ok_X2_refresh_42)) (ok_bf (ok_bf (ok_lf pc ok_X2_refresh_39) (ok_lf pc ok_X2_refresh_38)) (ok_lf pc ok_X2_refresh_35))) (ok_bf (ok_bf (ok_bf (ok_lf pc ok_X2_refresh_32) (ok_lf pc ok_X2_refresh_31)) (ok_lf pc ok_X2_refresh_30)) (ok_bf (ok_bf (ok_lf pc ok_X2_refresh_27) (ok_lf pc ok_X2_refresh_26)) (ok_lf pc ok_X2_refresh_23)))) (ok_bf (ok_bf (ok_bf (ok_bf (ok_lf pc ok_X2_refresh_20) (ok_lf pc ok_X2_refresh_17)) (ok_lf pc ok_X2_refresh_16)) (ok_bf (ok_bf (ok_lf pc ok_X2_refresh_15) (ok_lf pc ok_X2_refresh_14)) (ok_lf pc ok_X2_refresh_11))) (ok_bf (ok_bf (ok_bf (ok_lf pc ok_X2_refresh_8) (ok_lf pc ok_X2_refresh_5)) (ok_lf pc ok_X2_refresh_4)) (ok_bf (ok_lf pc ok_X2_refresh_1) (ok_lf pc ok_X2_refresh_0)))))
theorem mo_X2_refresh (pc : Nat) : mo_S (cd_X2_refresh pc) :=
  (mo_bf (mo_bf (mo_bf (mo_bf (mo_bf (mo_bf mo_retv mo_no) (mo_bf mo_cv mo_no)) (mo_bf mo_ld mo_no)) (mo_bf (mo_bf (mo_bf mo_cv mo_no) (mo_bf mo_push mo_no)) (mo_bf mo_cv mo_no))) (mo_bf (mo_bf (mo_bf (mo_bf mo_gr mo_no) (mo_bf mo_ld mo_no)) (mo_bf mo_ld mo_no)) (mo_bf (mo_bf (mo_bf mo_cv mo_no) (mo_bf mo_ld mo_no)) (mo_bf mo_pi mo_no)))) (mo_bf (mo_bf (mo_bf (mo_bf (mo_bf mo_gi mo_no) (mo_bf mo_gr mo_no)) (mo_bf mo_ld mo_no)) (mo_bf (mo_bf (mo_bf mo_ld mo_no) (mo_bf mo_retv mo_no)) (mo_bf mo_ic mo_no))) (mo_bf (mo_bf (mo_bf (mo_bf mo_gi mo_no) (mo_bf mo_gr mo_no)) (mo_bf mo_ld mo_no)) (mo_bf (mo_bf mo_gi mo_no) (mo_bf mo_ld mo_no)))))
theorem ok_X2_load_0 : ok_S 23 0 (sf_push (0, 0) 1) := ok_iconst (by decide +kernel : decode (mb_ 23) 0 = .ok (.iconst 0, 1)) ⟨by decide, by decide⟩
theorem ok_X2_load_1 : ok_S 23 1 (sf_st 0 1 2) := ok_istore_n (by decide +kernel : decode (mb_ 23) 1 = .ok (.istore_n 1, 1)) rfl
theorem ok_X2_load_2 : ok_S 23 2 (sf_ld 0 1 3) := ok_iload_n (by decide +kernel : decode (mb_ 23) 2 = .ok (.iload_n 1, 1)) rfl
theorem ok_X2_load_3 : ok_S 23 3 (sf_ld 2 0 4) := ok_aload_n (by decide +kernel : decode (mb_ 23) 3 = .ok (.aload_n 0, 1)) rfl
theorem ok_X2_load_4 : ok_S 23 4 (sf_gr 9 9 0 7) := ok_gr fd_9_0 (by decide +kernel : decode (mb_ 23) 4 = .ok (.getfield 12, 3)) tw_82 (Or.inl rfl) rfl
theorem ok_X2_load_7 : ok_S 23 7 (sf_gi 8 8 3 10) := ok_gi fd_8_3 (by decide +kernel : decode (mb_ 23) 7 = .ok (.getfield 93, 3)) tw_57 (Or.inl rfl) rfl
theorem ok_X2_load_10 : ok_S 23 10 (sf_ic 3 37 13) := ok_ic3 (by decide +kernel : decode (mb_ 23) 10 = .ok (.if_icmp .ge 27, 3)) (by decide)
theorem ok_X2_load_13 : ok_S 23 13 (sf_ld 2 0 14) := ok_aload_n (by decide +kernel : decode (mb_ 23) 13 = .ok (.aload_n 0, 1)) rfl
theorem ok_X2_load_14 : ok_S 23 14 (sf_gr 9 9 0 17) := ok_gr fd_9_0 (by decide +kernel : decode (mb_ 23) 14 = .ok (.getfield 12, 3)) tw_82 (Or.inl rfl) rfl
theorem ok_X2_load_17 : ok_S 23 17 (sf_ld 0 1 18) := ok_iload_n (by decide +kernel : decode (mb_ 23) 17 = .ok (.iload_n 1, 1)) rfl
theorem ok_X2_load_18 : ok_S 23 18 (sf_cv 8 [2, 0] 90 21) := ok_cv mt_90 cl_8 (by decide +kernel : decode (mb_ 23) 18 = .ok (.invokevirtual 99, 3)) tw_703 tw_514 tw_515 tw_3 rfl (by decide +kernel) (mh_ok rfl) (by decide) (by decide)
theorem ok_X2_load_21 : ok_S 23 21 (sf_st 2 2 22) := ok_astore_n (by decide +kernel : decode (mb_ 23) 21 = .ok (.astore_n 2, 1)) rfl
theorem ok_X2_load_22 : ok_S 23 22 (sf_ld 2 2 23) := ok_aload_n (by decide +kernel : decode (mb_ 23) 22 = .ok (.aload_n 2, 1)) rfl
theorem ok_X2_load_23 : ok_S 23 23 (sf_nul 31 26) := ok_nul (by decide +kernel : decode (mb_ 23) 23 = .ok (.ifnull 8, 3)) (by decide)
theorem ok_X2_load_26 : ok_S 23 26 (sf_ld 2 0 27) := ok_aload_n (by decide +kernel : decode (mb_ 23) 26 = .ok (.aload_n 0, 1)) rfl
theorem ok_X2_load_27 : ok_S 23 27 (sf_ld 2 2 28) := ok_aload_n (by decide +kernel : decode (mb_ 23) 27 = .ok (.aload_n 2, 1)) rfl
theorem ok_X2_load_28 : ok_S 23 28 (sf_cv 9 [2, 2] 24 31) := ok_cv mt_24 cl_9 (by decide +kernel : decode (mb_ 23) 28 = .ok (.invokevirtual 132, 3)) tw_704 tw_706 ts_13 tw_2 rfl (by decide +kernel) (mh_ok rfl) (by decide) (by decide)
theorem ok_X2_load_31 : ok_S 23 31 (sf_inc 1 1 34) := ok_iinc (by decide +kernel : decode (mb_ 23) 31 = .ok (.iinc 1 1, 3))
theorem ok_X2_load_34 : ok_S 23 34 (sf_go 2) := ok_goto (by decide +kernel : decode (mb_ 23) 34 = .ok (.goto (-32), 3)) (by decide)
theorem ok_X2_load_37 : ok_S 23 37 (sf_ld 2 0 38) := ok_aload_n (by decide +kernel : decode (mb_ 23) 37 = .ok (.aload_n 0, 1)) rfl
theorem ok_X2_load_38 : ok_S 23 38 (sf_cv 9 [2] 25 41) := ok_cv mt_25 cl_9 (by decide +kernel : decode (mb_ 23) 38 = .ok (.invokevirtual 89, 3)) tw_710 tw_712 ts_14 tw_2 rfl (by decide +kernel) (mh_ok rfl) (by decide) (by decide)
theorem ok_X2_load_41 : ok_S 23 41 (sf_retv) := ok_retv (by decide +kernel : decode (mb_ 23) 41 = .ok (.return_, 1)) rfl
theorem ok_X2_load (pc : Nat) : ok_S 23 pc (cd_X2_load pc) :=
  (ok_bf (ok_bf (ok_bf (ok_bf (ok_bf (ok_lf pc ok_X2_load_41) (ok_lf pc ok_X2_load_38)) (ok_lf pc ok_X2_load_37)) (ok_bf (ok_bf (ok_lf pc ok_X2_load_34) (ok_lf pc ok_X2_load_31)) (ok_lf pc ok_X2_load_28))) (ok_bf (ok_bf (ok_bf (ok_lf pc ok_X2_load_27) (ok_lf pc ok_X2_load_26)) (ok_lf pc ok_X2_load_23)) (ok_bf (ok_lf pc ok_X2_load_22) (ok_lf pc ok_X2_load_21)))) (ok_bf (ok_bf (ok_bf (ok_bf (ok_lf pc ok_X2_load_18) (ok_lf pc ok_X2_load_17)) (ok_lf pc ok_X2_load_14)) (ok_bf (ok_bf (ok_lf pc ok_X2_load_13) (ok_lf pc ok_X2_load_10)) (ok_lf pc ok_X2_load_7))) (ok_bf (ok_bf (ok_bf (ok_lf pc ok_X2_load_4) (ok_lf pc ok_X2_load_3)) (ok_lf pc ok_X2_load_2)) (ok_bf (ok_lf pc ok_X2_load_1) (ok_lf pc ok_X2_load_0)))))
theorem mo_X2_load (pc : Nat) : mo_S (cd_X2_load pc) :=
  (mo_bf (mo_bf (mo_bf (mo_bf (mo_bf (mo_bf mo_retv mo_no) (mo_bf mo_cv mo_no)) (mo_bf mo_ld mo_no)) (mo_bf (mo_bf (mo_bf mo_go mo_no) (mo_bf mo_inc mo_no)) (mo_bf mo_cv mo_no))) (mo_bf (mo_bf (mo_bf (mo_bf mo_ld mo_no) (mo_bf mo_ld mo_no)) (mo_bf mo_nul mo_no)) (mo_bf (mo_bf mo_ld mo_no) (mo_bf mo_st mo_no)))) (mo_bf (mo_bf (mo_bf (mo_bf (mo_bf mo_cv mo_no) (mo_bf mo_ld mo_no)) (mo_bf mo_gr mo_no)) (mo_bf (mo_bf (mo_bf mo_ld mo_no) (mo_bf mo_ic mo_no)) (mo_bf mo_gi mo_no))) (mo_bf (mo_bf (mo_bf (mo_bf mo_gr mo_no) (mo_bf mo_ld mo_no)) (mo_bf mo_ld mo_no)) (mo_bf (mo_bf mo_st mo_no) (mo_bf mo_push mo_no)))))
theorem ok_X2_readNote_0 : ok_S 24 0 (sf_ld 2 1 1) := ok_aload_n (by decide +kernel : decode (mb_ 24) 0 = .ok (.aload_n 1, 1)) rfl
theorem ok_X2_readNote_1 : ok_S 24 1 (sf_gi 1 6 0 4) := ok_gi fd_1_0 (by decide +kernel : decode (mb_ 24) 1 = .ok (.getfield 142, 3)) tw_404 (Or.inl rfl) rfl
theorem ok_X2_readNote_4 : ok_S 24 4 (sf_st 0 2 5) := ok_istore_n (by decide +kernel : decode (mb_ 24) 4 = .ok (.istore_n 2, 1)) rfl
theorem ok_X2_readNote_5 : ok_S 24 5 (sf_ld 2 0 6) := ok_aload_n (by decide +kernel : decode (mb_ 24) 5 = .ok (.aload_n 0, 1)) rfl
theorem ok_X2_readNote_6 : ok_S 24 6 (sf_gr 9 9 5 9) := ok_gr fd_9_5 (by decide +kernel : decode (mb_ 24) 6 = .ok (.getfield 32, 3)) tw_92 (Or.inl rfl) rfl
theorem ok_X2_readNote_9 : ok_S 24 9 (sf_ld 0 2 10) := ok_iload_n (by decide +kernel : decode (mb_ 24) 9 = .ok (.iload_n 2, 1)) rfl
theorem ok_X2_readNote_10 : ok_S 24 10 (sf_ld 2 1 11) := ok_aload_n (by decide +kernel : decode (mb_ 24) 10 = .ok (.aload_n 1, 1)) rfl
theorem ok_X2_readNote_11 : ok_S 24 11 (sf_gi 1 6 3 14) := ok_gi fd_1_3 (by decide +kernel : decode (mb_ 24) 11 = .ok (.getfield 139, 3)) tw_428 (Or.inl rfl) rfl
theorem ok_X2_readNote_14 : ok_S 24 14 (sf_iast 15) := ok_iast (by decide +kernel : decode (mb_ 24) 14 = .ok (.iastore, 1))
theorem ok_X2_readNote_15 : ok_S 24 15 (sf_ld 2 0 16) := ok_aload_n (by decide +kernel : decode (mb_ 24) 15 = .ok (.aload_n 0, 1)) rfl
theorem ok_X2_readNote_16 : ok_S 24 16 (sf_gr 9 9 6 19) := ok_gr fd_9_6 (by decide +kernel : decode (mb_ 24) 16 = .ok (.getfield 35, 3)) tw_93 (Or.inl rfl) rfl
theorem ok_X2_readNote_19 : ok_S 24 19 (sf_ld 0 2 20) := ok_iload_n (by decide +kernel : decode (mb_ 24) 19 = .ok (.iload_n 2, 1)) rfl
theorem ok_X2_readNote_20 : ok_S 24 20 (sf_ld 2 1 21) := ok_aload_n (by decide +kernel : decode (mb_ 24) 20 = .ok (.aload_n 1, 1)) rfl
theorem ok_X2_readNote_21 : ok_S 24 21 (sf_ci 1 6 [2] 45 24) := ok_cu1 (x := ⟨"RoomNumbers$Note", "basesItCanBeIn", "()I"⟩) (ow := "RoomNumbers$Note") ⟨tw_708, tw_641, tw_639, ⟨_, _, _, tw_647⟩, mh_ok rfl, (by decide +kernel)⟩ (by
    intro t h1 h2
    rcases (by omega : t = 1 ∨ t = 2 ∨ t = 3 ∨ t = 4 ∨ t = 5 ∨ t = 6) with e | e | e | e | e | e <;> subst e
    · exact ⟨"RoomNumbers$Note", cl_1, mt_45, tw_640, tw_639, tw_14, by decide, by decide⟩
    · exact ⟨"RoomNumbers$Strokes", cl_2, mt_45, tw_645, tw_639, tw_14, by decide, by decide⟩
    · exact ⟨"RoomNumbers$Broken", cl_3, mt_45, tw_642, tw_639, tw_14, by decide, by decide⟩
    · exact ⟨"RoomNumbers$Left", cl_4, mt_45, tw_644, tw_639, tw_14, by decide, by decide⟩
    · exact ⟨"RoomNumbers$Turned", cl_5, mt_45, tw_646, tw_639, tw_14, by decide, by decide⟩
    · exact ⟨"RoomNumbers$Debt", cl_6, mt_45, tw_643, tw_639, tw_14, by decide, by decide⟩) mt_45 (by decide) (by decide +kernel : decode (mb_ 24) 21 = .ok (.invokevirtual 136, 3)) rfl
theorem ok_X2_readNote_24 : ok_S 24 24 (sf_iast 25) := ok_iast (by decide +kernel : decode (mb_ 24) 24 = .ok (.iastore, 1))
theorem ok_X2_readNote_25 : ok_S 24 25 (sf_push (0, 2) 26) := ok_iconst (by decide +kernel : decode (mb_ 24) 25 = .ok (.iconst 2, 1)) ⟨by decide, by decide⟩
theorem ok_X2_readNote_26 : ok_S 24 26 (sf_st 0 3 27) := ok_istore_n (by decide +kernel : decode (mb_ 24) 26 = .ok (.istore_n 3, 1)) rfl
theorem ok_X2_readNote_27 : ok_S 24 27 (sf_ld 0 3 28) := ok_iload_n (by decide +kernel : decode (mb_ 24) 27 = .ok (.iload_n 3, 1)) rfl
theorem ok_X2_readNote_28 : ok_S 24 28 (sf_push (0, 16) 30) := ok_bipush (by decide +kernel : decode (mb_ 24) 28 = .ok (.bipush 16, 2)) ⟨by decide, by decide⟩ (by decide +kernel)
theorem ok_X2_readNote_30 : ok_S 24 30 (sf_ic 4 55 33) := ok_ic4 (by decide +kernel : decode (mb_ 24) 30 = .ok (.if_icmp .gt 25, 3)) (by decide)
theorem ok_X2_readNote_33 : ok_S 24 33 (sf_ld 2 0 34) := ok_aload_n (by decide +kernel : decode (mb_ 24) 33 = .ok (.aload_n 0, 1)) rfl
theorem ok_X2_readNote_34 : ok_S 24 34 (sf_gr 9 9 7 37) := ok_gr fd_9_7 (by decide +kernel : decode (mb_ 24) 34 = .ok (.getfield 38, 3)) tw_94 (Or.inl rfl) rfl
theorem ok_X2_readNote_37 : ok_S 24 37 (sf_ld 0 2 38) := ok_iload_n (by decide +kernel : decode (mb_ 24) 37 = .ok (.iload_n 2, 1)) rfl
theorem ok_X2_readNote_38 : ok_S 24 38 (sf_push (0, 17) 40) := ok_bipush (by decide +kernel : decode (mb_ 24) 38 = .ok (.bipush 17, 2)) ⟨by decide, by decide⟩ (by decide +kernel)
theorem ok_X2_readNote_40 : ok_S 24 40 (sf_i2 mx_mul 41) := ok_imul (by decide +kernel : decode (mb_ 24) 40 = .ok (.imul, 1))
theorem ok_X2_readNote_41 : ok_S 24 41 (sf_ld 0 3 42) := ok_iload_n (by decide +kernel : decode (mb_ 24) 41 = .ok (.iload_n 3, 1)) rfl
theorem ok_X2_readNote_42 : ok_S 24 42 (sf_i2 mx_add 43) := ok_iadd (by decide +kernel : decode (mb_ 24) 42 = .ok (.iadd, 1))
theorem ok_X2_readNote_43 : ok_S 24 43 (sf_ld 2 1 44) := ok_aload_n (by decide +kernel : decode (mb_ 24) 43 = .ok (.aload_n 1, 1)) rfl
theorem ok_X2_readNote_44 : ok_S 24 44 (sf_ld 0 3 45) := ok_iload_n (by decide +kernel : decode (mb_ 24) 44 = .ok (.iload_n 3, 1)) rfl
theorem ok_X2_readNote_45 : ok_S 24 45 (sf_cu [(1, 43), (2, 56), (3, 3), (4, 3), (5, 81), (6, 9)] [2, 0] 48) := ok_cu (x := ⟨"RoomNumbers$Note", "worthBy", "(I)I"⟩) (ow := "RoomNumbers$Note") ⟨tw_709, tw_601, tw_599, ⟨_, _, _, tw_632⟩, mh_ok rfl, (by decide +kernel)⟩ (List.forall_mem_cons.mpr ⟨⟨"RoomNumbers$Note", cl_1, mt_43, tw_600, tw_599, tw_14, by decide, by decide⟩, (List.forall_mem_cons.mpr ⟨⟨"RoomNumbers$Strokes", cl_2, mt_56, tw_628, tw_625, tw_15, by decide, by decide⟩, (List.forall_mem_cons.mpr ⟨⟨"RoomNumbers$Broken", cl_3, mt_3, tw_602, tw_603, tw_16, by decide, by decide⟩, (List.forall_mem_cons.mpr ⟨⟨"RoomNumbers$Left", cl_4, mt_3, tw_627, tw_603, tw_16, by decide, by decide⟩, (List.forall_mem_cons.mpr ⟨⟨"RoomNumbers$Turned", cl_5, mt_81, tw_629, tw_630, tw_18, by decide, by decide⟩, (List.forall_mem_cons.mpr ⟨⟨"RoomNumbers$Debt", cl_6, mt_9, tw_621, tw_622, tw_19, by decide, by decide⟩, (fun _ h => absurd h List.not_mem_nil)⟩)⟩)⟩)⟩)⟩)⟩) (by decide +kernel : decode (mb_ 24) 45 = .ok (.invokevirtual 155, 3)) rfl
theorem ok_X2_readNote_48 : ok_S 24 48 (sf_iast 49) := ok_iast (by decide +kernel : decode (mb_ 24) 48 = .ok (.iastore, 1))
theorem ok_X2_readNote_49 : ok_S 24 49 (sf_inc 3 1 52) := ok_iinc (by decide +kernel : decode (mb_ 24) 49 = .ok (.iinc 3 1, 3))
theorem ok_X2_readNote_52 : ok_S 24 52 (sf_go 27) := ok_goto (by decide +kernel : decode (mb_ 24) 52 = .ok (.goto (-25), 3)) (by decide)
theorem ok_X2_readNote_55 : ok_S 24 55 (sf_retv) := ok_retv (by decide +kernel : decode (mb_ 24) 55 = .ok (.return_, 1)) rfl
theorem ok_X2_readNote (pc : Nat) : ok_S 24 pc (cd_X2_readNote pc) :=
  (ok_bf (ok_bf (ok_bf (ok_bf (ok_bf (ok_bf (ok_lf pc ok_X2_readNote_55) (ok_lf pc ok_X2_readNote_52)) (ok_lf pc ok_X2_readNote_49)) (ok_bf (ok_lf pc ok_X2_readNote_48) (ok_lf pc ok_X2_readNote_45))) (ok_bf (ok_bf (ok_lf pc ok_X2_readNote_44) (ok_lf pc ok_X2_readNote_43)) (ok_bf (ok_lf pc ok_X2_readNote_42) (ok_lf pc ok_X2_readNote_41)))) (ok_bf (ok_bf (ok_bf (ok_lf pc ok_X2_readNote_40) (ok_lf pc ok_X2_readNote_38)) (ok_bf (ok_lf pc ok_X2_readNote_37) (ok_lf pc ok_X2_readNote_34))) (ok_bf (ok_bf (ok_lf pc ok_X2_readNote_33) (ok_lf pc ok_X2_readNote_30)) (ok_bf (ok_lf pc ok_X2_readNote_28) (ok_lf pc ok_X2_readNote_27))))) (ok_bf (ok_bf (ok_bf (ok_bf (ok_bf (ok_lf pc ok_X2_readNote_26) (ok_lf pc ok_X2_readNote_25)) (ok_lf pc ok_X2_readNote_24)) (ok_bf (ok_lf pc ok_X2_readNote_21) (ok_lf pc ok_X2_readNote_20))) (ok_bf (ok_bf (ok_lf pc ok_X2_readNote_19) (ok_lf pc ok_X2_readNote_16)) (ok_bf (ok_lf pc ok_X2_readNote_15) (ok_lf pc ok_X2_readNote_14)))) (ok_bf (ok_bf (ok_bf (ok_lf pc ok_X2_readNote_11) (ok_lf pc ok_X2_readNote_10)) (ok_bf (ok_lf pc ok_X2_readNote_9) (ok_lf pc ok_X2_readNote_6))) (ok_bf (ok_bf (ok_lf pc ok_X2_readNote_5) (ok_lf pc ok_X2_readNote_4)) (ok_bf (ok_lf pc ok_X2_readNote_1) (ok_lf pc ok_X2_readNote_0))))))
theorem mo_X2_readNote (pc : Nat) : mo_S (cd_X2_readNote pc) :=
  (mo_bf (mo_bf (mo_bf (mo_bf (mo_bf (mo_bf (mo_bf mo_retv mo_no) (mo_bf mo_go mo_no)) (mo_bf mo_inc mo_no)) (mo_bf (mo_bf mo_iast mo_no) (mo_bf mo_cu mo_no))) (mo_bf (mo_bf (mo_bf mo_ld mo_no) (mo_bf mo_ld mo_no)) (mo_bf (mo_bf mo_i2 mo_no) (mo_bf mo_ld mo_no)))) (mo_bf (mo_bf (mo_bf (mo_bf mo_i2 mo_no) (mo_bf mo_push mo_no)) (mo_bf (mo_bf mo_ld mo_no) (mo_bf mo_gr mo_no))) (mo_bf (mo_bf (mo_bf mo_ld mo_no) (mo_bf mo_ic mo_no)) (mo_bf (mo_bf mo_push mo_no) (mo_bf mo_ld mo_no))))) (mo_bf (mo_bf (mo_bf (mo_bf (mo_bf (mo_bf mo_st mo_no) (mo_bf mo_push mo_no)) (mo_bf mo_iast mo_no)) (mo_bf (mo_bf mo_ci mo_no) (mo_bf mo_ld mo_no))) (mo_bf (mo_bf (mo_bf mo_ld mo_no) (mo_bf mo_gr mo_no)) (mo_bf (mo_bf mo_ld mo_no) (mo_bf mo_iast mo_no)))) (mo_bf (mo_bf (mo_bf (mo_bf mo_gi mo_no) (mo_bf mo_ld mo_no)) (mo_bf (mo_bf mo_ld mo_no) (mo_bf mo_gr mo_no))) (mo_bf (mo_bf (mo_bf mo_ld mo_no) (mo_bf mo_st mo_no)) (mo_bf (mo_bf mo_gi mo_no) (mo_bf mo_ld mo_no))))))
theorem ok_X2_markTouched_0 : ok_S 25 0 (sf_ld 2 0 1) := ok_aload_n (by decide +kernel : decode (mb_ 25) 0 = .ok (.aload_n 0, 1)) rfl
theorem ok_X2_markTouched_1 : ok_S 25 1 (sf_gr 9 9 0 4) := ok_gr fd_9_0 (by decide +kernel : decode (mb_ 25) 1 = .ok (.getfield 12, 3)) tw_82 (Or.inl rfl) rfl
theorem ok_X2_markTouched_4 : ok_S 25 4 (sf_gr 8 8 2 7) := ok_gr fd_8_2 (by decide +kernel : decode (mb_ 25) 4 = .ok (.getfield 158, 3)) tw_53 (Or.inl rfl) rfl
theorem ok_X2_markTouched_7 : ok_S 25 7 (sf_st 2 1 8) := ok_astore_n (by decide +kernel : decode (mb_ 25) 7 = .ok (.astore_n 1, 1)) rfl
theorem ok_X2_markTouched_8 : ok_S 25 8 (sf_push (0, 0) 9) := ok_iconst (by decide +kernel : decode (mb_ 25) 8 = .ok (.iconst 0, 1)) ⟨by decide, by decide⟩
theorem ok_X2_markTouched_9 : ok_S 25 9 (sf_st 0 2 10) := ok_istore_n (by decide +kernel : decode (mb_ 25) 9 = .ok (.istore_n 2, 1)) rfl
theorem ok_X2_markTouched_10 : ok_S 25 10 (sf_ld 0 2 11) := ok_iload_n (by decide +kernel : decode (mb_ 25) 10 = .ok (.iload_n 2, 1)) rfl
theorem ok_X2_markTouched_11 : ok_S 25 11 (sf_ld 2 0 12) := ok_aload_n (by decide +kernel : decode (mb_ 25) 11 = .ok (.aload_n 0, 1)) rfl
theorem ok_X2_markTouched_12 : ok_S 25 12 (sf_gr 9 9 0 15) := ok_gr fd_9_0 (by decide +kernel : decode (mb_ 25) 12 = .ok (.getfield 12, 3)) tw_82 (Or.inl rfl) rfl
theorem ok_X2_markTouched_15 : ok_S 25 15 (sf_gi 8 8 4 18) := ok_gi fd_8_4 (by decide +kernel : decode (mb_ 25) 15 = .ok (.getfield 145, 3)) tw_60 (Or.inl rfl) rfl
theorem ok_X2_markTouched_18 : ok_S 25 18 (sf_ic 3 104 21) := ok_ic3 (by decide +kernel : decode (mb_ 25) 18 = .ok (.if_icmp .ge 86, 3)) (by decide)
theorem ok_X2_markTouched_21 : ok_S 25 21 (sf_ld 0 2 22) := ok_iload_n (by decide +kernel : decode (mb_ 25) 21 = .ok (.iload_n 2, 1)) rfl
theorem ok_X2_markTouched_22 : ok_S 25 22 (sf_push (0, 4) 23) := ok_iconst (by decide +kernel : decode (mb_ 25) 22 = .ok (.iconst 4, 1)) ⟨by decide, by decide⟩
theorem ok_X2_markTouched_23 : ok_S 25 23 (sf_i2 mx_mul 24) := ok_imul (by decide +kernel : decode (mb_ 25) 23 = .ok (.imul, 1))
theorem ok_X2_markTouched_24 : ok_S 25 24 (sf_st 0 3 25) := ok_istore_n (by decide +kernel : decode (mb_ 25) 24 = .ok (.istore_n 3, 1)) rfl
theorem ok_X2_markTouched_25 : ok_S 25 25 (sf_ld 2 1 26) := ok_aload_n (by decide +kernel : decode (mb_ 25) 25 = .ok (.aload_n 1, 1)) rfl
theorem ok_X2_markTouched_26 : ok_S 25 26 (sf_ld 0 3 27) := ok_iload_n (by decide +kernel : decode (mb_ 25) 26 = .ok (.iload_n 3, 1)) rfl
theorem ok_X2_markTouched_27 : ok_S 25 27 (sf_iald 28) := ok_iald (by decide +kernel : decode (mb_ 25) 27 = .ok (.iaload, 1))
theorem ok_X2_markTouched_28 : ok_S 25 28 (sf_st 0 4 30) := ok_istore (by decide +kernel : decode (mb_ 25) 28 = .ok (.istore 4, 2))
theorem ok_X2_markTouched_30 : ok_S 25 30 (sf_push (0, 1) 31) := ok_iconst (by decide +kernel : decode (mb_ 25) 30 = .ok (.iconst 1, 1)) ⟨by decide, by decide⟩
theorem ok_X2_markTouched_31 : ok_S 25 31 (sf_ld 2 0 32) := ok_aload_n (by decide +kernel : decode (mb_ 25) 31 = .ok (.aload_n 0, 1)) rfl
theorem ok_X2_markTouched_32 : ok_S 25 32 (sf_gr 9 9 5 35) := ok_gr fd_9_5 (by decide +kernel : decode (mb_ 25) 32 = .ok (.getfield 32, 3)) tw_92 (Or.inl rfl) rfl
theorem ok_X2_markTouched_35 : ok_S 25 35 (sf_ld 2 1 36) := ok_aload_n (by decide +kernel : decode (mb_ 25) 35 = .ok (.aload_n 1, 1)) rfl
theorem ok_X2_markTouched_36 : ok_S 25 36 (sf_ld 0 3 37) := ok_iload_n (by decide +kernel : decode (mb_ 25) 36 = .ok (.iload_n 3, 1)) rfl
theorem ok_X2_markTouched_37 : ok_S 25 37 (sf_push (0, 1) 38) := ok_iconst (by decide +kernel : decode (mb_ 25) 37 = .ok (.iconst 1, 1)) ⟨by decide, by decide⟩
theorem ok_X2_markTouched_38 : ok_S 25 38 (sf_i2 mx_add 39) := ok_iadd (by decide +kernel : decode (mb_ 25) 38 = .ok (.iadd, 1))
theorem ok_X2_markTouched_39 : ok_S 25 39 (sf_iald 40) := ok_iald (by decide +kernel : decode (mb_ 25) 39 = .ok (.iaload, 1))
theorem ok_X2_markTouched_40 : ok_S 25 40 (sf_iald 41) := ok_iald (by decide +kernel : decode (mb_ 25) 40 = .ok (.iaload, 1))
theorem ok_X2_markTouched_41 : ok_S 25 41 (sf_i2 mx_shl 42) := ok_ishl (by decide +kernel : decode (mb_ 25) 41 = .ok (.ishl, 1))
theorem ok_X2_markTouched_42 : ok_S 25 42 (sf_st 0 5 44) := ok_istore (by decide +kernel : decode (mb_ 25) 42 = .ok (.istore 5, 2))
theorem ok_X2_markTouched_44 : ok_S 25 44 (sf_ld 0 4 46) := ok_iload (by decide +kernel : decode (mb_ 25) 44 = .ok (.iload 4, 2))
theorem ok_X2_markTouched_46 : ok_S 25 46 (sf_push (0, 3) 47) := ok_iconst (by decide +kernel : decode (mb_ 25) 46 = .ok (.iconst 3, 1)) ⟨by decide, by decide⟩
theorem ok_X2_markTouched_47 : ok_S 25 47 (sf_ic 0 67 50) := ok_ic0 (by decide +kernel : decode (mb_ 25) 47 = .ok (.if_icmp .eq 20, 3)) (by decide)
theorem ok_X2_markTouched_50 : ok_S 25 50 (sf_ld 0 5 52) := ok_iload (by decide +kernel : decode (mb_ 25) 50 = .ok (.iload 5, 2))
theorem ok_X2_markTouched_52 : ok_S 25 52 (sf_push (0, 1) 53) := ok_iconst (by decide +kernel : decode (mb_ 25) 52 = .ok (.iconst 1, 1)) ⟨by decide, by decide⟩
theorem ok_X2_markTouched_53 : ok_S 25 53 (sf_ld 2 0 54) := ok_aload_n (by decide +kernel : decode (mb_ 25) 53 = .ok (.aload_n 0, 1)) rfl
theorem ok_X2_markTouched_54 : ok_S 25 54 (sf_gr 9 9 5 57) := ok_gr fd_9_5 (by decide +kernel : decode (mb_ 25) 54 = .ok (.getfield 32, 3)) tw_92 (Or.inl rfl) rfl
theorem ok_X2_markTouched_57 : ok_S 25 57 (sf_ld 2 1 58) := ok_aload_n (by decide +kernel : decode (mb_ 25) 57 = .ok (.aload_n 1, 1)) rfl
theorem ok_X2_markTouched_58 : ok_S 25 58 (sf_ld 0 3 59) := ok_iload_n (by decide +kernel : decode (mb_ 25) 58 = .ok (.iload_n 3, 1)) rfl
theorem ok_X2_markTouched_59 : ok_S 25 59 (sf_push (0, 2) 60) := ok_iconst (by decide +kernel : decode (mb_ 25) 59 = .ok (.iconst 2, 1)) ⟨by decide, by decide⟩
theorem ok_X2_markTouched_60 : ok_S 25 60 (sf_i2 mx_add 61) := ok_iadd (by decide +kernel : decode (mb_ 25) 60 = .ok (.iadd, 1))
theorem ok_X2_markTouched_61 : ok_S 25 61 (sf_iald 62) := ok_iald (by decide +kernel : decode (mb_ 25) 61 = .ok (.iaload, 1))
theorem ok_X2_markTouched_62 : ok_S 25 62 (sf_iald 63) := ok_iald (by decide +kernel : decode (mb_ 25) 62 = .ok (.iaload, 1))
theorem ok_X2_markTouched_63 : ok_S 25 63 (sf_i2 mx_shl 64) := ok_ishl (by decide +kernel : decode (mb_ 25) 63 = .ok (.ishl, 1))
theorem ok_X2_markTouched_64 : ok_S 25 64 (sf_i2 mx_or 65) := ok_ior (by decide +kernel : decode (mb_ 25) 64 = .ok (.ior, 1))
theorem ok_X2_markTouched_65 : ok_S 25 65 (sf_st 0 5 67) := ok_istore (by decide +kernel : decode (mb_ 25) 65 = .ok (.istore 5, 2))
theorem ok_X2_markTouched_67 : ok_S 25 67 (sf_ld 0 4 69) := ok_iload (by decide +kernel : decode (mb_ 25) 67 = .ok (.iload 4, 2))
theorem ok_X2_markTouched_69 : ok_S 25 69 (sf_push (0, 2) 70) := ok_iconst (by decide +kernel : decode (mb_ 25) 69 = .ok (.iconst 2, 1)) ⟨by decide, by decide⟩
theorem ok_X2_markTouched_70 : ok_S 25 70 (sf_ic 1 90 73) := ok_ic1 (by decide +kernel : decode (mb_ 25) 70 = .ok (.if_icmp .ne 20, 3)) (by decide)
theorem ok_X2_markTouched_73 : ok_S 25 73 (sf_ld 0 5 75) := ok_iload (by decide +kernel : decode (mb_ 25) 73 = .ok (.iload 5, 2))
theorem ok_X2_markTouched_75 : ok_S 25 75 (sf_push (0, 1) 76) := ok_iconst (by decide +kernel : decode (mb_ 25) 75 = .ok (.iconst 1, 1)) ⟨by decide, by decide⟩
theorem ok_X2_markTouched_76 : ok_S 25 76 (sf_ld 2 0 77) := ok_aload_n (by decide +kernel : decode (mb_ 25) 76 = .ok (.aload_n 0, 1)) rfl
theorem ok_X2_markTouched_77 : ok_S 25 77 (sf_gr 9 9 5 80) := ok_gr fd_9_5 (by decide +kernel : decode (mb_ 25) 77 = .ok (.getfield 32, 3)) tw_92 (Or.inl rfl) rfl
theorem ok_X2_markTouched_80 : ok_S 25 80 (sf_ld 2 1 81) := ok_aload_n (by decide +kernel : decode (mb_ 25) 80 = .ok (.aload_n 1, 1)) rfl
theorem ok_X2_markTouched_81 : ok_S 25 81 (sf_ld 0 3 82) := ok_iload_n (by decide +kernel : decode (mb_ 25) 81 = .ok (.iload_n 3, 1)) rfl
theorem ok_X2_markTouched_82 : ok_S 25 82 (sf_push (0, 3) 83) := ok_iconst (by decide +kernel : decode (mb_ 25) 82 = .ok (.iconst 3, 1)) ⟨by decide, by decide⟩
theorem ok_X2_markTouched_83 : ok_S 25 83 (sf_i2 mx_add 84) := ok_iadd (by decide +kernel : decode (mb_ 25) 83 = .ok (.iadd, 1))
theorem ok_X2_markTouched_84 : ok_S 25 84 (sf_iald 85) := ok_iald (by decide +kernel : decode (mb_ 25) 84 = .ok (.iaload, 1))
theorem ok_X2_markTouched_85 : ok_S 25 85 (sf_iald 86) := ok_iald (by decide +kernel : decode (mb_ 25) 85 = .ok (.iaload, 1))
theorem ok_X2_markTouched_86 : ok_S 25 86 (sf_i2 mx_shl 87) := ok_ishl (by decide +kernel : decode (mb_ 25) 86 = .ok (.ishl, 1))
theorem ok_X2_markTouched_87 : ok_S 25 87 (sf_i2 mx_or 88) := ok_ior (by decide +kernel : decode (mb_ 25) 87 = .ok (.ior, 1))
theorem ok_X2_markTouched_88 : ok_S 25 88 (sf_st 0 5 90) := ok_istore (by decide +kernel : decode (mb_ 25) 88 = .ok (.istore 5, 2))
theorem ok_X2_markTouched_90 : ok_S 25 90 (sf_ld 2 0 91) := ok_aload_n (by decide +kernel : decode (mb_ 25) 90 = .ok (.aload_n 0, 1)) rfl
theorem ok_X2_markTouched_91 : ok_S 25 91 (sf_gr 9 9 8 94) := ok_gr fd_9_8 (by decide +kernel : decode (mb_ 25) 91 = .ok (.getfield 41, 3)) tw_95 (Or.inl rfl) rfl
theorem ok_X2_markTouched_94 : ok_S 25 94 (sf_ld 0 2 95) := ok_iload_n (by decide +kernel : decode (mb_ 25) 94 = .ok (.iload_n 2, 1)) rfl
theorem ok_X2_markTouched_95 : ok_S 25 95 (sf_ld 0 5 97) := ok_iload (by decide +kernel : decode (mb_ 25) 95 = .ok (.iload 5, 2))
theorem ok_X2_markTouched_97 : ok_S 25 97 (sf_iast 98) := ok_iast (by decide +kernel : decode (mb_ 25) 97 = .ok (.iastore, 1))
theorem ok_X2_markTouched_98 : ok_S 25 98 (sf_inc 2 1 101) := ok_iinc (by decide +kernel : decode (mb_ 25) 98 = .ok (.iinc 2 1, 3))
theorem ok_X2_markTouched_101 : ok_S 25 101 (sf_go 10) := ok_goto (by decide +kernel : decode (mb_ 25) 101 = .ok (.goto (-91), 3)) (by decide)
theorem ok_X2_markTouched_104 : ok_S 25 104 (sf_retv) := ok_retv (by decide +kernel : decode (mb_ 25) 104 = .ok (.return_, 1)) rfl
theorem ok_X2_markTouched (pc : Nat) : ok_S 25 pc (cd_X2_markTouched pc) :=
  (ok_bf (ok_bf (ok_bf (ok_bf (ok_bf (ok_bf (ok_bf (ok_lf pc ok_X2_markTouched_104) (ok_lf pc ok_X2_markTouched_101)) (ok_lf pc ok_X2_markTouched_98)) (ok_bf (ok_lf pc ok_X2_markTouched_97) (ok_lf pc ok_X2_markTouched_95))) (ok_bf (ok_bf (ok_lf pc ok_X2_markTouched_94) (ok_lf pc ok_X2_markTouched_91)) (ok_bf (ok_lf pc ok_X2_markTouched_90) (ok_lf pc ok_X2_markTouched_88)))) (ok_bf (ok_bf (ok_bf (ok_bf (ok_lf pc ok_X2_markTouched_87) (ok_lf pc ok_X2_markTouched_86)) (ok_lf pc ok_X2_markTouched_85)) (ok_bf (ok_lf pc ok_X2_markTouched_84) (ok_lf pc ok_X2_markTouched_83))) (ok_bf (ok_bf (ok_lf pc ok_X2_markTouched_82) (ok_lf pc ok_X2_markTouched_81)) (ok_bf (ok_lf pc ok_X2_markTouched_80) (ok_lf pc ok_X2_markTouched_77))))) (ok_bf (ok_bf (ok_bf (ok_bf (ok_bf (ok_lf pc ok_X2_markTouched_76) (ok_lf pc ok_X2_markTouched_75)) (ok_lf pc ok_X2_markTouched_73)) (ok_bf (ok_lf pc ok_X2_markTouched_70) (ok_lf pc ok_X2_markTouched_69))) (ok_bf (ok_bf (ok_lf pc ok_X2_markTouched_67) (ok_lf pc ok_X2_markTouched_65)) (ok_bf (ok_lf pc ok_X2_markTouched_64) (ok_lf pc ok_X2_markTouched_63)))) (ok_bf (ok_bf (ok_bf (ok_lf pc ok_X2_markTouched_62) (ok_lf pc ok_X2_markTouched_61)) (ok_bf (ok_lf pc ok_X2_markTouched_60) (ok_lf pc ok_X2_markTouched_59))) (ok_bf (ok_bf (ok_lf pc ok_X2_markTouched_58) (ok_lf pc ok_X2_markTouched_57)) (ok_bf (ok_lf pc ok_X2_markTouched_54) (ok_lf pc ok_X2_markTouched_53)))))) (ok_bf (ok_bf (ok_bf (ok_bf (ok_bf (ok_bf (ok_lf pc ok_X2_markTouched_52) (ok_lf pc ok_X2_markTouched_50)) (ok_lf pc ok_X2_markTouched_47)) (ok_bf (ok_lf pc ok_X2_markTouched_46) (ok_lf pc ok_X2_markTouched_44))) (ok_bf (ok_bf (ok_lf pc ok_X2_markTouched_42) (ok_lf pc ok_X2_markTouched_41)) (ok_bf (ok_lf pc ok_X2_markTouched_40) (ok_lf pc ok_X2_markTouched_39)))) (ok_bf (ok_bf (ok_bf (ok_bf (ok_lf pc ok_X2_markTouched_38) (ok_lf pc ok_X2_markTouched_37)) (ok_lf pc ok_X2_markTouched_36)) (ok_bf (ok_lf pc ok_X2_markTouched_35) (ok_lf pc ok_X2_markTouched_32))) (ok_bf (ok_bf (ok_lf pc ok_X2_markTouched_31) (ok_lf pc ok_X2_markTouched_30)) (ok_bf (ok_lf pc ok_X2_markTouched_28) (ok_lf pc ok_X2_markTouched_27))))) (ok_bf (ok_bf (ok_bf (ok_bf (ok_bf (ok_lf pc ok_X2_markTouched_26) (ok_lf pc ok_X2_markTouched_25)) (ok_lf pc ok_X2_markTouched_24)) (ok_bf (ok_lf pc ok_X2_markTouched_23) (ok_lf pc ok_X2_markTouched_22))) (ok_bf (ok_bf (ok_lf pc ok_X2_markTouched_21) (ok_lf pc ok_X2_markTouched_18)) (ok_bf (ok_lf pc ok_X2_markTouched_15) (ok_lf pc ok_X2_markTouched_12)))) (ok_bf (ok_bf (ok_bf (ok_lf pc ok_X2_markTouched_11) (ok_lf pc ok_X2_markTouched_10)) (ok_bf (ok_lf pc ok_X2_markTouched_9) (ok_lf pc ok_X2_markTouched_8))) (ok_bf (ok_bf (ok_lf pc ok_X2_markTouched_7) (ok_lf pc ok_X2_markTouched_4)) (ok_bf (ok_lf pc ok_X2_markTouched_1) (ok_lf pc ok_X2_markTouched_0)))))))
theorem mo_X2_markTouched (pc : Nat) : mo_S (cd_X2_markTouched pc) :=
  (mo_bf (mo_bf (mo_bf (mo_bf (mo_bf (mo_bf (mo_bf (mo_bf mo_retv mo_no) (mo_bf mo_go mo_no)) (mo_bf mo_inc mo_no)) (mo_bf (mo_bf mo_iast mo_no) (mo_bf mo_ld mo_no))) (mo_bf (mo_bf (mo_bf mo_ld mo_no) (mo_bf mo_gr mo_no)) (mo_bf (mo_bf mo_ld mo_no) (mo_bf mo_st mo_no)))) (mo_bf (mo_bf (mo_bf (mo_bf (mo_bf mo_i2 mo_no) (mo_bf mo_i2 mo_no)) (mo_bf mo_iald mo_no)) (mo_bf (mo_bf mo_iald mo_no) (mo_bf mo_i2 mo_no))) (mo_bf (mo_bf (mo_bf mo_push mo_no) (mo_bf mo_ld mo_no)) (mo_bf (mo_bf mo_ld mo_no) (mo_bf mo_gr mo_no))))) (mo_bf (mo_bf (mo_bf (mo_bf (mo_bf (mo_bf mo_ld mo_no) (mo_bf mo_push mo_no)) (mo_bf mo_ld mo_no)) (mo_bf (mo_bf mo_ic mo_no) (mo_bf mo_push mo_no))) (mo_bf (mo_bf (mo_bf mo_ld mo_no) (mo_bf mo_st mo_no)) (mo_bf (mo_bf mo_i2 mo_no) (mo_bf mo_i2 mo_no)))) (mo_bf (mo_bf (mo_bf (mo_bf mo_iald mo_no) (mo_bf mo_iald mo_no)) (mo_bf (mo_bf mo_i2 mo_no) (mo_bf mo_push mo_no))) (mo_bf (mo_bf (mo_bf mo_ld mo_no) (mo_bf mo_ld mo_no)) (mo_bf (mo_bf mo_gr mo_no) (mo_bf mo_ld mo_no)))))) (mo_bf (mo_bf (mo_bf (mo_bf (mo_bf (mo_bf (mo_bf mo_push mo_no) (mo_bf mo_ld mo_no)) (mo_bf mo_ic mo_no)) (mo_bf (mo_bf mo_push mo_no) (mo_bf mo_ld mo_no))) (mo_bf (mo_bf (mo_bf mo_st mo_no) (mo_bf mo_i2 mo_no)) (mo_bf (mo_bf mo_iald mo_no) (mo_bf mo_iald mo_no)))) (mo_bf (mo_bf (mo_bf (mo_bf (mo_bf mo_i2 mo_no) (mo_bf mo_push mo_no)) (mo_bf mo_ld mo_no)) (mo_bf (mo_bf mo_ld mo_no) (mo_bf mo_gr mo_no))) (mo_bf (mo_bf (mo_bf mo_ld mo_no) (mo_bf mo_push mo_no)) (mo_bf (mo_bf mo_st mo_no) (mo_bf mo_iald mo_no))))) (mo_bf (mo_bf (mo_bf (mo_bf (mo_bf (mo_bf mo_ld mo_no) (mo_bf mo_ld mo_no)) (mo_bf mo_st mo_no)) (mo_bf (mo_bf mo_i2 mo_no) (mo_bf mo_push mo_no))) (mo_bf (mo_bf (mo_bf mo_ld mo_no) (mo_bf mo_ic mo_no)) (mo_bf (mo_bf mo_gi mo_no) (mo_bf mo_gr mo_no)))) (mo_bf (mo_bf (mo_bf (mo_bf mo_ld mo_no) (mo_bf mo_ld mo_no)) (mo_bf (mo_bf mo_st mo_no) (mo_bf mo_push mo_no))) (mo_bf (mo_bf (mo_bf mo_st mo_no) (mo_bf mo_gr mo_no)) (mo_bf (mo_bf mo_gr mo_no) (mo_bf mo_ld mo_no)))))))
theorem ok_X2_limitBy_0 : ok_S 26 0 (sf_ld 2 0 1) := ok_aload_n (by decide +kernel : decode (mb_ 26) 0 = .ok (.aload_n 0, 1)) rfl
theorem ok_X2_limitBy_1 : ok_S 26 1 (sf_gr 9 9 9 4) := ok_gr fd_9_9 (by decide +kernel : decode (mb_ 26) 1 = .ok (.getfield 44, 3)) tw_96 (Or.inl rfl) rfl
theorem ok_X2_limitBy_4 : ok_S 26 4 (sf_push (0, 131068) 6) := ok_ldc (by decide +kernel : decode (mb_ 26) 4 = .ok (.ldc 161, 2)) ⟨by decide, by decide⟩ tw_722
theorem ok_X2_limitBy_6 : ok_S 26 6 (sf_cs [2, 0] 255 9) := ok_cs mt_255 (by decide +kernel : decode (mb_ 26) 6 = .ok (.invokestatic 162, 3)) tw_723 tw_45 tw_4 (by decide +kernel) (mh_ok rfl) (by decide) (by decide)
theorem ok_X2_limitBy_9 : ok_S 26 9 (sf_push (0, 0) 10) := ok_iconst (by decide +kernel : decode (mb_ 26) 9 = .ok (.iconst 0, 1)) ⟨by decide, by decide⟩
theorem ok_X2_limitBy_10 : ok_S 26 10 (sf_st 0 3 11) := ok_istore_n (by decide +kernel : decode (mb_ 26) 10 = .ok (.istore_n 3, 1)) rfl
theorem ok_X2_limitBy_11 : ok_S 26 11 (sf_ld 0 3 12) := ok_iload_n (by decide +kernel : decode (mb_ 26) 11 = .ok (.iload_n 3, 1)) rfl
theorem ok_X2_limitBy_12 : ok_S 26 12 (sf_push (0, 3) 13) := ok_iconst (by decide +kernel : decode (mb_ 26) 12 = .ok (.iconst 3, 1)) ⟨by decide, by decide⟩
theorem ok_X2_limitBy_13 : ok_S 26 13 (sf_ic 3 36 16) := ok_ic3 (by decide +kernel : decode (mb_ 26) 13 = .ok (.if_icmp .ge 23, 3)) (by decide)
theorem ok_X2_limitBy_16 : ok_S 26 16 (sf_ld 2 0 17) := ok_aload_n (by decide +kernel : decode (mb_ 26) 16 = .ok (.aload_n 0, 1)) rfl
theorem ok_X2_limitBy_17 : ok_S 26 17 (sf_gr 9 9 9 20) := ok_gr fd_9_9 (by decide +kernel : decode (mb_ 26) 17 = .ok (.getfield 44, 3)) tw_96 (Or.inl rfl) rfl
theorem ok_X2_limitBy_20 : ok_S 26 20 (sf_ld 0 3 21) := ok_iload_n (by decide +kernel : decode (mb_ 26) 20 = .ok (.iload_n 3, 1)) rfl
theorem ok_X2_limitBy_21 : ok_S 26 21 (sf_ld 2 0 22) := ok_aload_n (by decide +kernel : decode (mb_ 26) 21 = .ok (.aload_n 0, 1)) rfl
theorem ok_X2_limitBy_22 : ok_S 26 22 (sf_gr 9 9 0 25) := ok_gr fd_9_0 (by decide +kernel : decode (mb_ 26) 22 = .ok (.getfield 12, 3)) tw_82 (Or.inl rfl) rfl
theorem ok_X2_limitBy_25 : ok_S 26 25 (sf_ld 0 3 26) := ok_iload_n (by decide +kernel : decode (mb_ 26) 25 = .ok (.iload_n 3, 1)) rfl
theorem ok_X2_limitBy_26 : ok_S 26 26 (sf_cv 8 [2, 0] 89 29) := ok_cv mt_89 cl_8 (by decide +kernel : decode (mb_ 26) 26 = .ok (.invokevirtual 167, 3)) tw_724 tw_725 tw_726 tw_3 rfl (by decide +kernel) (mh_ok rfl) (by decide) (by decide)
theorem ok_X2_limitBy_29 : ok_S 26 29 (sf_iast 30) := ok_iast (by decide +kernel : decode (mb_ 26) 29 = .ok (.iastore, 1))
theorem ok_X2_limitBy_30 : ok_S 26 30 (sf_inc 3 1 33) := ok_iinc (by decide +kernel : decode (mb_ 26) 30 = .ok (.iinc 3 1, 3))
theorem ok_X2_limitBy_33 : ok_S 26 33 (sf_go 11) := ok_goto (by decide +kernel : decode (mb_ 26) 33 = .ok (.goto (-22), 3)) (by decide)
theorem ok_X2_limitBy_36 : ok_S 26 36 (sf_push (0, 0) 37) := ok_iconst (by decide +kernel : decode (mb_ 26) 36 = .ok (.iconst 0, 1)) ⟨by decide, by decide⟩
theorem ok_X2_limitBy_37 : ok_S 26 37 (sf_st 0 3 38) := ok_istore_n (by decide +kernel : decode (mb_ 26) 37 = .ok (.istore_n 3, 1)) rfl
theorem ok_X2_limitBy_38 : ok_S 26 38 (sf_ld 0 3 39) := ok_iload_n (by decide +kernel : decode (mb_ 26) 38 = .ok (.iload_n 3, 1)) rfl
theorem ok_X2_limitBy_39 : ok_S 26 39 (sf_ld 2 0 40) := ok_aload_n (by decide +kernel : decode (mb_ 26) 39 = .ok (.aload_n 0, 1)) rfl
theorem ok_X2_limitBy_40 : ok_S 26 40 (sf_gr 9 9 0 43) := ok_gr fd_9_0 (by decide +kernel : decode (mb_ 26) 40 = .ok (.getfield 12, 3)) tw_82 (Or.inl rfl) rfl
theorem ok_X2_limitBy_43 : ok_S 26 43 (sf_gi 8 8 3 46) := ok_gi fd_8_3 (by decide +kernel : decode (mb_ 26) 43 = .ok (.getfield 93, 3)) tw_57 (Or.inl rfl) rfl
theorem ok_X2_limitBy_46 : ok_S 26 46 (sf_ic 3 80 49) := ok_ic3 (by decide +kernel : decode (mb_ 26) 46 = .ok (.if_icmp .ge 34, 3)) (by decide)
theorem ok_X2_limitBy_49 : ok_S 26 49 (sf_ld 0 3 50) := ok_iload_n (by decide +kernel : decode (mb_ 26) 49 = .ok (.iload_n 3, 1)) rfl
theorem ok_X2_limitBy_50 : ok_S 26 50 (sf_ld 0 2 51) := ok_iload_n (by decide +kernel : decode (mb_ 26) 50 = .ok (.iload_n 2, 1)) rfl
theorem ok_X2_limitBy_51 : ok_S 26 51 (sf_ic 0 74 54) := ok_ic0 (by decide +kernel : decode (mb_ 26) 51 = .ok (.if_icmp .eq 23, 3)) (by decide)
theorem ok_X2_limitBy_54 : ok_S 26 54 (sf_ld 2 0 55) := ok_aload_n (by decide +kernel : decode (mb_ 26) 54 = .ok (.aload_n 0, 1)) rfl
theorem ok_X2_limitBy_55 : ok_S 26 55 (sf_gr 9 9 9 58) := ok_gr fd_9_9 (by decide +kernel : decode (mb_ 26) 55 = .ok (.getfield 44, 3)) tw_96 (Or.inl rfl) rfl
theorem ok_X2_limitBy_58 : ok_S 26 58 (sf_ld 2 0 59) := ok_aload_n (by decide +kernel : decode (mb_ 26) 58 = .ok (.aload_n 0, 1)) rfl
theorem ok_X2_limitBy_59 : ok_S 26 59 (sf_gr 9 9 5 62) := ok_gr fd_9_5 (by decide +kernel : decode (mb_ 26) 59 = .ok (.getfield 32, 3)) tw_92 (Or.inl rfl) rfl
theorem ok_X2_limitBy_62 : ok_S 26 62 (sf_ld 0 3 63) := ok_iload_n (by decide +kernel : decode (mb_ 26) 62 = .ok (.iload_n 3, 1)) rfl
theorem ok_X2_limitBy_63 : ok_S 26 63 (sf_iald 64) := ok_iald (by decide +kernel : decode (mb_ 26) 63 = .ok (.iaload, 1))
theorem ok_X2_limitBy_64 : ok_S 26 64 (sf_dup2 65) := ok_dup2 (by decide +kernel : decode (mb_ 26) 64 = .ok (.dup2, 1))
theorem ok_X2_limitBy_65 : ok_S 26 65 (sf_iald 66) := ok_iald (by decide +kernel : decode (mb_ 26) 65 = .ok (.iaload, 1))
theorem ok_X2_limitBy_66 : ok_S 26 66 (sf_ld 2 0 67) := ok_aload_n (by decide +kernel : decode (mb_ 26) 66 = .ok (.aload_n 0, 1)) rfl
theorem ok_X2_limitBy_67 : ok_S 26 67 (sf_gr 9 9 6 70) := ok_gr fd_9_6 (by decide +kernel : decode (mb_ 26) 67 = .ok (.getfield 35, 3)) tw_93 (Or.inl rfl) rfl
theorem ok_X2_limitBy_70 : ok_S 26 70 (sf_ld 0 3 71) := ok_iload_n (by decide +kernel : decode (mb_ 26) 70 = .ok (.iload_n 3, 1)) rfl
theorem ok_X2_limitBy_71 : ok_S 26 71 (sf_iald 72) := ok_iald (by decide +kernel : decode (mb_ 26) 71 = .ok (.iaload, 1))
theorem ok_X2_limitBy_72 : ok_S 26 72 (sf_i2 mx_and 73) := ok_iand (by decide +kernel : decode (mb_ 26) 72 = .ok (.iand, 1))
theorem ok_X2_limitBy_73 : ok_S 26 73 (sf_iast 74) := ok_iast (by decide +kernel : decode (mb_ 26) 73 = .ok (.iastore, 1))
theorem ok_X2_limitBy_74 : ok_S 26 74 (sf_inc 3 1 77) := ok_iinc (by decide +kernel : decode (mb_ 26) 74 = .ok (.iinc 3 1, 3))
theorem ok_X2_limitBy_77 : ok_S 26 77 (sf_go 38) := ok_goto (by decide +kernel : decode (mb_ 26) 77 = .ok (.goto (-39), 3)) (by decide)
theorem ok_X2_limitBy_80 : ok_S 26 80 (sf_push (0, 0) 81) := ok_iconst (by decide +kernel : decode (mb_ 26) 80 = .ok (.iconst 0, 1)) ⟨by decide, by decide⟩
theorem ok_X2_limitBy_81 : ok_S 26 81 (sf_st 0 3 82) := ok_istore_n (by decide +kernel : decode (mb_ 26) 81 = .ok (.istore_n 3, 1)) rfl
theorem ok_X2_limitBy_82 : ok_S 26 82 (sf_ld 0 3 83) := ok_iload_n (by decide +kernel : decode (mb_ 26) 82 = .ok (.iload_n 3, 1)) rfl
theorem ok_X2_limitBy_83 : ok_S 26 83 (sf_ld 2 0 84) := ok_aload_n (by decide +kernel : decode (mb_ 26) 83 = .ok (.aload_n 0, 1)) rfl
theorem ok_X2_limitBy_84 : ok_S 26 84 (sf_gr 9 9 0 87) := ok_gr fd_9_0 (by decide +kernel : decode (mb_ 26) 84 = .ok (.getfield 12, 3)) tw_82 (Or.inl rfl) rfl
theorem ok_X2_limitBy_87 : ok_S 26 87 (sf_gi 8 8 4 90) := ok_gi fd_8_4 (by decide +kernel : decode (mb_ 26) 87 = .ok (.getfield 145, 3)) tw_60 (Or.inl rfl) rfl
theorem ok_X2_limitBy_90 : ok_S 26 90 (sf_ic 3 112 93) := ok_ic3 (by decide +kernel : decode (mb_ 26) 90 = .ok (.if_icmp .ge 22, 3)) (by decide)
theorem ok_X2_limitBy_93 : ok_S 26 93 (sf_ld 0 1 94) := ok_iload_n (by decide +kernel : decode (mb_ 26) 93 = .ok (.iload_n 1, 1)) rfl
theorem ok_X2_limitBy_94 : ok_S 26 94 (sf_ld 0 3 95) := ok_iload_n (by decide +kernel : decode (mb_ 26) 94 = .ok (.iload_n 3, 1)) rfl
theorem ok_X2_limitBy_95 : ok_S 26 95 (sf_i2 mx_shr 96) := ok_ishr (by decide +kernel : decode (mb_ 26) 95 = .ok (.ishr, 1))
theorem ok_X2_limitBy_96 : ok_S 26 96 (sf_push (0, 1) 97) := ok_iconst (by decide +kernel : decode (mb_ 26) 96 = .ok (.iconst 1, 1)) ⟨by decide, by decide⟩
theorem ok_X2_limitBy_97 : ok_S 26 97 (sf_i2 mx_and 98) := ok_iand (by decide +kernel : decode (mb_ 26) 97 = .ok (.iand, 1))
theorem ok_X2_limitBy_98 : ok_S 26 98 (sf_if 0 106 101) := ok_if0 (by decide +kernel : decode (mb_ 26) 98 = .ok (.ifCond .eq 8, 3)) (by decide)
theorem ok_X2_limitBy_101 : ok_S 26 101 (sf_ld 2 0 102) := ok_aload_n (by decide +kernel : decode (mb_ 26) 101 = .ok (.aload_n 0, 1)) rfl
theorem ok_X2_limitBy_102 : ok_S 26 102 (sf_ld 0 3 103) := ok_iload_n (by decide +kernel : decode (mb_ 26) 102 = .ok (.iload_n 3, 1)) rfl
theorem ok_X2_limitBy_103 : ok_S 26 103 (sf_cv 9 [2, 0] 27 106) := ok_cv mt_27 cl_9 (by decide +kernel : decode (mb_ 26) 103 = .ok (.invokevirtual 148, 3)) tw_728 tw_730 ts_16 tw_2 rfl (by decide +kernel) (mh_ok rfl) (by decide) (by decide)
theorem ok_X2_limitBy_106 : ok_S 26 106 (sf_inc 3 1 109) := ok_iinc (by decide +kernel : decode (mb_ 26) 106 = .ok (.iinc 3 1, 3))
theorem ok_X2_limitBy_109 : ok_S 26 109 (sf_go 82) := ok_goto (by decide +kernel : decode (mb_ 26) 109 = .ok (.goto (-27), 3)) (by decide)
theorem ok_X2_limitBy_112 : ok_S 26 112 (sf_retv) := ok_retv (by decide +kernel : decode (mb_ 26) 112 = .ok (.return_, 1)) rfl
theorem ok_X2_limitBy (pc : Nat) : ok_S 26 pc (cd_X2_limitBy pc) :=
  (ok_bf (ok_bf (ok_bf (ok_bf (ok_bf (ok_bf (ok_lf pc ok_X2_limitBy_112) (ok_lf pc ok_X2_limitBy_109)) (ok_bf (ok_lf pc ok_X2_limitBy_106) (ok_lf pc ok_X2_limitBy_103))) (ok_bf (ok_bf (ok_lf pc ok_X2_limitBy_102) (ok_lf pc ok_X2_limitBy_101)) (ok_bf (ok_lf pc ok_X2_limitBy_98) (ok_lf pc ok_X2_limitBy_97)))) (ok_bf (ok_bf (ok_bf (ok_lf pc ok_X2_limitBy_96) (ok_lf pc ok_X2_limitBy_95)) (ok_bf (ok_lf pc ok_X2_limitBy_94) (ok_lf pc ok_X2_limitBy_93))) (ok_bf (ok_bf (ok_lf pc ok_X2_limitBy_90) (ok_lf pc ok_X2_limitBy_87)) (ok_bf (ok_lf pc ok_X2_limitBy_84) (ok_lf pc ok_X2_limitBy_83))))) (ok_bf (ok_bf (ok_bf (ok_bf (ok_lf pc ok_X2_limitBy_82) (ok_lf pc ok_X2_limitBy_81)) (ok_bf (ok_lf pc ok_X2_limitBy_80) (ok_lf pc ok_X2_limitBy_77))) (ok_bf (ok_bf (ok_lf pc ok_X2_limitBy_74) (ok_lf pc ok_X2_limitBy_73)) (ok_bf (ok_lf pc ok_X2_limitBy_72) (ok_lf pc ok_X2_limitBy_71)))) (ok_bf (ok_bf (ok_bf (ok_lf pc ok_X2_limitBy_70) (ok_lf pc ok_X2_limitBy_67)) (ok_bf (ok_lf pc ok_X2_limitBy_66) (ok_lf pc ok_X2_limitBy_65))) (ok_bf (ok_bf (ok_lf pc ok_X2_limitBy_64) (ok_lf pc ok_X2_limitBy_63)) (ok_bf (ok_lf pc ok_X2_limitBy_62) (ok_lf pc ok_X2_limitBy_59)))))) (ok_bf (ok_bf (ok_bf (ok_bf (ok_bf (ok_lf pc ok_X2_limitBy_58) (ok_lf pc ok_X2_limitBy_55)) (ok_bf (ok_lf pc ok_X2_limitBy_54) (ok_lf pc ok_X2_limitBy_51))) (ok_bf (ok_bf (ok_lf pc ok_X2_limitBy_50) (ok_lf pc ok_X2_limitBy_49)) (ok_bf (ok_lf pc ok_X2_limitBy_46) (ok_lf pc ok_X2_limitBy_43)))) (ok_bf (ok_bf (ok_bf (ok_lf pc ok_X2_limitBy_40) (ok_lf pc ok_X2_limitBy_39)) (ok_bf (ok_lf pc ok_X2_limitBy_38) (ok_lf pc ok_X2_limitBy_37))) (ok_bf (ok_bf (ok_lf pc ok_X2_limitBy_36) (ok_lf pc ok_X2_limitBy_33)) (ok_bf (ok_lf pc ok_X2_limitBy_30) (ok_lf pc ok_X2_limitBy_29))))) (ok_bf (ok_bf (ok_bf (ok_bf (ok_lf pc ok_X2_limitBy_26) (ok_lf pc ok_X2_limitBy_25)) (ok_bf (ok_lf pc ok_X2_limitBy_22) (ok_lf pc ok_X2_limitBy_21))) (ok_bf (ok_bf (ok_lf pc ok_X2_limitBy_20) (ok_lf pc ok_X2_limitBy_17)) (ok_bf (ok_lf pc ok_X2_limitBy_16) (ok_lf pc ok_X2_limitBy_13)))) (ok_bf (ok_bf (ok_bf (ok_lf pc ok_X2_limitBy_12) (ok_lf pc ok_X2_limitBy_11)) (ok_bf (ok_lf pc ok_X2_limitBy_10) (ok_lf pc ok_X2_limitBy_9))) (ok_bf (ok_bf (ok_lf pc ok_X2_limitBy_6) (ok_lf pc ok_X2_limitBy_4)) (ok_bf (ok_lf pc ok_X2_limitBy_1) (ok_lf pc ok_X2_limitBy_0)))))))
theorem mo_X2_limitBy (pc : Nat) : mo_S (cd_X2_limitBy pc) :=
  (mo_bf (mo_bf (mo_bf (mo_bf (mo_bf (mo_bf (mo_bf mo_retv mo_no) (mo_bf mo_go mo_no)) (mo_bf (mo_bf mo_inc mo_no) (mo_bf mo_cv mo_no))) (mo_bf (mo_bf (mo_bf mo_ld mo_no) (mo_bf mo_ld mo_no)) (mo_bf (mo_bf mo_if mo_no) (mo_bf mo_i2 mo_no)))) (mo_bf (mo_bf (mo_bf (mo_bf mo_push mo_no) (mo_bf mo_i2 mo_no)) (mo_bf (mo_bf mo_ld mo_no) (mo_bf mo_ld mo_no))) (mo_bf (mo_bf (mo_bf mo_ic mo_no) (mo_bf mo_gi mo_no)) (mo_bf (mo_bf mo_gr mo_no) (mo_bf mo_ld mo_no))))) (mo_bf (mo_bf (mo_bf (mo_bf (mo_bf mo_ld mo_no) (mo_bf mo_st mo_no)) (mo_bf (mo_bf mo_push mo_no) (mo_bf mo_go mo_no))) (mo_bf (mo_bf (mo_bf mo_inc mo_no) (mo_bf mo_iast mo_no)) (mo_bf (mo_bf mo_i2 mo_no) (mo_bf mo_iald mo_no)))) (mo_bf (mo_bf (mo_bf (mo_bf mo_ld mo_no) (mo_bf mo_gr mo_no)) (mo_bf (mo_bf mo_ld mo_no) (mo_bf mo_iald mo_no))) (mo_bf (mo_bf (mo_bf mo_dup2 mo_no) (mo_bf mo_iald mo_no)) (mo_bf (mo_bf mo_ld mo_no) (mo_bf mo_gr mo_no)))))) (mo_bf (mo_bf (mo_bf (mo_bf (mo_bf (mo_bf mo_ld mo_no) (mo_bf mo_gr mo_no)) (mo_bf (mo_bf mo_ld mo_no) (mo_bf mo_ic mo_no))) (mo_bf (mo_bf (mo_bf mo_ld mo_no) (mo_bf mo_ld mo_no)) (mo_bf (mo_bf mo_ic mo_no) (mo_bf mo_gi mo_no)))) (mo_bf (mo_bf (mo_bf (mo_bf mo_gr mo_no) (mo_bf mo_ld mo_no)) (mo_bf (mo_bf mo_ld mo_no) (mo_bf mo_st mo_no))) (mo_bf (mo_bf (mo_bf mo_push mo_no) (mo_bf mo_go mo_no)) (mo_bf (mo_bf mo_inc mo_no) (mo_bf mo_iast mo_no))))) (mo_bf (mo_bf (mo_bf (mo_bf (mo_bf mo_cv mo_no) (mo_bf mo_ld mo_no)) (mo_bf (mo_bf mo_gr mo_no) (mo_bf mo_ld mo_no))) (mo_bf (mo_bf (mo_bf mo_ld mo_no) (mo_bf mo_gr mo_no)) (mo_bf (mo_bf mo_ld mo_no) (mo_bf mo_ic mo_no)))) (mo_bf (mo_bf (mo_bf (mo_bf mo_push mo_no) (mo_bf mo_ld mo_no)) (mo_bf (mo_bf mo_st mo_no) (mo_bf mo_push mo_no))) (mo_bf (mo_bf (mo_bf mo_cs mo_no) (mo_bf mo_push mo_no)) (mo_bf (mo_bf mo_gr mo_no) (mo_bf mo_ld mo_no)))))))
theorem ok_X2_limitByLine_0 : ok_S 27 0 (sf_push (2, (-3)) 3) := ok_first (by decide +kernel : decode (mb_ 27) 0 = .ok (.getstatic 170, 3)) tw_732
theorem ok_X2_limitByLine_3 : ok_S 27 3 (sf_ld 2 0 4) := ok_aload_n (by decide +kernel : decode (mb_ 27) 3 = .ok (.aload_n 0, 1)) rfl
theorem ok_X2_limitByLine_4 : ok_S 27 4 (sf_gr 9 9 8 7) := ok_gr fd_9_8 (by decide +kernel : decode (mb_ 27) 4 = .ok (.getfield 41, 3)) tw_95 (Or.inl rfl) rfl
theorem ok_X2_limitByLine_7 : ok_S 27 7 (sf_ld 0 1 8) := ok_iload_n (by decide +kernel : decode (mb_ 27) 7 = .ok (.iload_n 1, 1)) rfl
theorem ok_X2_limitByLine_8 : ok_S 27 8 (sf_iald 9) := ok_iald (by decide +kernel : decode (mb_ 27) 8 = .ok (.iaload, 1))
theorem ok_X2_limitByLine_9 : ok_S 27 9 (sf_iald 10) := ok_iald (by decide +kernel : decode (mb_ 27) 9 = .ok (.iaload, 1))
theorem ok_X2_limitByLine_10 : ok_S 27 10 (sf_st 0 2 11) := ok_istore_n (by decide +kernel : decode (mb_ 27) 10 = .ok (.istore_n 2, 1)) rfl
theorem ok_X2_limitByLine_11 : ok_S 27 11 (sf_push (2, (-4)) 14) := ok_second (by decide +kernel : decode (mb_ 27) 11 = .ok (.getstatic 173, 3)) tw_734
theorem ok_X2_limitByLine_14 : ok_S 27 14 (sf_ld 2 0 15) := ok_aload_n (by decide +kernel : decode (mb_ 27) 14 = .ok (.aload_n 0, 1)) rfl
theorem ok_X2_limitByLine_15 : ok_S 27 15 (sf_gr 9 9 8 18) := ok_gr fd_9_8 (by decide +kernel : decode (mb_ 27) 15 = .ok (.getfield 41, 3)) tw_95 (Or.inl rfl) rfl
theorem ok_X2_limitByLine_18 : ok_S 27 18 (sf_ld 0 1 19) := ok_iload_n (by decide +kernel : decode (mb_ 27) 18 = .ok (.iload_n 1, 1)) rfl
theorem ok_X2_limitByLine_19 : ok_S 27 19 (sf_iald 20) := ok_iald (by decide +kernel : decode (mb_ 27) 19 = .ok (.iaload, 1))
theorem ok_X2_limitByLine_20 : ok_S 27 20 (sf_iald 21) := ok_iald (by decide +kernel : decode (mb_ 27) 20 = .ok (.iaload, 1))
theorem ok_X2_limitByLine_21 : ok_S 27 21 (sf_st 0 3 22) := ok_istore_n (by decide +kernel : decode (mb_ 27) 21 = .ok (.istore_n 3, 1)) rfl
theorem ok_X2_limitByLine_22 : ok_S 27 22 (sf_ld 0 2 23) := ok_iload_n (by decide +kernel : decode (mb_ 27) 22 = .ok (.iload_n 2, 1)) rfl
theorem ok_X2_limitByLine_23 : ok_S 27 23 (sf_if 3 27 26) := ok_if3 (by decide +kernel : decode (mb_ 27) 23 = .ok (.ifCond .ge 4, 3)) (by decide)
theorem ok_X2_limitByLine_26 : ok_S 27 26 (sf_retv) := ok_retv (by decide +kernel : decode (mb_ 27) 26 = .ok (.return_, 1)) rfl
theorem ok_X2_limitByLine_27 : ok_S 27 27 (sf_ld 0 3 28) := ok_iload_n (by decide +kernel : decode (mb_ 27) 27 = .ok (.iload_n 3, 1)) rfl
theorem ok_X2_limitByLine_28 : ok_S 27 28 (sf_if 3 50 31) := ok_if3 (by decide +kernel : decode (mb_ 27) 28 = .ok (.ifCond .ge 22, 3)) (by decide)
theorem ok_X2_limitByLine_31 : ok_S 27 31 (sf_ld 2 0 32) := ok_aload_n (by decide +kernel : decode (mb_ 27) 31 = .ok (.aload_n 0, 1)) rfl
theorem ok_X2_limitByLine_32 : ok_S 27 32 (sf_gr 9 9 9 35) := ok_gr fd_9_9 (by decide +kernel : decode (mb_ 27) 32 = .ok (.getfield 44, 3)) tw_96 (Or.inl rfl) rfl
theorem ok_X2_limitByLine_35 : ok_S 27 35 (sf_ld 0 2 36) := ok_iload_n (by decide +kernel : decode (mb_ 27) 35 = .ok (.iload_n 2, 1)) rfl
theorem ok_X2_limitByLine_36 : ok_S 27 36 (sf_ld 2 0 37) := ok_aload_n (by decide +kernel : decode (mb_ 27) 36 = .ok (.aload_n 0, 1)) rfl
theorem ok_X2_limitByLine_37 : ok_S 27 37 (sf_ld 0 1 38) := ok_iload_n (by decide +kernel : decode (mb_ 27) 37 = .ok (.iload_n 1, 1)) rfl
theorem ok_X2_limitByLine_38 : ok_S 27 38 (sf_ld 0 2 39) := ok_iload_n (by decide +kernel : decode (mb_ 27) 38 = .ok (.iload_n 2, 1)) rfl
theorem ok_X2_limitByLine_39 : ok_S 27 39 (sf_ld 2 0 40) := ok_aload_n (by decide +kernel : decode (mb_ 27) 39 = .ok (.aload_n 0, 1)) rfl
theorem ok_X2_limitByLine_40 : ok_S 27 40 (sf_gr 9 9 9 43) := ok_gr fd_9_9 (by decide +kernel : decode (mb_ 27) 40 = .ok (.getfield 44, 3)) tw_96 (Or.inl rfl) rfl
theorem ok_X2_limitByLine_43 : ok_S 27 43 (sf_ld 0 2 44) := ok_iload_n (by decide +kernel : decode (mb_ 27) 43 = .ok (.iload_n 2, 1)) rfl
theorem ok_X2_limitByLine_44 : ok_S 27 44 (sf_iald 45) := ok_iald (by decide +kernel : decode (mb_ 27) 44 = .ok (.iaload, 1))
theorem ok_X2_limitByLine_45 : ok_S 27 45 (sf_cv 9 [2, 0, 0, 0] 28 48) := ok_cv mt_28 cl_9 (by decide +kernel : decode (mb_ 27) 45 = .ok (.invokevirtual 176, 3)) tw_736 tw_738 ts_17 tw_2 rfl (by decide +kernel) (mh_ok rfl) (by decide) (by decide)
theorem ok_X2_limitByLine_48 : ok_S 27 48 (sf_iast 49) := ok_iast (by decide +kernel : decode (mb_ 27) 48 = .ok (.iastore, 1))
theorem ok_X2_limitByLine_49 : ok_S 27 49 (sf_retv) := ok_retv (by decide +kernel : decode (mb_ 27) 49 = .ok (.return_, 1)) rfl
theorem ok_X2_limitByLine_50 : ok_S 27 50 (sf_push (0, 3) 51) := ok_iconst (by decide +kernel : decode (mb_ 27) 50 = .ok (.iconst 3, 1)) ⟨by decide, by decide⟩
theorem ok_X2_limitByLine_51 : ok_S 27 51 (sf_ld 0 2 52) := ok_iload_n (by decide +kernel : decode (mb_ 27) 51 = .ok (.iload_n 2, 1)) rfl
theorem ok_X2_limitByLine_52 : ok_S 27 52 (sf_ld 0 3 53) := ok_iload_n (by decide +kernel : decode (mb_ 27) 52 = .ok (.iload_n 3, 1)) rfl
theorem ok_X2_limitByLine_53 : ok_S 27 53 (sf_i2 mx_add 54) := ok_iadd (by decide +kernel : decode (mb_ 27) 53 = .ok (.iadd, 1))
theorem ok_X2_limitByLine_54 : ok_S 27 54 (sf_push (0, 1) 55) := ok_iconst (by decide +kernel : decode (mb_ 27) 54 = .ok (.iconst 1, 1)) ⟨by decide, by decide⟩
theorem ok_X2_limitByLine_55 : ok_S 27 55 (sf_i2 mx_sub 56) := ok_isub (by decide +kernel : decode (mb_ 27) 55 = .ok (.isub, 1))
theorem ok_X2_limitByLine_56 : ok_S 27 56 (sf_push (0, 17) 58) := ok_bipush (by decide +kernel : decode (mb_ 27) 56 = .ok (.bipush 17, 2)) ⟨by decide, by decide⟩ (by decide +kernel)
theorem ok_X2_limitByLine_58 : ok_S 27 58 (sf_i2 mx_mul 59) := ok_imul (by decide +kernel : decode (mb_ 27) 58 = .ok (.imul, 1))
theorem ok_X2_limitByLine_59 : ok_S 27 59 (sf_i2 mx_add 60) := ok_iadd (by decide +kernel : decode (mb_ 27) 59 = .ok (.iadd, 1))
theorem ok_X2_limitByLine_60 : ok_S 27 60 (sf_st 0 4 62) := ok_istore (by decide +kernel : decode (mb_ 27) 60 = .ok (.istore 4, 2))
theorem ok_X2_limitByLine_62 : ok_S 27 62 (sf_push (0, 2) 63) := ok_iconst (by decide +kernel : decode (mb_ 27) 62 = .ok (.iconst 2, 1)) ⟨by decide, by decide⟩
theorem ok_X2_limitByLine_63 : ok_S 27 63 (sf_st 0 5 65) := ok_istore (by decide +kernel : decode (mb_ 27) 63 = .ok (.istore 5, 2))
theorem ok_X2_limitByLine_65 : ok_S 27 65 (sf_ld 0 5 67) := ok_iload (by decide +kernel : decode (mb_ 27) 65 = .ok (.iload 5, 2))
theorem ok_X2_limitByLine_67 : ok_S 27 67 (sf_push (0, 16) 69) := ok_bipush (by decide +kernel : decode (mb_ 27) 67 = .ok (.bipush 16, 2)) ⟨by decide, by decide⟩ (by decide +kernel)
theorem ok_X2_limitByLine_69 : ok_S 27 69 (sf_ic 4 136 72) := ok_ic4 (by decide +kernel : decode (mb_ 27) 69 = .ok (.if_icmp .gt 67, 3)) (by decide)
theorem ok_X2_limitByLine_72 : ok_S 27 72 (sf_ld 2 0 73) := ok_aload_n (by decide +kernel : decode (mb_ 27) 72 = .ok (.aload_n 0, 1)) rfl
theorem ok_X2_limitByLine_73 : ok_S 27 73 (sf_gr 9 9 9 76) := ok_gr fd_9_9 (by decide +kernel : decode (mb_ 27) 73 = .ok (.getfield 44, 3)) tw_96 (Or.inl rfl) rfl
theorem ok_X2_limitByLine_76 : ok_S 27 76 (sf_ld 0 2 77) := ok_iload_n (by decide +kernel : decode (mb_ 27) 76 = .ok (.iload_n 2, 1)) rfl
theorem ok_X2_limitByLine_77 : ok_S 27 77 (sf_iald 78) := ok_iald (by decide +kernel : decode (mb_ 27) 77 = .ok (.iaload, 1))
theorem ok_X2_limitByLine_78 : ok_S 27 78 (sf_ld 0 5 80) := ok_iload (by decide +kernel : decode (mb_ 27) 78 = .ok (.iload 5, 2))
theorem ok_X2_limitByLine_80 : ok_S 27 80 (sf_i2 mx_shr 81) := ok_ishr (by decide +kernel : decode (mb_ 27) 80 = .ok (.ishr, 1))
theorem ok_X2_limitByLine_81 : ok_S 27 81 (sf_push (0, 1) 82) := ok_iconst (by decide +kernel : decode (mb_ 27) 81 = .ok (.iconst 1, 1)) ⟨by decide, by decide⟩
theorem ok_X2_limitByLine_82 : ok_S 27 82 (sf_i2 mx_and 83) := ok_iand (by decide +kernel : decode (mb_ 27) 82 = .ok (.iand, 1))
theorem ok_X2_limitByLine_83 : ok_S 27 83 (sf_if 1 89 86) := ok_if1 (by decide +kernel : decode (mb_ 27) 83 = .ok (.ifCond .ne 6, 3)) (by decide)
theorem ok_X2_limitByLine_86 : ok_S 27 86 (sf_go 130) := ok_goto (by decide +kernel : decode (mb_ 27) 86 = .ok (.goto 44, 3)) (by decide)
theorem ok_X2_limitByLine_89 : ok_S 27 89 (sf_ld 2 0 90) := ok_aload_n (by decide +kernel : decode (mb_ 27) 89 = .ok (.aload_n 0, 1)) rfl
theorem ok_X2_limitByLine_90 : ok_S 27 90 (sf_gr 9 9 1 93) := ok_gr fd_9_1 (by decide +kernel : decode (mb_ 27) 90 = .ok (.getfield 18, 3)) tw_84 (Or.inl rfl) rfl
theorem ok_X2_limitByLine_93 : ok_S 27 93 (sf_ld 0 2 94) := ok_iload_n (by decide +kernel : decode (mb_ 27) 93 = .ok (.iload_n 2, 1)) rfl
theorem ok_X2_limitByLine_94 : ok_S 27 94 (sf_ld 0 5 96) := ok_iload (by decide +kernel : decode (mb_ 27) 94 = .ok (.iload 5, 2))
theorem ok_X2_limitByLine_96 : ok_S 27 96 (sf_iast 97) := ok_iast (by decide +kernel : decode (mb_ 27) 96 = .ok (.iastore, 1))
theorem ok_X2_limitByLine_97 : ok_S 27 97 (sf_ld 2 0 98) := ok_aload_n (by decide +kernel : decode (mb_ 27) 97 = .ok (.aload_n 0, 1)) rfl
theorem ok_X2_limitByLine_98 : ok_S 27 98 (sf_gr 9 9 9 101) := ok_gr fd_9_9 (by decide +kernel : decode (mb_ 27) 98 = .ok (.getfield 44, 3)) tw_96 (Or.inl rfl) rfl
theorem ok_X2_limitByLine_101 : ok_S 27 101 (sf_ld 0 4 103) := ok_iload (by decide +kernel : decode (mb_ 27) 101 = .ok (.iload 4, 2))
theorem ok_X2_limitByLine_103 : ok_S 27 103 (sf_ld 0 5 105) := ok_iload (by decide +kernel : decode (mb_ 27) 103 = .ok (.iload 5, 2))
theorem ok_X2_limitByLine_105 : ok_S 27 105 (sf_i2 mx_add 106) := ok_iadd (by decide +kernel : decode (mb_ 27) 105 = .ok (.iadd, 1))
theorem ok_X2_limitByLine_106 : ok_S 27 106 (sf_ld 2 0 107) := ok_aload_n (by decide +kernel : decode (mb_ 27) 106 = .ok (.aload_n 0, 1)) rfl
theorem ok_X2_limitByLine_107 : ok_S 27 107 (sf_ld 0 1 108) := ok_iload_n (by decide +kernel : decode (mb_ 27) 107 = .ok (.iload_n 1, 1)) rfl
theorem ok_X2_limitByLine_108 : ok_S 27 108 (sf_ld 0 3 109) := ok_iload_n (by decide +kernel : decode (mb_ 27) 108 = .ok (.iload_n 3, 1)) rfl
theorem ok_X2_limitByLine_109 : ok_S 27 109 (sf_ld 2 0 110) := ok_aload_n (by decide +kernel : decode (mb_ 27) 109 = .ok (.aload_n 0, 1)) rfl
theorem ok_X2_limitByLine_110 : ok_S 27 110 (sf_gr 9 9 9 113) := ok_gr fd_9_9 (by decide +kernel : decode (mb_ 27) 110 = .ok (.getfield 44, 3)) tw_96 (Or.inl rfl) rfl
theorem ok_X2_limitByLine_113 : ok_S 27 113 (sf_ld 0 4 115) := ok_iload (by decide +kernel : decode (mb_ 27) 113 = .ok (.iload 4, 2))
theorem ok_X2_limitByLine_115 : ok_S 27 115 (sf_ld 0 5 117) := ok_iload (by decide +kernel : decode (mb_ 27) 115 = .ok (.iload 5, 2))
theorem ok_X2_limitByLine_117 : ok_S 27 117 (sf_i2 mx_add 118) := ok_iadd (by decide +kernel : decode (mb_ 27) 117 = .ok (.iadd, 1))
theorem ok_X2_limitByLine_118 : ok_S 27 118 (sf_iald 119) := ok_iald (by decide +kernel : decode (mb_ 27) 118 = .ok (.iaload, 1))
theorem ok_X2_limitByLine_119 : ok_S 27 119 (sf_ld 2 0 120) := ok_aload_n (by decide +kernel : decode (mb_ 27) 119 = .ok (.aload_n 0, 1)) rfl
theorem ok_X2_limitByLine_120 : ok_S 27 120 (sf_gr 9 9 9 123) := ok_gr fd_9_9 (by decide +kernel : decode (mb_ 27) 120 = .ok (.getfield 44, 3)) tw_96 (Or.inl rfl) rfl
theorem ok_X2_limitByLine_123 : ok_S 27 123 (sf_ld 0 3 124) := ok_iload_n (by decide +kernel : decode (mb_ 27) 123 = .ok (.iload_n 3, 1)) rfl
theorem ok_X2_limitByLine_124 : ok_S 27 124 (sf_iald 125) := ok_iald (by decide +kernel : decode (mb_ 27) 124 = .ok (.iaload, 1))
theorem ok_X2_limitByLine_125 : ok_S 27 125 (sf_i2 mx_and 126) := ok_iand (by decide +kernel : decode (mb_ 27) 125 = .ok (.iand, 1))
theorem ok_X2_limitByLine_126 : ok_S 27 126 (sf_cv 9 [2, 0, 0, 0] 28 129) := ok_cv mt_28 cl_9 (by decide +kernel : decode (mb_ 27) 126 = .ok (.invokevirtual 176, 3)) tw_736 tw_738 ts_17 tw_2 rfl (by decide +kernel) (mh_ok rfl) (by decide) (by decide)
theorem ok_X2_limitByLine_129 : ok_S 27 129 (sf_iast 130) := ok_iast (by decide +kernel : decode (mb_ 27) 129 = .ok (.iastore, 1))
theorem ok_X2_limitByLine_130 : ok_S 27 130 (sf_inc 5 1 133) := ok_iinc (by decide +kernel : decode (mb_ 27) 130 = .ok (.iinc 5 1, 3))
theorem ok_X2_limitByLine_133 : ok_S 27 133 (sf_go 65) := ok_goto (by decide +kernel : decode (mb_ 27) 133 = .ok (.goto (-68), 3)) (by decide)
theorem ok_X2_limitByLine_136 : ok_S 27 136 (sf_retv) := ok_retv (by decide +kernel : decode (mb_ 27) 136 = .ok (.return_, 1)) rfl
theorem ok_X2_limitByLine (pc : Nat) : ok_S 27 pc (cd_X2_limitByLine pc) :=
  (ok_bf (ok_bf (ok_bf (ok_bf (ok_bf (ok_bf (ok_bf (ok_lf pc ok_X2_limitByLine_136) (ok_lf pc ok_X2_limitByLine_133)) (ok_lf pc ok_X2_limitByLine_130)) (ok_bf (ok_bf (ok_lf pc ok_X2_limitByLine_129) (ok_lf pc ok_X2_limitByLine_126)) (ok_lf pc ok_X2_limitByLine_125))) (ok_bf (ok_bf (ok_bf (ok_lf pc ok_X2_limitByLine_124) (ok_lf pc ok_X2_limitByLine_123)) (ok_lf pc ok_X2_limitByLine_120)) (ok_bf (ok_lf pc ok_X2_limitByLine_119) (ok_lf pc ok_X2_limitByLine_118)))) (ok_bf (ok_bf (ok_bf (ok_bf (ok_lf pc ok_X2_limitByLine_117) (ok_lf pc ok_X2_limitByLine_115)) (ok_lf pc ok_X2_limitByLine_113)) (ok_bf (ok_bf (ok_lf pc ok_X2_limitByLine_110) (ok_lf pc ok_X2_limitByLine_109)) (ok_lf pc ok_X2_limitByLine_108))) (ok_bf (ok_bf (ok_bf (ok_lf pc ok_X2_limitByLine_107) (ok_lf pc ok_X2_limitByLine_106)) (ok_lf pc ok_X2_limitByLine_105)) (ok_bf (ok_lf pc ok_X2_limitByLine_103) (ok_lf pc ok_X2_limitByLine_101))))) (ok_bf (ok_bf (ok_bf (ok_bf (ok_bf (ok_lf pc ok_X2_limitByLine_98) (ok_lf pc ok_X2_limitByLine_97)) (ok_lf pc ok_X2_limitByLine_96)) (ok_bf (ok_bf (ok_lf pc ok_X2_limitByLine_94) (ok_lf pc ok_X2_limitByLine_93)) (ok_lf pc ok_X2_limitByLine_90))) (ok_bf (ok_bf (ok_bf (ok_lf pc ok_X2_limitByLine_89) (ok_lf pc ok_X2_limitByLine_86)) (ok_lf pc ok_X2_limitByLine_83)) (ok_bf (ok_lf pc ok_X2_limitByLine_82) (ok_lf pc ok_X2_limitByLine_81)))) (ok_bf (ok_bf (ok_bf (ok_bf (ok_lf pc ok_X2_limitByLine_80) (ok_lf pc ok_X2_limitByLine_78)) (ok_lf pc ok_X2_limitByLine_77)) (ok_bf (ok_lf pc ok_X2_limitByLine_76) (ok_lf pc ok_X2_limitByLine_73))) (ok_bf (ok_bf (ok_bf (ok_lf pc ok_X2_limitByLine_72) (ok_lf pc ok_X2_limitByLine_69)) (ok_lf pc ok_X2_limitByLine_67)) (ok_bf (ok_lf pc ok_X2_limitByLine_65) (ok_lf pc ok_X2_limitByLine_63)))))) (ok_bf (ok_bf (ok_bf (ok_bf (ok_bf (ok_bf (ok_lf pc ok_X2_limitByLine_62) (ok_lf pc ok_X2_limitByLine_60)) (ok_lf pc ok_X2_limitByLine_59)) (ok_bf (ok_bf (ok_lf pc ok_X2_limitByLine_58) (ok_lf pc ok_X2_limitByLine_56)) (ok_lf pc ok_X2_limitByLine_55))) (ok_bf (ok_bf (ok_bf (ok_lf pc ok_X2_limitByLine_54) (ok_lf pc ok_X2_limitByLine_53)) (ok_lf pc ok_X2_limitByLine_52)) (ok_bf (ok_lf pc ok_X2_limitByLine_51) (ok_lf pc ok_X2_limitByLine_50)))) (ok_bf (ok_bf (ok_bf (ok_bf (ok_lf pc ok_X2_limitByLine_49) (ok_lf pc ok_X2_limitByLine_48)) (ok_lf pc ok_X2_limitByLine_45)) (ok_bf (ok_bf (ok_lf pc ok_X2_limitByLine_44) (ok_lf pc ok_X2_limitByLine_43)) (ok_lf pc ok_X2_limitByLine_40))) (ok_bf (ok_bf (ok_bf (ok_lf pc ok_X2_limitByLine_39) (ok_lf pc ok_X2_limitByLine_38)) (ok_lf pc ok_X2_limitByLine_37)) (ok_bf (ok_lf pc ok_X2_limitByLine_36) (ok_lf pc ok_X2_limitByLine_35))))) (ok_bf (ok_bf (ok_bf (ok_bf (ok_bf (ok_lf pc ok_X2_limitByLine_32) (ok_lf pc ok_X2_limitByLine_31)) (ok_lf pc ok_X2_limitByLine_28)) (ok_bf (ok_bf (ok_lf pc ok_X2_limitByLine_27) (ok_lf pc ok_X2_limitByLine_26)) (ok_lf pc ok_X2_limitByLine_23))) (ok_bf (ok_bf (ok_bf (ok_lf pc ok_X2_limitByLine_22) (ok_lf pc ok_X2_limitByLine_21)) (ok_lf pc ok_X2_limitByLine_20)) (ok_bf (ok_lf pc ok_X2_limitByLine_19) (ok_lf pc ok_X2_limitByLine_18)))) (ok_bf (ok_bf (ok_bf (ok_bf (ok_lf pc ok_X2_limitByLine_15) (ok_lf pc ok_X2_limitByLine_14)) (ok_lf pc ok_X2_limitByLine_11)) (ok_bf (ok_lf pc ok_X2_limitByLine_10) (ok_lf pc ok_X2_limitByLine_9))) (ok_bf (ok_bf (ok_bf (ok_lf pc ok_X2_limitByLine_8) (ok_lf pc ok_X2_limitByLine_7)) (ok_lf pc ok_X2_limitByLine_4)) (ok_bf (ok_lf pc ok_X2_limitByLine_3) (ok_lf pc ok_X2_limitByLine_0)))))))
theorem mo_X2_limitByLine (pc : Nat) : mo_S (cd_X2_limitByLine pc) :=
  (mo_bf (mo_bf (mo_bf (mo_bf (mo_bf (mo_bf (mo_bf (mo_bf mo_retv mo_no) (mo_bf mo_go mo_no)) (mo_bf mo_inc mo_no)) (mo_bf (mo_bf (mo_bf mo_iast mo_no) (mo_bf mo_cv mo_no)) (mo_bf mo_i2 mo_no))) (mo_bf (mo_bf (mo_bf (mo_bf mo_iald mo_no) (mo_bf mo_ld mo_no)) (mo_bf mo_gr mo_no)) (mo_bf (mo_bf mo_ld mo_no) (mo_bf mo_iald mo_no)))) (mo_bf (mo_bf (mo_bf (mo_bf (mo_bf mo_i2 mo_no) (mo_bf mo_ld mo_no)) (mo_bf mo_ld mo_no)) (mo_bf (mo_bf (mo_bf mo_gr mo_no) (mo_bf mo_ld mo_no)) (mo_bf mo_ld mo_no))) (mo_bf (mo_bf (mo_bf (mo_bf mo_ld mo_no) (mo_bf mo_ld mo_no)) (mo_bf mo_i2 mo_no)) (mo_bf (mo_bf mo_ld mo_no) (mo_bf mo_ld mo_no))))) (mo_bf (mo_bf (mo_bf (mo_bf (mo_bf (mo_bf mo_gr mo_no) (mo_bf mo_ld mo_no)) (mo_bf mo_iast mo_no)) (mo_bf (mo_bf (mo_bf mo_ld mo_no) (mo_bf mo_ld mo_no)) (mo_bf mo_gr mo_no))) (mo_bf (mo_bf (mo_bf (mo_bf mo_ld mo_no) (mo_bf mo_go mo_no)) (mo_bf mo_if mo_no)) (mo_bf (mo_bf mo_i2 mo_no) (mo_bf mo_push mo_no)))) (mo_bf (mo_bf (mo_bf (mo_bf (mo_bf mo_i2 mo_no) (mo_bf mo_ld mo_no)) (mo_bf mo_iald mo_no)) (mo_bf (mo_bf mo_ld mo_no) (mo_bf mo_gr mo_no))) (mo_bf (mo_bf (mo_bf (mo_bf mo_ld mo_no) (mo_bf mo_ic mo_no)) (mo_bf mo_push mo_no)) (mo_bf (mo_bf mo_ld mo_no) (mo_bf mo_st mo_no)))))) (mo_bf (mo_bf (mo_bf (mo_bf (mo_bf (mo_bf (mo_bf mo_push mo_no) (mo_bf mo_st mo_no)) (mo_bf mo_i2 mo_no)) (mo_bf (mo_bf (mo_bf mo_i2 mo_no) (mo_bf mo_push mo_no)) (mo_bf mo_i2 mo_no))) (mo_bf (mo_bf (mo_bf (mo_bf mo_push mo_no) (mo_bf mo_i2 mo_no)) (mo_bf mo_ld mo_no)) (mo_bf (mo_bf mo_ld mo_no) (mo_bf mo_push mo_no)))) (mo_bf (mo_bf (mo_bf (mo_bf (mo_bf mo_retv mo_no) (mo_bf mo_iast mo_no)) (mo_bf mo_cv mo_no)) (mo_bf (mo_bf (mo_bf mo_iald mo_no) (mo_bf mo_ld mo_no)) (mo_bf mo_gr mo_no))) (mo_bf (mo_bf (mo_bf (mo_bf mo_ld mo_no) (mo_bf mo_ld mo_no)) (mo_bf mo_ld mo_no)) (mo_bf (mo_bf mo_ld mo_no) (mo_bf mo_ld mo_no))))) (mo_bf (mo_bf (mo_bf (mo_bf (mo_bf (mo_bf mo_gr mo_no) (mo_bf mo_ld mo_no)) (mo_bf mo_if mo_no)) (mo_bf (mo_bf (mo_bf mo_ld mo_no) (mo_bf mo_retv mo_no)) (mo_bf mo_if mo_no))) (mo_bf (mo_bf (mo_bf (mo_bf mo_ld mo_no) (mo_bf mo_st mo_no)) (mo_bf mo_iald mo_no)) (mo_bf (mo_bf mo_iald mo_no) (mo_bf mo_ld mo_no)))) (mo_bf (mo_bf (mo_bf (mo_bf (mo_bf mo_gr mo_no) (mo_bf mo_ld mo_no)) (mo_bf mo_push mo_no)) (mo_bf (mo_bf mo_st mo_no) (mo_bf mo_iald mo_no))) (mo_bf (mo_bf (mo_bf (mo_bf mo_iald mo_no) (mo_bf mo_ld mo_no)) (mo_bf mo_gr mo_no)) (mo_bf (mo_bf mo_ld mo_no) (mo_bf mo_push mo_no)))))))
theorem ok_X2_basesThatHold_0 : ok_S 28 0 (sf_ld 2 0 1) := ok_aload_n (by decide +kernel : decode (mb_ 28) 0 = .ok (.aload_n 0, 1)) rfl
theorem ok_X2_basesThatHold_1 : ok_S 28 1 (sf_gr 9 9 0 4) := ok_gr fd_9_0 (by decide +kernel : decode (mb_ 28) 1 = .ok (.getfield 12, 3)) tw_82 (Or.inl rfl) rfl
theorem ok_X2_basesThatHold_4 : ok_S 28 4 (sf_gr 8 8 2 7) := ok_gr fd_8_2 (by decide +kernel : decode (mb_ 28) 4 = .ok (.getfield 158, 3)) tw_53 (Or.inl rfl) rfl
theorem ok_X2_basesThatHold_7 : ok_S 28 7 (sf_st 2 4 9) := ok_astore (by decide +kernel : decode (mb_ 28) 7 = .ok (.astore 4, 2))
theorem ok_X2_basesThatHold_9 : ok_S 28 9 (sf_ld 2 4 11) := ok_aload (by decide +kernel : decode (mb_ 28) 9 = .ok (.aload 4, 2))
theorem ok_X2_basesThatHold_11 : ok_S 28 11 (sf_ld 0 1 12) := ok_iload_n (by decide +kernel : decode (mb_ 28) 11 = .ok (.iload_n 1, 1)) rfl
theorem ok_X2_basesThatHold_12 : ok_S 28 12 (sf_push (0, 4) 13) := ok_iconst (by decide +kernel : decode (mb_ 28) 12 = .ok (.iconst 4, 1)) ⟨by decide, by decide⟩
theorem ok_X2_basesThatHold_13 : ok_S 28 13 (sf_i2 mx_mul 14) := ok_imul (by decide +kernel : decode (mb_ 28) 13 = .ok (.imul, 1))
theorem ok_X2_basesThatHold_14 : ok_S 28 14 (sf_iald 15) := ok_iald (by decide +kernel : decode (mb_ 28) 14 = .ok (.iaload, 1))
theorem ok_X2_basesThatHold_15 : ok_S 28 15 (sf_st 0 5 17) := ok_istore (by decide +kernel : decode (mb_ 28) 15 = .ok (.istore 5, 2))
theorem ok_X2_basesThatHold_17 : ok_S 28 17 (sf_ld 2 4 19) := ok_aload (by decide +kernel : decode (mb_ 28) 17 = .ok (.aload 4, 2))
theorem ok_X2_basesThatHold_19 : ok_S 28 19 (sf_ld 0 1 20) := ok_iload_n (by decide +kernel : decode (mb_ 28) 19 = .ok (.iload_n 1, 1)) rfl
theorem ok_X2_basesThatHold_20 : ok_S 28 20 (sf_push (0, 4) 21) := ok_iconst (by decide +kernel : decode (mb_ 28) 20 = .ok (.iconst 4, 1)) ⟨by decide, by decide⟩
theorem ok_X2_basesThatHold_21 : ok_S 28 21 (sf_i2 mx_mul 22) := ok_imul (by decide +kernel : decode (mb_ 28) 21 = .ok (.imul, 1))
theorem ok_X2_basesThatHold_22 : ok_S 28 22 (sf_push (0, 1) 23) := ok_iconst (by decide +kernel : decode (mb_ 28) 22 = .ok (.iconst 1, 1)) ⟨by decide, by decide⟩
theorem ok_X2_basesThatHold_23 : ok_S 28 23 (sf_i2 mx_add 24) := ok_iadd (by decide +kernel : decode (mb_ 28) 23 = .ok (.iadd, 1))
theorem ok_X2_basesThatHold_24 : ok_S 28 24 (sf_iald 25) := ok_iald (by decide +kernel : decode (mb_ 28) 24 = .ok (.iaload, 1))
theorem ok_X2_basesThatHold_25 : ok_S 28 25 (sf_st 0 6 27) := ok_istore (by decide +kernel : decode (mb_ 28) 25 = .ok (.istore 6, 2))
theorem ok_X2_basesThatHold_27 : ok_S 28 27 (sf_ld 2 4 29) := ok_aload (by decide +kernel : decode (mb_ 28) 27 = .ok (.aload 4, 2))
theorem ok_X2_basesThatHold_29 : ok_S 28 29 (sf_ld 0 1 30) := ok_iload_n (by decide +kernel : decode (mb_ 28) 29 = .ok (.iload_n 1, 1)) rfl
theorem ok_X2_basesThatHold_30 : ok_S 28 30 (sf_push (0, 4) 31) := ok_iconst (by decide +kernel : decode (mb_ 28) 30 = .ok (.iconst 4, 1)) ⟨by decide, by decide⟩
theorem ok_X2_basesThatHold_31 : ok_S 28 31 (sf_i2 mx_mul 32) := ok_imul (by decide +kernel : decode (mb_ 28) 31 = .ok (.imul, 1))
theorem ok_X2_basesThatHold_32 : ok_S 28 32 (sf_push (0, 2) 33) := ok_iconst (by decide +kernel : decode (mb_ 28) 32 = .ok (.iconst 2, 1)) ⟨by decide, by decide⟩
theorem ok_X2_basesThatHold_33 : ok_S 28 33 (sf_i2 mx_add 34) := ok_iadd (by decide +kernel : decode (mb_ 28) 33 = .ok (.iadd, 1))
theorem ok_X2_basesThatHold_34 : ok_S 28 34 (sf_iald 35) := ok_iald (by decide +kernel : decode (mb_ 28) 34 = .ok (.iaload, 1))
theorem ok_X2_basesThatHold_35 : ok_S 28 35 (sf_st 0 7 37) := ok_istore (by decide +kernel : decode (mb_ 28) 35 = .ok (.istore 7, 2))
theorem ok_X2_basesThatHold_37 : ok_S 28 37 (sf_ld 2 4 39) := ok_aload (by decide +kernel : decode (mb_ 28) 37 = .ok (.aload 4, 2))
theorem ok_X2_basesThatHold_39 : ok_S 28 39 (sf_ld 0 1 40) := ok_iload_n (by decide +kernel : decode (mb_ 28) 39 = .ok (.iload_n 1, 1)) rfl
theorem ok_X2_basesThatHold_40 : ok_S 28 40 (sf_push (0, 4) 41) := ok_iconst (by decide +kernel : decode (mb_ 28) 40 = .ok (.iconst 4, 1)) ⟨by decide, by decide⟩
theorem ok_X2_basesThatHold_41 : ok_S 28 41 (sf_i2 mx_mul 42) := ok_imul (by decide +kernel : decode (mb_ 28) 41 = .ok (.imul, 1))
theorem ok_X2_basesThatHold_42 : ok_S 28 42 (sf_push (0, 3) 43) := ok_iconst (by decide +kernel : decode (mb_ 28) 42 = .ok (.iconst 3, 1)) ⟨by decide, by decide⟩
theorem ok_X2_basesThatHold_43 : ok_S 28 43 (sf_i2 mx_add 44) := ok_iadd (by decide +kernel : decode (mb_ 28) 43 = .ok (.iadd, 1))
theorem ok_X2_basesThatHold_44 : ok_S 28 44 (sf_iald 45) := ok_iald (by decide +kernel : decode (mb_ 28) 44 = .ok (.iaload, 1))
theorem ok_X2_basesThatHold_45 : ok_S 28 45 (sf_st 0 8 47) := ok_istore (by decide +kernel : decode (mb_ 28) 45 = .ok (.istore 8, 2))
theorem ok_X2_basesThatHold_47 : ok_S 28 47 (sf_ld 0 3 48) := ok_iload_n (by decide +kernel : decode (mb_ 28) 47 = .ok (.iload_n 3, 1)) rfl
theorem ok_X2_basesThatHold_48 : ok_S 28 48 (sf_st 0 9 50) := ok_istore (by decide +kernel : decode (mb_ 28) 48 = .ok (.istore 9, 2))
theorem ok_X2_basesThatHold_50 : ok_S 28 50 (sf_push (0, 2) 51) := ok_iconst (by decide +kernel : decode (mb_ 28) 50 = .ok (.iconst 2, 1)) ⟨by decide, by decide⟩
theorem ok_X2_basesThatHold_51 : ok_S 28 51 (sf_st 0 10 53) := ok_istore (by decide +kernel : decode (mb_ 28) 51 = .ok (.istore 10, 2))
theorem ok_X2_basesThatHold_53 : ok_S 28 53 (sf_ld 0 10 55) := ok_iload (by decide +kernel : decode (mb_ 28) 53 = .ok (.iload 10, 2))
theorem ok_X2_basesThatHold_55 : ok_S 28 55 (sf_push (0, 16) 57) := ok_bipush (by decide +kernel : decode (mb_ 28) 55 = .ok (.bipush 16, 2)) ⟨by decide, by decide⟩ (by decide +kernel)
theorem ok_X2_basesThatHold_57 : ok_S 28 57 (sf_ic 4 207 60) := ok_ic4 (by decide +kernel : decode (mb_ 28) 57 = .ok (.if_icmp .gt 150, 3)) (by decide)
theorem ok_X2_basesThatHold_60 : ok_S 28 60 (sf_ld 0 3 61) := ok_iload_n (by decide +kernel : decode (mb_ 28) 60 = .ok (.iload_n 3, 1)) rfl
theorem ok_X2_basesThatHold_61 : ok_S 28 61 (sf_ld 0 10 63) := ok_iload (by decide +kernel : decode (mb_ 28) 61 = .ok (.iload 10, 2))
theorem ok_X2_basesThatHold_63 : ok_S 28 63 (sf_i2 mx_shr 64) := ok_ishr (by decide +kernel : decode (mb_ 28) 63 = .ok (.ishr, 1))
theorem ok_X2_basesThatHold_64 : ok_S 28 64 (sf_push (0, 1) 65) := ok_iconst (by decide +kernel : decode (mb_ 28) 64 = .ok (.iconst 1, 1)) ⟨by decide, by decide⟩
theorem ok_X2_basesThatHold_65 : ok_S 28 65 (sf_i2 mx_and 66) := ok_iand (by decide +kernel : decode (mb_ 28) 65 = .ok (.iand, 1))
theorem ok_X2_basesThatHold_66 : ok_S 28 66 (sf_if 1 72 69) := ok_if1 (by decide +kernel : decode (mb_ 28) 66 = .ok (.ifCond .ne 6, 3)) (by decide)
theorem ok_X2_basesThatHold_69 : ok_S 28 69 (sf_go 201) := ok_goto (by decide +kernel : decode (mb_ 28) 69 = .ok (.goto 132, 3)) (by decide)
theorem ok_X2_basesThatHold_72 : ok_S 28 72 (sf_ld 2 0 73) := ok_aload_n (by decide +kernel : decode (mb_ 28) 72 = .ok (.aload_n 0, 1)) rfl
theorem ok_X2_basesThatHold_73 : ok_S 28 73 (sf_gr 9 9 1 76) := ok_gr fd_9_1 (by decide +kernel : decode (mb_ 28) 73 = .ok (.getfield 18, 3)) tw_84 (Or.inl rfl) rfl
theorem ok_X2_basesThatHold_76 : ok_S 28 76 (sf_ld 0 2 77) := ok_iload_n (by decide +kernel : decode (mb_ 28) 76 = .ok (.iload_n 2, 1)) rfl
theorem ok_X2_basesThatHold_77 : ok_S 28 77 (sf_ld 0 10 79) := ok_iload (by decide +kernel : decode (mb_ 28) 77 = .ok (.iload 10, 2))
theorem ok_X2_basesThatHold_79 : ok_S 28 79 (sf_iast 80) := ok_iast (by decide +kernel : decode (mb_ 28) 79 = .ok (.iastore, 1))
theorem ok_X2_basesThatHold_80 : ok_S 28 80 (sf_ld 2 0 81) := ok_aload_n (by decide +kernel : decode (mb_ 28) 80 = .ok (.aload_n 0, 1)) rfl
theorem ok_X2_basesThatHold_81 : ok_S 28 81 (sf_gr 9 9 7 84) := ok_gr fd_9_7 (by decide +kernel : decode (mb_ 28) 81 = .ok (.getfield 38, 3)) tw_94 (Or.inl rfl) rfl
theorem ok_X2_basesThatHold_84 : ok_S 28 84 (sf_ld 0 6 86) := ok_iload (by decide +kernel : decode (mb_ 28) 84 = .ok (.iload 6, 2))
theorem ok_X2_basesThatHold_86 : ok_S 28 86 (sf_push (0, 17) 88) := ok_bipush (by decide +kernel : decode (mb_ 28) 86 = .ok (.bipush 17, 2)) ⟨by decide, by decide⟩ (by decide +kernel)
theorem ok_X2_basesThatHold_88 : ok_S 28 88 (sf_i2 mx_mul 89) := ok_imul (by decide +kernel : decode (mb_ 28) 88 = .ok (.imul, 1))
theorem ok_X2_basesThatHold_89 : ok_S 28 89 (sf_ld 2 0 90) := ok_aload_n (by decide +kernel : decode (mb_ 28) 89 = .ok (.aload_n 0, 1)) rfl
theorem ok_X2_basesThatHold_90 : ok_S 28 90 (sf_gr 9 9 1 93) := ok_gr fd_9_1 (by decide +kernel : decode (mb_ 28) 90 = .ok (.getfield 18, 3)) tw_84 (Or.inl rfl) rfl
theorem ok_X2_basesThatHold_93 : ok_S 28 93 (sf_ld 2 0 94) := ok_aload_n (by decide +kernel : decode (mb_ 28) 93 = .ok (.aload_n 0, 1)) rfl
theorem ok_X2_basesThatHold_94 : ok_S 28 94 (sf_gr 9 9 5 97) := ok_gr fd_9_5 (by decide +kernel : decode (mb_ 28) 94 = .ok (.getfield 32, 3)) tw_92 (Or.inl rfl) rfl
theorem ok_X2_basesThatHold_97 : ok_S 28 97 (sf_ld 0 6 99) := ok_iload (by decide +kernel : decode (mb_ 28) 97 = .ok (.iload 6, 2))
theorem ok_X2_basesThatHold_99 : ok_S 28 99 (sf_iald 100) := ok_iald (by decide +kernel : decode (mb_ 28) 99 = .ok (.iaload, 1))
theorem ok_X2_basesThatHold_100 : ok_S 28 100 (sf_iald 101) := ok_iald (by decide +kernel : decode (mb_ 28) 100 = .ok (.iaload, 1))
theorem ok_X2_basesThatHold_101 : ok_S 28 101 (sf_i2 mx_add 102) := ok_iadd (by decide +kernel : decode (mb_ 28) 101 = .ok (.iadd, 1))
theorem ok_X2_basesThatHold_102 : ok_S 28 102 (sf_iald 103) := ok_iald (by decide +kernel : decode (mb_ 28) 102 = .ok (.iaload, 1))
theorem ok_X2_basesThatHold_103 : ok_S 28 103 (sf_st 0 11 105) := ok_istore (by decide +kernel : decode (mb_ 28) 103 = .ok (.istore 11, 2))
theorem ok_X2_basesThatHold_105 : ok_S 28 105 (sf_ld 0 5 107) := ok_iload (by decide +kernel : decode (mb_ 28) 105 = .ok (.iload 5, 2))
theorem ok_X2_basesThatHold_107 : ok_S 28 107 (sf_push (0, 3) 108) := ok_iconst (by decide +kernel : decode (mb_ 28) 107 = .ok (.iconst 3, 1)) ⟨by decide, by decide⟩
theorem ok_X2_basesThatHold_108 : ok_S 28 108 (sf_ic 1 115 111) := ok_ic1 (by decide +kernel : decode (mb_ 28) 108 = .ok (.if_icmp .ne 7, 3)) (by decide)
theorem ok_X2_basesThatHold_111 : ok_S 28 111 (sf_push (0, 0) 112) := ok_iconst (by decide +kernel : decode (mb_ 28) 111 = .ok (.iconst 0, 1)) ⟨by decide, by decide⟩
theorem ok_X2_basesThatHold_112 : ok_S 28 112 (sf_go 138) := ok_goto (by decide +kernel : decode (mb_ 28) 112 = .ok (.goto 26, 3)) (by decide)
theorem ok_X2_basesThatHold_115 : ok_S 28 115 (sf_ld 2 0 116) := ok_aload_n (by decide +kernel : decode (mb_ 28) 115 = .ok (.aload_n 0, 1)) rfl
theorem ok_X2_basesThatHold_116 : ok_S 28 116 (sf_gr 9 9 7 119) := ok_gr fd_9_7 (by decide +kernel : decode (mb_ 28) 116 = .ok (.getfield 38, 3)) tw_94 (Or.inl rfl) rfl
theorem ok_X2_basesThatHold_119 : ok_S 28 119 (sf_ld 0 7 121) := ok_iload (by decide +kernel : decode (mb_ 28) 119 = .ok (.iload 7, 2))
theorem ok_X2_basesThatHold_121 : ok_S 28 121 (sf_push (0, 17) 123) := ok_bipush (by decide +kernel : decode (mb_ 28) 121 = .ok (.bipush 17, 2)) ⟨by decide, by decide⟩ (by decide +kernel)
theorem ok_X2_basesThatHold_123 : ok_S 28 123 (sf_i2 mx_mul 124) := ok_imul (by decide +kernel : decode (mb_ 28) 123 = .ok (.imul, 1))
theorem ok_X2_basesThatHold_124 : ok_S 28 124 (sf_ld 2 0 125) := ok_aload_n (by decide +kernel : decode (mb_ 28) 124 = .ok (.aload_n 0, 1)) rfl
theorem ok_X2_basesThatHold_125 : ok_S 28 125 (sf_gr 9 9 1 128) := ok_gr fd_9_1 (by decide +kernel : decode (mb_ 28) 125 = .ok (.getfield 18, 3)) tw_84 (Or.inl rfl) rfl
theorem ok_X2_basesThatHold_128 : ok_S 28 128 (sf_ld 2 0 129) := ok_aload_n (by decide +kernel : decode (mb_ 28) 128 = .ok (.aload_n 0, 1)) rfl
theorem ok_X2_basesThatHold_129 : ok_S 28 129 (sf_gr 9 9 5 132) := ok_gr fd_9_5 (by decide +kernel : decode (mb_ 28) 129 = .ok (.getfield 32, 3)) tw_92 (Or.inl rfl) rfl
theorem ok_X2_basesThatHold_132 : ok_S 28 132 (sf_ld 0 7 134) := ok_iload (by decide +kernel : decode (mb_ 28) 132 = .ok (.iload 7, 2))
theorem ok_X2_basesThatHold_134 : ok_S 28 134 (sf_iald 135) := ok_iald (by decide +kernel : decode (mb_ 28) 134 = .ok (.iaload, 1))
theorem ok_X2_basesThatHold_135 : ok_S 28 135 (sf_iald 136) := ok_iald (by decide +kernel : decode (mb_ 28) 135 = .ok (.iaload, 1))
theorem ok_X2_basesThatHold_136 : ok_S 28 136 (sf_i2 mx_add 137) := ok_iadd (by decide +kernel : decode (mb_ 28) 136 = .ok (.iadd, 1))
theorem ok_X2_basesThatHold_137 : ok_S 28 137 (sf_iald 138) := ok_iald (by decide +kernel : decode (mb_ 28) 137 = .ok (.iaload, 1))
theorem ok_X2_basesThatHold_138 : ok_S 28 138 (sf_st 0 12 140) := ok_istore (by decide +kernel : decode (mb_ 28) 138 = .ok (.istore 12, 2))
theorem ok_X2_basesThatHold_140 : ok_S 28 140 (sf_ld 0 5 142) := ok_iload (by decide +kernel : decode (mb_ 28) 140 = .ok (.iload 5, 2))
theorem ok_X2_basesThatHold_142 : ok_S 28 142 (sf_push (0, 2) 143) := ok_iconst (by decide +kernel : decode (mb_ 28) 142 = .ok (.iconst 2, 1)) ⟨by decide, by decide⟩
theorem ok_X2_basesThatHold_143 : ok_S 28 143 (sf_ic 1 172 146) := ok_ic1 (by decide +kernel : decode (mb_ 28) 143 = .ok (.if_icmp .ne 29, 3)) (by decide)
theorem ok_X2_basesThatHold_146 : ok_S 28 146 (sf_ld 2 0 147) := ok_aload_n (by decide +kernel : decode (mb_ 28) 146 = .ok (.aload_n 0, 1)) rfl
theorem ok_X2_basesThatHold_147 : ok_S 28 147 (sf_gr 9 9 7 150) := ok_gr fd_9_7 (by decide +kernel : decode (mb_ 28) 147 = .ok (.getfield 38, 3)) tw_94 (Or.inl rfl) rfl
theorem ok_X2_basesThatHold_150 : ok_S 28 150 (sf_ld 0 8 152) := ok_iload (by decide +kernel : decode (mb_ 28) 150 = .ok (.iload 8, 2))
theorem ok_X2_basesThatHold_152 : ok_S 28 152 (sf_push (0, 17) 154) := ok_bipush (by decide +kernel : decode (mb_ 28) 152 = .ok (.bipush 17, 2)) ⟨by decide, by decide⟩ (by decide +kernel)
theorem ok_X2_basesThatHold_154 : ok_S 28 154 (sf_i2 mx_mul 155) := ok_imul (by decide +kernel : decode (mb_ 28) 154 = .ok (.imul, 1))
theorem ok_X2_basesThatHold_155 : ok_S 28 155 (sf_ld 2 0 156) := ok_aload_n (by decide +kernel : decode (mb_ 28) 155 = .ok (.aload_n 0, 1)) rfl
theorem ok_X2_basesThatHold_156 : ok_S 28 156 (sf_gr 9 9 1 159) := ok_gr fd_9_1 (by decide +kernel : decode (mb_ 28) 156 = .ok (.getfield 18, 3)) tw_84 (Or.inl rfl) rfl
theorem ok_X2_basesThatHold_159 : ok_S 28 159 (sf_ld 2 0 160) := ok_aload_n (by decide +kernel : decode (mb_ 28) 159 = .ok (.aload_n 0, 1)) rfl
theorem ok_X2_basesThatHold_160 : ok_S 28 160 (sf_gr 9 9 5 163) := ok_gr fd_9_5 (by decide +kernel : decode (mb_ 28) 160 = .ok (.getfield 32, 3)) tw_92 (Or.inl rfl) rfl
theorem ok_X2_basesThatHold_163 : ok_S 28 163 (sf_ld 0 8 165) := ok_iload (by decide +kernel : decode (mb_ 28) 163 = .ok (.iload 8, 2))
theorem ok_X2_basesThatHold_165 : ok_S 28 165 (sf_iald 166) := ok_iald (by decide +kernel : decode (mb_ 28) 165 = .ok (.iaload, 1))
theorem ok_X2_basesThatHold_166 : ok_S 28 166 (sf_iald 167) := ok_iald (by decide +kernel : decode (mb_ 28) 166 = .ok (.iaload, 1))
theorem ok_X2_basesThatHold_167 : ok_S 28 167 (sf_i2 mx_add 168) := ok_iadd (by decide +kernel : decode (mb_ 28) 167 = .ok (.iadd, 1))
theorem ok_X2_basesThatHold_168 : ok_S 28 168 (sf_iald 169) := ok_iald (by decide +kernel : decode (mb_ 28) 168 = .ok (.iaload, 1))
theorem ok_X2_basesThatHold_169 : ok_S 28 169 (sf_go 174) := ok_goto (by decide +kernel : decode (mb_ 28) 169 = .ok (.goto 5, 3)) (by decide)
theorem ok_X2_basesThatHold_172 : ok_S 28 172 (sf_ld 0 8 174) := ok_iload (by decide +kernel : decode (mb_ 28) 172 = .ok (.iload 8, 2))
theorem ok_X2_basesThatHold_174 : ok_S 28 174 (sf_st 0 13 176) := ok_istore (by decide +kernel : decode (mb_ 28) 174 = .ok (.istore 13, 2))
theorem ok_X2_basesThatHold_176 : ok_S 28 176 (sf_ld 0 5 178) := ok_iload (by decide +kernel : decode (mb_ 28) 176 = .ok (.iload 5, 2))
theorem ok_X2_basesThatHold_178 : ok_S 28 178 (sf_ld 0 11 180) := ok_iload (by decide +kernel : decode (mb_ 28) 178 = .ok (.iload 11, 2))
theorem ok_X2_basesThatHold_180 : ok_S 28 180 (sf_ld 0 12 182) := ok_iload (by decide +kernel : decode (mb_ 28) 180 = .ok (.iload 12, 2))
theorem ok_X2_basesThatHold_182 : ok_S 28 182 (sf_ld 0 13 184) := ok_iload (by decide +kernel : decode (mb_ 28) 182 = .ok (.iload 13, 2))
theorem ok_X2_basesThatHold_184 : ok_S 28 184 (sf_cs [0, 0, 0, 0] 153 187) := ok_csn mt_153 (by decide +kernel : decode (mb_ 28) 184 = .ok (.invokestatic 180, 3)) (List.mem_of_getElem? (i := 3) rfl) tw_741 tw_1 (by decide +kernel) (mh_ok rfl) (by decide) (by decide)
theorem ok_X2_basesThatHold_187 : ok_S 28 187 (sf_if 1 201 190) := ok_if1 (by decide +kernel : decode (mb_ 28) 187 = .ok (.ifCond .ne 14, 3)) (by decide)
theorem ok_X2_basesThatHold_190 : ok_S 28 190 (sf_ld 0 9 192) := ok_iload (by decide +kernel : decode (mb_ 28) 190 = .ok (.iload 9, 2))
theorem ok_X2_basesThatHold_192 : ok_S 28 192 (sf_push (0, 1) 193) := ok_iconst (by decide +kernel : decode (mb_ 28) 192 = .ok (.iconst 1, 1)) ⟨by decide, by decide⟩
theorem ok_X2_basesThatHold_193 : ok_S 28 193 (sf_ld 0 10 195) := ok_iload (by decide +kernel : decode (mb_ 28) 193 = .ok (.iload 10, 2))
theorem ok_X2_basesThatHold_195 : ok_S 28 195 (sf_i2 mx_shl 196) := ok_ishl (by decide +kernel : decode (mb_ 28) 195 = .ok (.ishl, 1))
theorem ok_X2_basesThatHold_196 : ok_S 28 196 (sf_push (0, (-1)) 197) := ok_iconst (by decide +kernel : decode (mb_ 28) 196 = .ok (.iconst (-1), 1)) ⟨by decide, by decide⟩
theorem ok_X2_basesThatHold_197 : ok_S 28 197 (sf_i2 mx_xor 198) := ok_ixor (by decide +kernel : decode (mb_ 28) 197 = .ok (.ixor, 1))
theorem ok_X2_basesThatHold_198 : ok_S 28 198 (sf_i2 mx_and 199) := ok_iand (by decide +kernel : decode (mb_ 28) 198 = .ok (.iand, 1))
theorem ok_X2_basesThatHold_199 : ok_S 28 199 (sf_st 0 9 201) := ok_istore (by decide +kernel : decode (mb_ 28) 199 = .ok (.istore 9, 2))
theorem ok_X2_basesThatHold_201 : ok_S 28 201 (sf_inc 10 1 204) := ok_iinc (by decide +kernel : decode (mb_ 28) 201 = .ok (.iinc 10 1, 3))
theorem ok_X2_basesThatHold_204 : ok_S 28 204 (sf_go 53) := ok_goto (by decide +kernel : decode (mb_ 28) 204 = .ok (.goto (-151), 3)) (by decide)
theorem ok_X2_basesThatHold_207 : ok_S 28 207 (sf_ld 0 9 209) := ok_iload (by decide +kernel : decode (mb_ 28) 207 = .ok (.iload 9, 2))
theorem ok_X2_basesThatHold_209 : ok_S 28 209 (sf_ret 0) := ok_ret0 (by decide +kernel : decode (mb_ 28) 209 = .ok (.ireturn, 1)) rfl
theorem ok_X2_basesThatHold (pc : Nat) : ok_S 28 pc (cd_X2_basesThatHold pc) :=
  (ok_bf (ok_bf (ok_bf (ok_bf (ok_bf (ok_bf (ok_bf (ok_lf pc ok_X2_basesThatHold_209) (ok_lf pc ok_X2_basesThatHold_207)) (ok_bf (ok_lf pc ok_X2_basesThatHold_204) (ok_lf pc ok_X2_basesThatHold_201))) (ok_bf (ok_bf (ok_lf pc ok_X2_basesThatHold_199) (ok_lf pc ok_X2_basesThatHold_198)) (ok_bf (ok_lf pc ok_X2_basesThatHold_197) (ok_lf pc ok_X2_basesThatHold_196)))) (ok_bf (ok_bf (ok_bf (ok_lf pc ok_X2_basesThatHold_195) (ok_lf pc ok_X2_basesThatHold_193)) (ok_bf (ok_lf pc ok_X2_basesThatHold_192) (ok_lf pc ok_X2_basesThatHold_190))) (ok_bf (ok_bf (ok_lf pc ok_X2_basesThatHold_187) (ok_lf pc ok_X2_basesThatHold_184)) (ok_bf (ok_lf pc ok_X2_basesThatHold_182) (ok_lf pc ok_X2_basesThatHold_180))))) (ok_bf (ok_bf (ok_bf (ok_bf (ok_lf pc ok_X2_basesThatHold_178) (ok_lf pc ok_X2_basesThatHold_176)) (ok_bf (ok_lf pc ok_X2_basesThatHold_174) (ok_lf pc ok_X2_basesThatHold_172))) (ok_bf (ok_bf (ok_lf pc ok_X2_basesThatHold_169) (ok_lf pc ok_X2_basesThatHold_168)) (ok_bf (ok_lf pc ok_X2_basesThatHold_167) (ok_lf pc ok_X2_basesThatHold_166)))) (ok_bf (ok_bf (ok_bf (ok_lf pc ok_X2_basesThatHold_165) (ok_lf pc ok_X2_basesThatHold_163)) (ok_bf (ok_lf pc ok_X2_basesThatHold_160) (ok_lf pc ok_X2_basesThatHold_159))) (ok_bf (ok_bf (ok_lf pc ok_X2_basesThatHold_156) (ok_lf pc ok_X2_basesThatHold_155)) (ok_bf (ok_lf pc ok_X2_basesThatHold_154) (ok_lf pc ok_X2_basesThatHold_152)))))) (ok_bf (ok_bf (ok_bf (ok_bf (ok_bf (ok_lf pc ok_X2_basesThatHold_150) (ok_lf pc ok_X2_basesThatHold_147)) (ok_bf (ok_lf pc ok_X2_basesThatHold_146) (ok_lf pc ok_X2_basesThatHold_143))) (ok_bf (ok_bf (ok_lf pc ok_X2_basesThatHold_142) (ok_lf pc ok_X2_basesThatHold_140)) (ok_bf (ok_lf pc ok_X2_basesThatHold_138) (ok_lf pc ok_X2_basesThatHold_137)))) (ok_bf (ok_bf (ok_bf (ok_lf pc ok_X2_basesThatHold_136) (ok_lf pc ok_X2_basesThatHold_135)) (ok_bf (ok_lf pc ok_X2_basesThatHold_134) (ok_lf pc ok_X2_basesThatHold_132))) (ok_bf (ok_bf (ok_lf pc ok_X2_basesThatHold_129) (ok_lf pc ok_X2_basesThatHold_128)) (ok_bf (ok_lf pc ok_X2_basesThatHold_125) (ok_lf pc ok_X2_basesThatHold_124))))) (ok_bf (ok_bf (ok_bf (ok_bf (ok_lf pc ok_X2_basesThatHold_123) (ok_lf pc ok_X2_basesThatHold_121)) (ok_bf (ok_lf pc ok_X2_basesThatHold_119) (ok_lf pc ok_X2_basesThatHold_116))) (ok_bf (ok_bf (ok_lf pc ok_X2_basesThatHold_115) (ok_lf pc ok_X2_basesThatHold_112)) (ok_bf (ok_lf pc ok_X2_basesThatHold_111) (ok_lf pc ok_X2_basesThatHold_108)))) (ok_bf (ok_bf (ok_bf (ok_lf pc ok_X2_basesThatHold_107) (ok_lf pc ok_X2_basesThatHold_105)) (ok_bf (ok_lf pc ok_X2_basesThatHold_103) (ok_lf pc ok_X2_basesThatHold_102))) (ok_bf (ok_bf (ok_lf pc ok_X2_basesThatHold_101) (ok_lf pc ok_X2_basesThatHold_100)) (ok_lf pc ok_X2_basesThatHold_99)))))) (ok_bf (ok_bf (ok_bf (ok_bf (ok_bf (ok_bf (ok_lf pc ok_X2_basesThatHold_97) (ok_lf pc ok_X2_basesThatHold_94)) (ok_bf (ok_lf pc ok_X2_basesThatHold_93) (ok_lf pc ok_X2_basesThatHold_90))) (ok_bf (ok_bf (ok_lf pc ok_X2_basesThatHold_89) (ok_lf pc ok_X2_basesThatHold_88)) (ok_bf (ok_lf pc ok_X2_basesThatHold_86) (ok_lf pc ok_X2_basesThatHold_84)))) (ok_bf (ok_bf (ok_bf (ok_lf pc ok_X2_basesThatHold_81) (ok_lf pc ok_X2_basesThatHold_80)) (ok_bf (ok_lf pc ok_X2_basesThatHold_79) (ok_lf pc ok_X2_basesThatHold_77))) (ok_bf (ok_bf (ok_lf pc ok_X2_basesThatHold_76) (ok_lf pc ok_X2_basesThatHold_73)) (ok_bf (ok_lf pc ok_X2_basesThatHold_72) (ok_lf pc ok_X2_basesThatHold_69))))) (ok_bf (ok_bf (ok_bf (ok_bf (ok_lf pc ok_X2_basesThatHold_66) (ok_lf pc ok_X2_basesThatHold_65)) (ok_bf (ok_lf pc ok_X2_basesThatHold_64) (ok_lf pc ok_X2_basesThatHold_63))) (ok_bf (ok_bf (ok_lf pc ok_X2_basesThatHold_61) (ok_lf pc ok_X2_basesThatHold_60)) (ok_bf (ok_lf pc ok_X2_basesThatHold_57) (ok_lf pc ok_X2_basesThatHold_55)))) (ok_bf (ok_bf (ok_bf (ok_lf pc ok_X2_basesThatHold_53) (ok_lf pc ok_X2_basesThatHold_51)) (ok_bf (ok_lf pc ok_X2_basesThatHold_50) (ok_lf pc ok_X2_basesThatHold_48))) (ok_bf (ok_bf (ok_lf pc ok_X2_basesThatHold_47) (ok_lf pc ok_X2_basesThatHold_45)) (ok_bf (ok_lf pc ok_X2_basesThatHold_44) (ok_lf pc ok_X2_basesThatHold_43)))))) (ok_bf (ok_bf (ok_bf (ok_bf (ok_bf (ok_lf pc ok_X2_basesThatHold_42) (ok_lf pc ok_X2_basesThatHold_41)) (ok_bf (ok_lf pc ok_X2_basesThatHold_40) (ok_lf pc ok_X2_basesThatHold_39))) (ok_bf (ok_bf (ok_lf pc ok_X2_basesThatHold_37) (ok_lf pc ok_X2_basesThatHold_35)) (ok_bf (ok_lf pc ok_X2_basesThatHold_34) (ok_lf pc ok_X2_basesThatHold_33)))) (ok_bf (ok_bf (ok_bf (ok_lf pc ok_X2_basesThatHold_32) (ok_lf pc ok_X2_basesThatHold_31)) (ok_bf (ok_lf pc ok_X2_basesThatHold_30) (ok_lf pc ok_X2_basesThatHold_29))) (ok_bf (ok_bf (ok_lf pc ok_X2_basesThatHold_27) (ok_lf pc ok_X2_basesThatHold_25)) (ok_bf (ok_lf pc ok_X2_basesThatHold_24) (ok_lf pc ok_X2_basesThatHold_23))))) (ok_bf (ok_bf (ok_bf (ok_bf (ok_lf pc ok_X2_basesThatHold_22) (ok_lf pc ok_X2_basesThatHold_21)) (ok_bf (ok_lf pc ok_X2_basesThatHold_20) (ok_lf pc ok_X2_basesThatHold_19))) (ok_bf (ok_bf (ok_lf pc ok_X2_basesThatHold_17) (ok_lf pc ok_X2_basesThatHold_15)) (ok_bf (ok_lf pc ok_X2_basesThatHold_14) (ok_lf pc ok_X2_basesThatHold_13)))) (ok_bf (ok_bf (ok_bf (ok_lf pc ok_X2_basesThatHold_12) (ok_lf pc ok_X2_basesThatHold_11)) (ok_bf (ok_lf pc ok_X2_basesThatHold_9) (ok_lf pc ok_X2_basesThatHold_7))) (ok_bf (ok_bf (ok_lf pc ok_X2_basesThatHold_4) (ok_lf pc ok_X2_basesThatHold_1)) (ok_lf pc ok_X2_basesThatHold_0)))))))
theorem mo_X2_basesThatHold (pc : Nat) : mo_S (cd_X2_basesThatHold pc) :=
  (mo_bf (mo_bf (mo_bf (mo_bf (mo_bf (mo_bf (mo_bf (mo_bf mo_ret mo_no) (mo_bf mo_ld mo_no)) (mo_bf (mo_bf mo_go mo_no) (mo_bf mo_inc mo_no))) (mo_bf (mo_bf (mo_bf mo_st mo_no) (mo_bf mo_i2 mo_no)) (mo_bf (mo_bf mo_i2 mo_no) (mo_bf mo_push mo_no)))) (mo_bf (mo_bf (mo_bf (mo_bf mo_i2 mo_no) (mo_bf mo_ld mo_no)) (mo_bf (mo_bf mo_push mo_no) (mo_bf mo_ld mo_no))) (mo_bf (mo_bf (mo_bf mo_if mo_no) (mo_bf mo_cs mo_no)) (mo_bf (mo_bf mo_ld mo_no) (mo_bf mo_ld mo_no))))) (mo_bf (mo_bf (mo_bf (mo_bf (mo_bf mo_ld mo_no) (mo_bf mo_ld mo_no)) (mo_bf (mo_bf mo_st mo_no) (mo_bf mo_ld mo_no))) (mo_bf (mo_bf (mo_bf mo_go mo_no) (mo_bf mo_iald mo_no)) (mo_bf (mo_bf mo_i2 mo_no) (mo_bf mo_iald mo_no)))) (mo_bf (mo_bf (mo_bf (mo_bf mo_iald mo_no) (mo_bf mo_ld mo_no)) (mo_bf (mo_bf mo_gr mo_no) (mo_bf mo_ld mo_no))) (mo_bf (mo_bf (mo_bf mo_gr mo_no) (mo_bf mo_ld mo_no)) (mo_bf (mo_bf mo_i2 mo_no) (mo_bf mo_push mo_no)))))) (mo_bf (mo_bf (mo_bf (mo_bf (mo_bf (mo_bf mo_ld mo_no) (mo_bf mo_gr mo_no)) (mo_bf (mo_bf mo_ld mo_no) (mo_bf mo_ic mo_no))) (mo_bf (mo_bf (mo_bf mo_push mo_no) (mo_bf mo_ld mo_no)) (mo_bf (mo_bf mo_st mo_no) (mo_bf mo_iald mo_no)))) (mo_bf (mo_bf (mo_bf (mo_bf mo_i2 mo_no) (mo_bf mo_iald mo_no)) (mo_bf (mo_bf mo_iald mo_no) (mo_bf mo_ld mo_no))) (mo_bf (mo_bf (mo_bf mo_gr mo_no) (mo_bf mo_ld mo_no)) (mo_bf (mo_bf mo_gr mo_no) (mo_bf mo_ld mo_no))))) (mo_bf (mo_bf (mo_bf (mo_bf (mo_bf mo_i2 mo_no) (mo_bf mo_push mo_no)) (mo_bf (mo_bf mo_ld mo_no) (mo_bf mo_gr mo_no))) (mo_bf (mo_bf (mo_bf mo_ld mo_no) (mo_bf mo_go mo_no)) (mo_bf (mo_bf mo_push mo_no) (mo_bf mo_ic mo_no)))) (mo_bf (mo_bf (mo_bf (mo_bf mo_push mo_no) (mo_bf mo_ld mo_no)) (mo_bf (mo_bf mo_st mo_no) (mo_bf mo_iald mo_no))) (mo_bf (mo_bf (mo_bf mo_i2 mo_no) (mo_bf mo_iald mo_no)) (mo_bf mo_iald mo_no)))))) (mo_bf (mo_bf (mo_bf (mo_bf (mo_bf (mo_bf (mo_bf mo_ld mo_no) (mo_bf mo_gr mo_no)) (mo_bf (mo_bf mo_ld mo_no) (mo_bf mo_gr mo_no))) (mo_bf (mo_bf (mo_bf mo_ld mo_no) (mo_bf mo_i2 mo_no)) (mo_bf (mo_bf mo_push mo_no) (mo_bf mo_ld mo_no)))) (mo_bf (mo_bf (mo_bf (mo_bf mo_gr mo_no) (mo_bf mo_ld mo_no)) (mo_bf (mo_bf mo_iast mo_no) (mo_bf mo_ld mo_no))) (mo_bf (mo_bf (mo_bf mo_ld mo_no) (mo_bf mo_gr mo_no)) (mo_bf (mo_bf mo_ld mo_no) (mo_bf mo_go mo_no))))) (mo_bf (mo_bf (mo_bf (mo_bf (mo_bf mo_if mo_no) (mo_bf mo_i2 mo_no)) (mo_bf (mo_bf mo_push mo_no) (mo_bf mo_i2 mo_no))) (mo_bf (mo_bf (mo_bf mo_ld mo_no) (mo_bf mo_ld mo_no)) (mo_bf (mo_bf mo_ic mo_no) (mo_bf mo_push mo_no)))) (mo_bf (mo_bf (mo_bf (mo_bf mo_ld mo_no) (mo_bf mo_st mo_no)) (mo_bf (mo_bf mo_push mo_no) (mo_bf mo_st mo_no))) (mo_bf (mo_bf (mo_bf mo_ld mo_no) (mo_bf mo_st mo_no)) (mo_bf (mo_bf mo_iald mo_no) (mo_bf mo_i2 mo_no)))))) (mo_bf (mo_bf (mo_bf (mo_bf (mo_bf (mo_bf mo_push mo_no) (mo_bf mo_i2 mo_no)) (mo_bf (mo_bf mo_push mo_no) (mo_bf mo_ld mo_no))) (mo_bf (mo_bf (mo_bf mo_ld mo_no) (mo_bf mo_st mo_no)) (mo_bf (mo_bf mo_iald mo_no) (mo_bf mo_i2 mo_no)))) (mo_bf (mo_bf (mo_bf (mo_bf mo_push mo_no) (mo_bf mo_i2 mo_no)) (mo_bf (mo_bf mo_push mo_no) (mo_bf mo_ld mo_no))) (mo_bf (mo_bf (mo_bf mo_ld mo_no) (mo_bf mo_st mo_no)) (mo_bf (mo_bf mo_iald mo_no) (mo_bf mo_i2 mo_no))))) (mo_bf (mo_bf (mo_bf (mo_bf (mo_bf mo_push mo_no) (mo_bf mo_i2 mo_no)) (mo_bf (mo_bf mo_push mo_no) (mo_bf mo_ld mo_no))) (mo_bf (mo_bf (mo_bf mo_ld mo_no) (mo_bf mo_st mo_no)) (mo_bf (mo_bf mo_iald mo_no) (mo_bf mo_i2 mo_no)))) (mo_bf (mo_bf (mo_bf (mo_bf mo_push mo_no) (mo_bf mo_ld mo_no)) (mo_bf (mo_bf mo_ld mo_no) (mo_bf mo_st mo_no))) (mo_bf (mo_bf (mo_bf mo_gr mo_no) (mo_bf mo_gr mo_no)) (mo_bf mo_ld mo_no)))))))
theorem ok_X2_isWorldBy_0 : ok_S 29 0 (sf_ld 2 0 1) := ok_aload_n (by decide +kernel : decode (mb_ 29) 0 = .ok (.aload_n 0, 1)) rfl
theorem ok_X2_isWorldBy_1 : ok_S 29 1 (sf_ld 0 1 2) := ok_iload_n (by decide +kernel : decode (mb_ 29) 1 = .ok (.iload_n 1, 1)) rfl
theorem ok_X2_isWorldBy_2 : ok_S 29 2 (sf_push (0, (-1)) 3) := ok_iconst (by decide +kernel : decode (mb_ 29) 2 = .ok (.iconst (-1), 1)) ⟨by decide, by decide⟩
theorem ok_X2_isWorldBy_3 : ok_S 29 3 (sf_cv 9 [2, 0, 0] 26 6) := ok_cv mt_26 cl_9 (by decide +kernel : decode (mb_ 29) 3 = .ok (.invokevirtual 106, 3)) tw_718 tw_720 ts_15 tw_2 rfl (by decide +kernel) (mh_ok rfl) (by decide) (by decide)
theorem ok_X2_isWorldBy_6 : ok_S 29 6 (sf_ld 2 0 7) := ok_aload_n (by decide +kernel : decode (mb_ 29) 6 = .ok (.aload_n 0, 1)) rfl
theorem ok_X2_isWorldBy_7 : ok_S 29 7 (sf_ld 0 1 8) := ok_iload_n (by decide +kernel : decode (mb_ 29) 7 = .ok (.iload_n 1, 1)) rfl
theorem ok_X2_isWorldBy_8 : ok_S 29 8 (sf_cv 9 [2, 0] 30 11) := ok_cv mt_30 cl_9 (by decide +kernel : decode (mb_ 29) 8 = .ok (.invokevirtual 110, 3)) tw_808 tw_810 ts_22 tw_2 rfl (by decide +kernel) (mh_ok rfl) (by decide) (by decide)
theorem ok_X2_isWorldBy_11 : ok_S 29 11 (sf_rr 0 1) := ok_rr (by decide +kernel : decode (mb_ 29) 11 = .ok (.ireturn, 1)) rfl (so_nz .boolean rfl rfl)
theorem ok_X2_isWorldBy (pc : Nat) : ok_S 29 pc (cd_X2_isWorldBy pc) :=
  (ok_bf (ok_bf (ok_bf (ok_lf pc ok_X2_isWorldBy_11) (ok_lf pc ok_X2_isWorldBy_8)) (ok_bf (ok_lf pc ok_X2_isWorldBy_7) (ok_lf pc ok_X2_isWorldBy_6))) (ok_bf (ok_bf (ok_lf pc ok_X2_isWorldBy_3) (ok_lf pc ok_X2_isWorldBy_2)) (ok_bf (ok_lf pc ok_X2_isWorldBy_1) (ok_lf pc ok_X2_isWorldBy_0))))
theorem mo_X2_isWorldBy (pc : Nat) : mo_S (cd_X2_isWorldBy pc) :=
  (mo_bf (mo_bf (mo_bf (mo_bf mo_rr mo_no) (mo_bf mo_cv mo_no)) (mo_bf (mo_bf mo_ld mo_no) (mo_bf mo_ld mo_no))) (mo_bf (mo_bf (mo_bf mo_cv mo_no) (mo_bf mo_push mo_no)) (mo_bf (mo_bf mo_ld mo_no) (mo_bf mo_ld mo_no))))
theorem ok_X2_isWorldWithin_0 : ok_S 30 0 (sf_ld 2 0 1) := ok_aload_n (by decide +kernel : decode (mb_ 30) 0 = .ok (.aload_n 0, 1)) rfl
theorem ok_X2_isWorldWithin_1 : ok_S 30 1 (sf_gr 9 9 9 4) := ok_gr fd_9_9 (by decide +kernel : decode (mb_ 30) 1 = .ok (.getfield 44, 3)) tw_96 (Or.inl rfl) rfl
theorem ok_X2_isWorldWithin_4 : ok_S 30 4 (sf_push (0, 0) 5) := ok_iconst (by decide +kernel : decode (mb_ 30) 4 = .ok (.iconst 0, 1)) ⟨by decide, by decide⟩
theorem ok_X2_isWorldWithin_5 : ok_S 30 5 (sf_iald 6) := ok_iald (by decide +kernel : decode (mb_ 30) 5 = .ok (.iaload, 1))
theorem ok_X2_isWorldWithin_6 : ok_S 30 6 (sf_if 0 27 9) := ok_if0 (by decide +kernel : decode (mb_ 30) 6 = .ok (.ifCond .eq 21, 3)) (by decide)
theorem ok_X2_isWorldWithin_9 : ok_S 30 9 (sf_ld 2 0 10) := ok_aload_n (by decide +kernel : decode (mb_ 30) 9 = .ok (.aload_n 0, 1)) rfl
theorem ok_X2_isWorldWithin_10 : ok_S 30 10 (sf_gr 9 9 9 13) := ok_gr fd_9_9 (by decide +kernel : decode (mb_ 30) 10 = .ok (.getfield 44, 3)) tw_96 (Or.inl rfl) rfl
theorem ok_X2_isWorldWithin_13 : ok_S 30 13 (sf_push (0, 1) 14) := ok_iconst (by decide +kernel : decode (mb_ 30) 13 = .ok (.iconst 1, 1)) ⟨by decide, by decide⟩
theorem ok_X2_isWorldWithin_14 : ok_S 30 14 (sf_iald 15) := ok_iald (by decide +kernel : decode (mb_ 30) 14 = .ok (.iaload, 1))
theorem ok_X2_isWorldWithin_15 : ok_S 30 15 (sf_if 0 27 18) := ok_if0 (by decide +kernel : decode (mb_ 30) 15 = .ok (.ifCond .eq 12, 3)) (by decide)
theorem ok_X2_isWorldWithin_18 : ok_S 30 18 (sf_ld 2 0 19) := ok_aload_n (by decide +kernel : decode (mb_ 30) 18 = .ok (.aload_n 0, 1)) rfl
theorem ok_X2_isWorldWithin_19 : ok_S 30 19 (sf_gr 9 9 9 22) := ok_gr fd_9_9 (by decide +kernel : decode (mb_ 30) 19 = .ok (.getfield 44, 3)) tw_96 (Or.inl rfl) rfl
theorem ok_X2_isWorldWithin_22 : ok_S 30 22 (sf_push (0, 2) 23) := ok_iconst (by decide +kernel : decode (mb_ 30) 22 = .ok (.iconst 2, 1)) ⟨by decide, by decide⟩
theorem ok_X2_isWorldWithin_23 : ok_S 30 23 (sf_iald 24) := ok_iald (by decide +kernel : decode (mb_ 30) 23 = .ok (.iaload, 1))
theorem ok_X2_isWorldWithin_24 : ok_S 30 24 (sf_if 1 29 27) := ok_if1 (by decide +kernel : decode (mb_ 30) 24 = .ok (.ifCond .ne 5, 3)) (by decide)
theorem ok_X2_isWorldWithin_27 : ok_S 30 27 (sf_push (0, 0) 28) := ok_iconst (by decide +kernel : decode (mb_ 30) 27 = .ok (.iconst 0, 1)) ⟨by decide, by decide⟩
theorem ok_X2_isWorldWithin_28 : ok_S 30 28 (sf_rr 0 1) := ok_rr (by decide +kernel : decode (mb_ 30) 28 = .ok (.ireturn, 1)) rfl (so_nz .boolean rfl rfl)
theorem ok_X2_isWorldWithin_29 : ok_S 30 29 (sf_push (0, 2) 30) := ok_iconst (by decide +kernel : decode (mb_ 30) 29 = .ok (.iconst 2, 1)) ⟨by decide, by decide⟩
theorem ok_X2_isWorldWithin_30 : ok_S 30 30 (sf_st 0 2 31) := ok_istore_n (by decide +kernel : decode (mb_ 30) 30 = .ok (.istore_n 2, 1)) rfl
theorem ok_X2_isWorldWithin_31 : ok_S 30 31 (sf_ld 0 2 32) := ok_iload_n (by decide +kernel : decode (mb_ 30) 31 = .ok (.iload_n 2, 1)) rfl
theorem ok_X2_isWorldWithin_32 : ok_S 30 32 (sf_push (0, 16) 34) := ok_bipush (by decide +kernel : decode (mb_ 30) 32 = .ok (.bipush 16, 2)) ⟨by decide, by decide⟩ (by decide +kernel)
theorem ok_X2_isWorldWithin_34 : ok_S 30 34 (sf_ic 4 85 37) := ok_ic4 (by decide +kernel : decode (mb_ 30) 34 = .ok (.if_icmp .gt 51, 3)) (by decide)
theorem ok_X2_isWorldWithin_37 : ok_S 30 37 (sf_ld 2 0 38) := ok_aload_n (by decide +kernel : decode (mb_ 30) 37 = .ok (.aload_n 0, 1)) rfl
theorem ok_X2_isWorldWithin_38 : ok_S 30 38 (sf_gr 9 9 9 41) := ok_gr fd_9_9 (by decide +kernel : decode (mb_ 30) 38 = .ok (.getfield 44, 3)) tw_96 (Or.inl rfl) rfl
theorem ok_X2_isWorldWithin_41 : ok_S 30 41 (sf_push (0, 0) 42) := ok_iconst (by decide +kernel : decode (mb_ 30) 41 = .ok (.iconst 0, 1)) ⟨by decide, by decide⟩
theorem ok_X2_isWorldWithin_42 : ok_S 30 42 (sf_iald 43) := ok_iald (by decide +kernel : decode (mb_ 30) 42 = .ok (.iaload, 1))
theorem ok_X2_isWorldWithin_43 : ok_S 30 43 (sf_ld 0 2 44) := ok_iload_n (by decide +kernel : decode (mb_ 30) 43 = .ok (.iload_n 2, 1)) rfl
theorem ok_X2_isWorldWithin_44 : ok_S 30 44 (sf_i2 mx_shr 45) := ok_ishr (by decide +kernel : decode (mb_ 30) 44 = .ok (.ishr, 1))
theorem ok_X2_isWorldWithin_45 : ok_S 30 45 (sf_push (0, 1) 46) := ok_iconst (by decide +kernel : decode (mb_ 30) 45 = .ok (.iconst 1, 1)) ⟨by decide, by decide⟩
theorem ok_X2_isWorldWithin_46 : ok_S 30 46 (sf_i2 mx_and 47) := ok_iand (by decide +kernel : decode (mb_ 30) 46 = .ok (.iand, 1))
theorem ok_X2_isWorldWithin_47 : ok_S 30 47 (sf_if 1 53 50) := ok_if1 (by decide +kernel : decode (mb_ 30) 47 = .ok (.ifCond .ne 6, 3)) (by decide)
theorem ok_X2_isWorldWithin_50 : ok_S 30 50 (sf_go 79) := ok_goto (by decide +kernel : decode (mb_ 30) 50 = .ok (.goto 29, 3)) (by decide)
theorem ok_X2_isWorldWithin_53 : ok_S 30 53 (sf_push (0, 2) 54) := ok_iconst (by decide +kernel : decode (mb_ 30) 53 = .ok (.iconst 2, 1)) ⟨by decide, by decide⟩
theorem ok_X2_isWorldWithin_54 : ok_S 30 54 (sf_st 0 3 55) := ok_istore_n (by decide +kernel : decode (mb_ 30) 54 = .ok (.istore_n 3, 1)) rfl
theorem ok_X2_isWorldWithin_55 : ok_S 30 55 (sf_ld 0 3 56) := ok_iload_n (by decide +kernel : decode (mb_ 30) 55 = .ok (.iload_n 3, 1)) rfl
theorem ok_X2_isWorldWithin_56 : ok_S 30 56 (sf_push (0, 16) 58) := ok_bipush (by decide +kernel : decode (mb_ 30) 56 = .ok (.bipush 16, 2)) ⟨by decide, by decide⟩ (by decide +kernel)
theorem ok_X2_isWorldWithin_58 : ok_S 30 58 (sf_ic 4 79 61) := ok_ic4 (by decide +kernel : decode (mb_ 30) 58 = .ok (.if_icmp .gt 21, 3)) (by decide)
theorem ok_X2_isWorldWithin_61 : ok_S 30 61 (sf_ld 2 0 62) := ok_aload_n (by decide +kernel : decode (mb_ 30) 61 = .ok (.aload_n 0, 1)) rfl
theorem ok_X2_isWorldWithin_62 : ok_S 30 62 (sf_ld 0 2 63) := ok_iload_n (by decide +kernel : decode (mb_ 30) 62 = .ok (.iload_n 2, 1)) rfl
theorem ok_X2_isWorldWithin_63 : ok_S 30 63 (sf_ld 0 3 64) := ok_iload_n (by decide +kernel : decode (mb_ 30) 63 = .ok (.iload_n 3, 1)) rfl
theorem ok_X2_isWorldWithin_64 : ok_S 30 64 (sf_ld 0 1 65) := ok_iload_n (by decide +kernel : decode (mb_ 30) 64 = .ok (.iload_n 1, 1)) rfl
theorem ok_X2_isWorldWithin_65 : ok_S 30 65 (sf_cv 9 [2, 0, 0, 0] 31 68) := ok_cv mt_31 cl_9 (by decide +kernel : decode (mb_ 30) 65 = .ok (.invokevirtual 184, 3)) tw_747 tw_749 ts_19 tw_2 rfl (by decide +kernel) (mh_ok rfl) (by decide) (by decide)
theorem ok_X2_isWorldWithin_68 : ok_S 30 68 (sf_if 0 73 71) := ok_if0 (by decide +kernel : decode (mb_ 30) 68 = .ok (.ifCond .eq 5, 3)) (by decide)
theorem ok_X2_isWorldWithin_71 : ok_S 30 71 (sf_push (0, 1) 72) := ok_iconst (by decide +kernel : decode (mb_ 30) 71 = .ok (.iconst 1, 1)) ⟨by decide, by decide⟩
theorem ok_X2_isWorldWithin_72 : ok_S 30 72 (sf_rr 0 1) := ok_rr (by decide +kernel : decode (mb_ 30) 72 = .ok (.ireturn, 1)) rfl (so_nz .boolean rfl rfl)
theorem ok_X2_isWorldWithin_73 : ok_S 30 73 (sf_inc 3 1 76) := ok_iinc (by decide +kernel : decode (mb_ 30) 73 = .ok (.iinc 3 1, 3))
theorem ok_X2_isWorldWithin_76 : ok_S 30 76 (sf_go 55) := ok_goto (by decide +kernel : decode (mb_ 30) 76 = .ok (.goto (-21), 3)) (by decide)
theorem ok_X2_isWorldWithin_79 : ok_S 30 79 (sf_inc 2 1 82) := ok_iinc (by decide +kernel : decode (mb_ 30) 79 = .ok (.iinc 2 1, 3))
theorem ok_X2_isWorldWithin_82 : ok_S 30 82 (sf_go 31) := ok_goto (by decide +kernel : decode (mb_ 30) 82 = .ok (.goto (-51), 3)) (by decide)
theorem ok_X2_isWorldWithin_85 : ok_S 30 85 (sf_push (0, 0) 86) := ok_iconst (by decide +kernel : decode (mb_ 30) 85 = .ok (.iconst 0, 1)) ⟨by decide, by decide⟩
theorem ok_X2_isWorldWithin_86 : ok_S 30 86 (sf_rr 0 1) := ok_rr (by decide +kernel : decode (mb_ 30) 86 = .ok (.ireturn, 1)) rfl (so_nz .boolean rfl rfl)
theorem ok_X2_isWorldWithin (pc : Nat) : ok_S 30 pc (cd_X2_isWorldWithin pc) :=
  (ok_bf (ok_bf (ok_bf (ok_bf (ok_bf (ok_bf (ok_lf pc ok_X2_isWorldWithin_86) (ok_lf pc ok_X2_isWorldWithin_85)) (ok_bf (ok_lf pc ok_X2_isWorldWithin_82) (ok_lf pc ok_X2_isWorldWithin_79))) (ok_bf (ok_bf (ok_lf pc ok_X2_isWorldWithin_76) (ok_lf pc ok_X2_isWorldWithin_73)) (ok_lf pc ok_X2_isWorldWithin_72))) (ok_bf (ok_bf (ok_bf (ok_lf pc ok_X2_isWorldWithin_71) (ok_lf pc ok_X2_isWorldWithin_68)) (ok_lf pc ok_X2_isWorldWithin_65)) (ok_bf (ok_bf (ok_lf pc ok_X2_isWorldWithin_64) (ok_lf pc ok_X2_isWorldWithin_63)) (ok_lf pc ok_X2_isWorldWithin_62)))) (ok_bf (ok_bf (ok_bf (ok_bf (ok_lf pc ok_X2_isWorldWithin_61) (ok_lf pc ok_X2_isWorldWithin_58)) (ok_bf (ok_lf pc ok_X2_isWorldWithin_56) (ok_lf pc ok_X2_isWorldWithin_55))) (ok_bf (ok_bf (ok_lf pc ok_X2_isWorldWithin_54) (ok_lf pc ok_X2_isWorldWithin_53)) (ok_lf pc ok_X2_isWorldWithin_50))) (ok_bf (ok_bf (ok_bf (ok_lf pc ok_X2_isWorldWithin_47) (ok_lf pc ok_X2_isWorldWithin_46)) (ok_lf pc ok_X2_isWorldWithin_45)) (ok_bf (ok_bf (ok_lf pc ok_X2_isWorldWithin_44) (ok_lf pc ok_X2_isWorldWithin_43)) (ok_lf pc ok_X2_isWorldWithin_42))))) (ok_bf (ok_bf (ok_bf (ok_bf (ok_bf (ok_lf pc ok_X2_isWorldWithin_41) (ok_lf pc ok_X2_isWorldWithin_38)) (ok_bf (ok_lf pc ok_X2_isWorldWithin_37) (ok_lf pc ok_X2_isWorldWithin_34))) (ok_bf (ok_bf (ok_lf pc ok_X2_isWorldWithin_32) (ok_lf pc ok_X2_isWorldWithin_31)) (ok_lf pc ok_X2_isWorldWithin_30))) (ok_bf (ok_bf (ok_bf (ok_lf pc ok_X2_isWorldWithin_29) (ok_lf pc ok_X2_isWorldWithin_28)) (ok_lf pc ok_X2_isWorldWithin_27)) (ok_bf (ok_bf (ok_lf pc ok_X2_isWorldWithin_24) (ok_lf pc ok_X2_isWorldWithin_23)) (ok_lf pc ok_X2_isWorldWithin_22)))) (ok_bf (ok_bf (ok_bf (ok_bf (ok_lf pc ok_X2_isWorldWithin_19) (ok_lf pc ok_X2_isWorldWithin_18)) (ok_lf pc ok_X2_isWorldWithin_15)) (ok_bf (ok_bf (ok_lf pc ok_X2_isWorldWithin_14) (ok_lf pc ok_X2_isWorldWithin_13)) (ok_lf pc ok_X2_isWorldWithin_10))) (ok_bf (ok_bf (ok_bf (ok_lf pc ok_X2_isWorldWithin_9) (ok_lf pc ok_X2_isWorldWithin_6)) (ok_lf pc ok_X2_isWorldWithin_5)) (ok_bf (ok_bf (ok_lf pc ok_X2_isWorldWithin_4) (ok_lf pc ok_X2_isWorldWithin_1)) (ok_lf pc ok_X2_isWorldWithin_0))))))
theorem mo_X2_isWorldWithin (pc : Nat) : mo_S (cd_X2_isWorldWithin pc) :=
  (mo_bf (mo_bf (mo_bf (mo_bf (mo_bf (mo_bf (mo_bf mo_rr mo_no) (mo_bf mo_push mo_no)) (mo_bf (mo_bf mo_go mo_no) (mo_bf mo_inc mo_no))) (mo_bf (mo_bf (mo_bf mo_go mo_no) (mo_bf mo_inc mo_no)) (mo_bf mo_rr mo_no))) (mo_bf (mo_bf (mo_bf (mo_bf mo_push mo_no) (mo_bf mo_if mo_no)) (mo_bf mo_cv mo_no)) (mo_bf (mo_bf (mo_bf mo_ld mo_no) (mo_bf mo_ld mo_no)) (mo_bf mo_ld mo_no)))) (mo_bf (mo_bf (mo_bf (mo_bf (mo_bf mo_ld mo_no) (mo_bf mo_ic mo_no)) (mo_bf (mo_bf mo_push mo_no) (mo_bf mo_ld mo_no))) (mo_bf (mo_bf (mo_bf mo_st mo_no) (mo_bf mo_push mo_no)) (mo_bf mo_go mo_no))) (mo_bf (mo_bf (mo_bf (mo_bf mo_if mo_no) (mo_bf mo_i2 mo_no)) (mo_bf mo_push mo_no)) (mo_bf (mo_bf (mo_bf mo_i2 mo_no) (mo_bf mo_ld mo_no)) (mo_bf mo_iald mo_no))))) (mo_bf (mo_bf (mo_bf (mo_bf (mo_bf (mo_bf mo_push mo_no) (mo_bf mo_gr mo_no)) (mo_bf (mo_bf mo_ld mo_no) (mo_bf mo_ic mo_no))) (mo_bf (mo_bf (mo_bf mo_push mo_no) (mo_bf mo_ld mo_no)) (mo_bf mo_st mo_no))) (mo_bf (mo_bf (mo_bf (mo_bf mo_push mo_no) (mo_bf mo_rr mo_no)) (mo_bf mo_push mo_no)) (mo_bf (mo_bf (mo_bf mo_if mo_no) (mo_bf mo_iald mo_no)) (mo_bf mo_push mo_no)))) (mo_bf (mo_bf (mo_bf (mo_bf (mo_bf mo_gr mo_no) (mo_bf mo_ld mo_no)) (mo_bf mo_if mo_no)) (mo_bf (mo_bf (mo_bf mo_iald mo_no) (mo_bf mo_push mo_no)) (mo_bf mo_gr mo_no))) (mo_bf (mo_bf (mo_bf (mo_bf mo_ld mo_no) (mo_bf mo_if mo_no)) (mo_bf mo_iald mo_no)) (mo_bf (mo_bf (mo_bf mo_push mo_no) (mo_bf mo_gr mo_no)) (mo_bf mo_ld mo_no))))))
theorem ok_X2_thirdBases_0 : ok_S 31 0 (sf_ld 2 0 1) := ok_aload_n (by decide +kernel : decode (mb_ 31) 0 = .ok (.aload_n 0, 1)) rfl
theorem ok_X2_thirdBases_1 : ok_S 31 1 (sf_gr 9 9 9 4) := ok_gr fd_9_9 (by decide +kernel : decode (mb_ 31) 1 = .ok (.getfield 44, 3)) tw_96 (Or.inl rfl) rfl
theorem ok_X2_thirdBases_4 : ok_S 31 4 (sf_push (0, 0) 5) := ok_iconst (by decide +kernel : decode (mb_ 31) 4 = .ok (.iconst 0, 1)) ⟨by decide, by decide⟩
theorem ok_X2_thirdBases_5 : ok_S 31 5 (sf_iald 6) := ok_iald (by decide +kernel : decode (mb_ 31) 5 = .ok (.iaload, 1))
theorem ok_X2_thirdBases_6 : ok_S 31 6 (sf_ld 0 1 7) := ok_iload_n (by decide +kernel : decode (mb_ 31) 6 = .ok (.iload_n 1, 1)) rfl
theorem ok_X2_thirdBases_7 : ok_S 31 7 (sf_i2 mx_shr 8) := ok_ishr (by decide +kernel : decode (mb_ 31) 7 = .ok (.ishr, 1))
theorem ok_X2_thirdBases_8 : ok_S 31 8 (sf_push (0, 1) 9) := ok_iconst (by decide +kernel : decode (mb_ 31) 8 = .ok (.iconst 1, 1)) ⟨by decide, by decide⟩
theorem ok_X2_thirdBases_9 : ok_S 31 9 (sf_i2 mx_and 10) := ok_iand (by decide +kernel : decode (mb_ 31) 9 = .ok (.iand, 1))
theorem ok_X2_thirdBases_10 : ok_S 31 10 (sf_if 0 39 13) := ok_if0 (by decide +kernel : decode (mb_ 31) 10 = .ok (.ifCond .eq 29, 3)) (by decide)
theorem ok_X2_thirdBases_13 : ok_S 31 13 (sf_ld 2 0 14) := ok_aload_n (by decide +kernel : decode (mb_ 31) 13 = .ok (.aload_n 0, 1)) rfl
theorem ok_X2_thirdBases_14 : ok_S 31 14 (sf_gr 9 9 9 17) := ok_gr fd_9_9 (by decide +kernel : decode (mb_ 31) 14 = .ok (.getfield 44, 3)) tw_96 (Or.inl rfl) rfl
theorem ok_X2_thirdBases_17 : ok_S 31 17 (sf_push (0, 1) 18) := ok_iconst (by decide +kernel : decode (mb_ 31) 17 = .ok (.iconst 1, 1)) ⟨by decide, by decide⟩
theorem ok_X2_thirdBases_18 : ok_S 31 18 (sf_iald 19) := ok_iald (by decide +kernel : decode (mb_ 31) 18 = .ok (.iaload, 1))
theorem ok_X2_thirdBases_19 : ok_S 31 19 (sf_ld 2 0 20) := ok_aload_n (by decide +kernel : decode (mb_ 31) 19 = .ok (.aload_n 0, 1)) rfl
theorem ok_X2_thirdBases_20 : ok_S 31 20 (sf_gr 9 9 9 23) := ok_gr fd_9_9 (by decide +kernel : decode (mb_ 31) 20 = .ok (.getfield 44, 3)) tw_96 (Or.inl rfl) rfl
theorem ok_X2_thirdBases_23 : ok_S 31 23 (sf_push (0, 3) 24) := ok_iconst (by decide +kernel : decode (mb_ 31) 23 = .ok (.iconst 3, 1)) ⟨by decide, by decide⟩
theorem ok_X2_thirdBases_24 : ok_S 31 24 (sf_ld 0 1 25) := ok_iload_n (by decide +kernel : decode (mb_ 31) 24 = .ok (.iload_n 1, 1)) rfl
theorem ok_X2_thirdBases_25 : ok_S 31 25 (sf_i2 mx_add 26) := ok_iadd (by decide +kernel : decode (mb_ 31) 25 = .ok (.iadd, 1))
theorem ok_X2_thirdBases_26 : ok_S 31 26 (sf_iald 27) := ok_iald (by decide +kernel : decode (mb_ 31) 26 = .ok (.iaload, 1))
theorem ok_X2_thirdBases_27 : ok_S 31 27 (sf_i2 mx_and 28) := ok_iand (by decide +kernel : decode (mb_ 31) 27 = .ok (.iand, 1))
theorem ok_X2_thirdBases_28 : ok_S 31 28 (sf_push (0, 1) 29) := ok_iconst (by decide +kernel : decode (mb_ 31) 28 = .ok (.iconst 1, 1)) ⟨by decide, by decide⟩
theorem ok_X2_thirdBases_29 : ok_S 31 29 (sf_ld 0 2 30) := ok_iload_n (by decide +kernel : decode (mb_ 31) 29 = .ok (.iload_n 2, 1)) rfl
theorem ok_X2_thirdBases_30 : ok_S 31 30 (sf_i2 mx_shl 31) := ok_ishl (by decide +kernel : decode (mb_ 31) 30 = .ok (.ishl, 1))
theorem ok_X2_thirdBases_31 : ok_S 31 31 (sf_i2 mx_and 32) := ok_iand (by decide +kernel : decode (mb_ 31) 31 = .ok (.iand, 1))
theorem ok_X2_thirdBases_32 : ok_S 31 32 (sf_if 0 39 35) := ok_if0 (by decide +kernel : decode (mb_ 31) 32 = .ok (.ifCond .eq 7, 3)) (by decide)
theorem ok_X2_thirdBases_35 : ok_S 31 35 (sf_push (0, 1) 36) := ok_iconst (by decide +kernel : decode (mb_ 31) 35 = .ok (.iconst 1, 1)) ⟨by decide, by decide⟩
theorem ok_X2_thirdBases_36 : ok_S 31 36 (sf_go 40) := ok_goto (by decide +kernel : decode (mb_ 31) 36 = .ok (.goto 4, 3)) (by decide)
theorem ok_X2_thirdBases_39 : ok_S 31 39 (sf_push (0, 0) 40) := ok_iconst (by decide +kernel : decode (mb_ 31) 39 = .ok (.iconst 0, 1)) ⟨by decide, by decide⟩
theorem ok_X2_thirdBases_40 : ok_S 31 40 (sf_st 0 4 42) := ok_istore (by decide +kernel : decode (mb_ 31) 40 = .ok (.istore 4, 2))
theorem ok_X2_thirdBases_42 : ok_S 31 42 (sf_ld 0 4 44) := ok_iload (by decide +kernel : decode (mb_ 31) 42 = .ok (.iload 4, 2))
theorem ok_X2_thirdBases_44 : ok_S 31 44 (sf_if 1 49 47) := ok_if1 (by decide +kernel : decode (mb_ 31) 44 = .ok (.ifCond .ne 5, 3)) (by decide)
theorem ok_X2_thirdBases_47 : ok_S 31 47 (sf_push (0, 0) 48) := ok_iconst (by decide +kernel : decode (mb_ 31) 47 = .ok (.iconst 0, 1)) ⟨by decide, by decide⟩
theorem ok_X2_thirdBases_48 : ok_S 31 48 (sf_ret 0) := ok_ret0 (by decide +kernel : decode (mb_ 31) 48 = .ok (.ireturn, 1)) rfl
theorem ok_X2_thirdBases_49 : ok_S 31 49 (sf_ld 2 0 50) := ok_aload_n (by decide +kernel : decode (mb_ 31) 49 = .ok (.aload_n 0, 1)) rfl
theorem ok_X2_thirdBases_50 : ok_S 31 50 (sf_gr 9 9 9 53) := ok_gr fd_9_9 (by decide +kernel : decode (mb_ 31) 50 = .ok (.getfield 44, 3)) tw_96 (Or.inl rfl) rfl
theorem ok_X2_thirdBases_53 : ok_S 31 53 (sf_push (0, 2) 54) := ok_iconst (by decide +kernel : decode (mb_ 31) 53 = .ok (.iconst 2, 1)) ⟨by decide, by decide⟩
theorem ok_X2_thirdBases_54 : ok_S 31 54 (sf_iald 55) := ok_iald (by decide +kernel : decode (mb_ 31) 54 = .ok (.iaload, 1))
theorem ok_X2_thirdBases_55 : ok_S 31 55 (sf_ld 2 0 56) := ok_aload_n (by decide +kernel : decode (mb_ 31) 55 = .ok (.aload_n 0, 1)) rfl
theorem ok_X2_thirdBases_56 : ok_S 31 56 (sf_gr 9 9 9 59) := ok_gr fd_9_9 (by decide +kernel : decode (mb_ 31) 56 = .ok (.getfield 44, 3)) tw_96 (Or.inl rfl) rfl
theorem ok_X2_thirdBases_59 : ok_S 31 59 (sf_push (0, 20) 61) := ok_bipush (by decide +kernel : decode (mb_ 31) 59 = .ok (.bipush 20, 2)) ⟨by decide, by decide⟩ (by decide +kernel)
theorem ok_X2_thirdBases_61 : ok_S 31 61 (sf_ld 0 1 62) := ok_iload_n (by decide +kernel : decode (mb_ 31) 61 = .ok (.iload_n 1, 1)) rfl
theorem ok_X2_thirdBases_62 : ok_S 31 62 (sf_i2 mx_add 63) := ok_iadd (by decide +kernel : decode (mb_ 31) 62 = .ok (.iadd, 1))
theorem ok_X2_thirdBases_63 : ok_S 31 63 (sf_iald 64) := ok_iald (by decide +kernel : decode (mb_ 31) 63 = .ok (.iaload, 1))
theorem ok_X2_thirdBases_64 : ok_S 31 64 (sf_i2 mx_and 65) := ok_iand (by decide +kernel : decode (mb_ 31) 64 = .ok (.iand, 1))
theorem ok_X2_thirdBases_65 : ok_S 31 65 (sf_ld 2 0 66) := ok_aload_n (by decide +kernel : decode (mb_ 31) 65 = .ok (.aload_n 0, 1)) rfl
theorem ok_X2_thirdBases_66 : ok_S 31 66 (sf_gr 9 9 9 69) := ok_gr fd_9_9 (by decide +kernel : decode (mb_ 31) 66 = .ok (.getfield 44, 3)) tw_96 (Or.inl rfl) rfl
theorem ok_X2_thirdBases_69 : ok_S 31 69 (sf_push (0, 37) 71) := ok_bipush (by decide +kernel : decode (mb_ 31) 69 = .ok (.bipush 37, 2)) ⟨by decide, by decide⟩ (by decide +kernel)
theorem ok_X2_thirdBases_71 : ok_S 31 71 (sf_ld 0 2 72) := ok_iload_n (by decide +kernel : decode (mb_ 31) 71 = .ok (.iload_n 2, 1)) rfl
theorem ok_X2_thirdBases_72 : ok_S 31 72 (sf_i2 mx_add 73) := ok_iadd (by decide +kernel : decode (mb_ 31) 72 = .ok (.iadd, 1))
theorem ok_X2_thirdBases_73 : ok_S 31 73 (sf_iald 74) := ok_iald (by decide +kernel : decode (mb_ 31) 73 = .ok (.iaload, 1))
theorem ok_X2_thirdBases_74 : ok_S 31 74 (sf_i2 mx_and 75) := ok_iand (by decide +kernel : decode (mb_ 31) 74 = .ok (.iand, 1))
theorem ok_X2_thirdBases_75 : ok_S 31 75 (sf_st 0 5 77) := ok_istore (by decide +kernel : decode (mb_ 31) 75 = .ok (.istore 5, 2))
theorem ok_X2_thirdBases_77 : ok_S 31 77 (sf_ld 2 0 78) := ok_aload_n (by decide +kernel : decode (mb_ 31) 77 = .ok (.aload_n 0, 1)) rfl
theorem ok_X2_thirdBases_78 : ok_S 31 78 (sf_gr 9 9 1 81) := ok_gr fd_9_1 (by decide +kernel : decode (mb_ 31) 78 = .ok (.getfield 18, 3)) tw_84 (Or.inl rfl) rfl
theorem ok_X2_thirdBases_81 : ok_S 31 81 (sf_push (0, 0) 82) := ok_iconst (by decide +kernel : decode (mb_ 31) 81 = .ok (.iconst 0, 1)) ⟨by decide, by decide⟩
theorem ok_X2_thirdBases_82 : ok_S 31 82 (sf_ld 0 1 83) := ok_iload_n (by decide +kernel : decode (mb_ 31) 82 = .ok (.iload_n 1, 1)) rfl
theorem ok_X2_thirdBases_83 : ok_S 31 83 (sf_iast 84) := ok_iast (by decide +kernel : decode (mb_ 31) 83 = .ok (.iastore, 1))
theorem ok_X2_thirdBases_84 : ok_S 31 84 (sf_ld 2 0 85) := ok_aload_n (by decide +kernel : decode (mb_ 31) 84 = .ok (.aload_n 0, 1)) rfl
theorem ok_X2_thirdBases_85 : ok_S 31 85 (sf_gr 9 9 1 88) := ok_gr fd_9_1 (by decide +kernel : decode (mb_ 31) 85 = .ok (.getfield 18, 3)) tw_84 (Or.inl rfl) rfl
theorem ok_X2_thirdBases_88 : ok_S 31 88 (sf_push (0, 1) 89) := ok_iconst (by decide +kernel : decode (mb_ 31) 88 = .ok (.iconst 1, 1)) ⟨by decide, by decide⟩
theorem ok_X2_thirdBases_89 : ok_S 31 89 (sf_ld 0 2 90) := ok_iload_n (by decide +kernel : decode (mb_ 31) 89 = .ok (.iload_n 2, 1)) rfl
theorem ok_X2_thirdBases_90 : ok_S 31 90 (sf_iast 91) := ok_iast (by decide +kernel : decode (mb_ 31) 90 = .ok (.iastore, 1))
theorem ok_X2_thirdBases_91 : ok_S 31 91 (sf_push (0, 0) 92) := ok_iconst (by decide +kernel : decode (mb_ 31) 91 = .ok (.iconst 0, 1)) ⟨by decide, by decide⟩
theorem ok_X2_thirdBases_92 : ok_S 31 92 (sf_st 0 6 94) := ok_istore (by decide +kernel : decode (mb_ 31) 92 = .ok (.istore 6, 2))
theorem ok_X2_thirdBases_94 : ok_S 31 94 (sf_ld 0 6 96) := ok_iload (by decide +kernel : decode (mb_ 31) 94 = .ok (.iload 6, 2))
theorem ok_X2_thirdBases_96 : ok_S 31 96 (sf_ld 2 0 97) := ok_aload_n (by decide +kernel : decode (mb_ 31) 96 = .ok (.aload_n 0, 1)) rfl
theorem ok_X2_thirdBases_97 : ok_S 31 97 (sf_gr 9 9 0 100) := ok_gr fd_9_0 (by decide +kernel : decode (mb_ 31) 97 = .ok (.getfield 12, 3)) tw_82 (Or.inl rfl) rfl
theorem ok_X2_thirdBases_100 : ok_S 31 100 (sf_gi 8 8 4 103) := ok_gi fd_8_4 (by decide +kernel : decode (mb_ 31) 100 = .ok (.getfield 145, 3)) tw_60 (Or.inl rfl) rfl
theorem ok_X2_thirdBases_103 : ok_S 31 103 (sf_ic 3 149 106) := ok_ic3 (by decide +kernel : decode (mb_ 31) 103 = .ok (.if_icmp .ge 46, 3)) (by decide)
theorem ok_X2_thirdBases_106 : ok_S 31 106 (sf_ld 0 5 108) := ok_iload (by decide +kernel : decode (mb_ 31) 106 = .ok (.iload 5, 2))
theorem ok_X2_thirdBases_108 : ok_S 31 108 (sf_if 0 149 111) := ok_if0 (by decide +kernel : decode (mb_ 31) 108 = .ok (.ifCond .eq 41, 3)) (by decide)
theorem ok_X2_thirdBases_111 : ok_S 31 111 (sf_ld 0 3 112) := ok_iload_n (by decide +kernel : decode (mb_ 31) 111 = .ok (.iload_n 3, 1)) rfl
theorem ok_X2_thirdBases_112 : ok_S 31 112 (sf_ld 0 6 114) := ok_iload (by decide +kernel : decode (mb_ 31) 112 = .ok (.iload 6, 2))
theorem ok_X2_thirdBases_114 : ok_S 31 114 (sf_i2 mx_shr 115) := ok_ishr (by decide +kernel : decode (mb_ 31) 114 = .ok (.ishr, 1))
theorem ok_X2_thirdBases_115 : ok_S 31 115 (sf_push (0, 1) 116) := ok_iconst (by decide +kernel : decode (mb_ 31) 115 = .ok (.iconst 1, 1)) ⟨by decide, by decide⟩
theorem ok_X2_thirdBases_116 : ok_S 31 116 (sf_i2 mx_and 117) := ok_iand (by decide +kernel : decode (mb_ 31) 116 = .ok (.iand, 1))
theorem ok_X2_thirdBases_117 : ok_S 31 117 (sf_if 0 143 120) := ok_if0 (by decide +kernel : decode (mb_ 31) 117 = .ok (.ifCond .eq 26, 3)) (by decide)
theorem ok_X2_thirdBases_120 : ok_S 31 120 (sf_ld 2 0 121) := ok_aload_n (by decide +kernel : decode (mb_ 31) 120 = .ok (.aload_n 0, 1)) rfl
theorem ok_X2_thirdBases_121 : ok_S 31 121 (sf_gr 9 9 8 124) := ok_gr fd_9_8 (by decide +kernel : decode (mb_ 31) 121 = .ok (.getfield 41, 3)) tw_95 (Or.inl rfl) rfl
theorem ok_X2_thirdBases_124 : ok_S 31 124 (sf_ld 0 6 126) := ok_iload (by decide +kernel : decode (mb_ 31) 124 = .ok (.iload 6, 2))
theorem ok_X2_thirdBases_126 : ok_S 31 126 (sf_iald 127) := ok_iald (by decide +kernel : decode (mb_ 31) 126 = .ok (.iaload, 1))
theorem ok_X2_thirdBases_127 : ok_S 31 127 (sf_push (0, 7) 129) := ok_bipush (by decide +kernel : decode (mb_ 31) 127 = .ok (.bipush 7, 2)) ⟨by decide, by decide⟩ (by decide +kernel)
theorem ok_X2_thirdBases_129 : ok_S 31 129 (sf_ic 1 143 132) := ok_ic1 (by decide +kernel : decode (mb_ 31) 129 = .ok (.if_icmp .ne 14, 3)) (by decide)
theorem ok_X2_thirdBases_132 : ok_S 31 132 (sf_ld 2 0 133) := ok_aload_n (by decide +kernel : decode (mb_ 31) 132 = .ok (.aload_n 0, 1)) rfl
theorem ok_X2_thirdBases_133 : ok_S 31 133 (sf_ld 0 6 135) := ok_iload (by decide +kernel : decode (mb_ 31) 133 = .ok (.iload 6, 2))
theorem ok_X2_thirdBases_135 : ok_S 31 135 (sf_push (0, 2) 136) := ok_iconst (by decide +kernel : decode (mb_ 31) 135 = .ok (.iconst 2, 1)) ⟨by decide, by decide⟩
theorem ok_X2_thirdBases_136 : ok_S 31 136 (sf_ld 0 5 138) := ok_iload (by decide +kernel : decode (mb_ 31) 136 = .ok (.iload 5, 2))
theorem ok_X2_thirdBases_138 : ok_S 31 138 (sf_cv 9 [2, 0, 0, 0] 28 141) := ok_cv mt_28 cl_9 (by decide +kernel : decode (mb_ 31) 138 = .ok (.invokevirtual 176, 3)) tw_736 tw_738 ts_17 tw_2 rfl (by decide +kernel) (mh_ok rfl) (by decide) (by decide)
theorem ok_X2_thirdBases_141 : ok_S 31 141 (sf_st 0 5 143) := ok_istore (by decide +kernel : decode (mb_ 31) 141 = .ok (.istore 5, 2))
theorem ok_X2_thirdBases_143 : ok_S 31 143 (sf_inc 6 1 146) := ok_iinc (by decide +kernel : decode (mb_ 31) 143 = .ok (.iinc 6 1, 3))
theorem ok_X2_thirdBases_146 : ok_S 31 146 (sf_go 94) := ok_goto (by decide +kernel : decode (mb_ 31) 146 = .ok (.goto (-52), 3)) (by decide)
theorem ok_X2_thirdBases_149 : ok_S 31 149 (sf_ld 0 5 151) := ok_iload (by decide +kernel : decode (mb_ 31) 149 = .ok (.iload 5, 2))
theorem ok_X2_thirdBases_151 : ok_S 31 151 (sf_ret 0) := ok_ret0 (by decide +kernel : decode (mb_ 31) 151 = .ok (.ireturn, 1)) rfl
theorem ok_X2_thirdBases (pc : Nat) : ok_S 31 pc (cd_X2_thirdBases pc) :=
  (ok_bf (ok_bf (ok_bf (ok_bf (ok_bf (ok_bf (ok_bf (ok_lf pc ok_X2_thirdBases_151) (ok_lf pc ok_X2_thirdBases_149)) (ok_lf pc ok_X2_thirdBases_146)) (ok_bf (ok_bf (ok_lf pc ok_X2_thirdBases_143) (ok_lf pc ok_X2_thirdBases_141)) (ok_lf pc ok_X2_thirdBases_138))) (ok_bf (ok_bf (ok_bf (ok_lf pc ok_X2_thirdBases_136) (ok_lf pc ok_X2_thirdBases_135)) (ok_lf pc ok_X2_thirdBases_133)) (ok_bf (ok_bf (ok_lf pc ok_X2_thirdBases_132) (ok_lf pc ok_X2_thirdBases_129)) (ok_lf pc ok_X2_thirdBases_127)))) (ok_bf (ok_bf (ok_bf (ok_bf (ok_lf pc ok_X2_thirdBases_126) (ok_lf pc ok_X2_thirdBases_124)) (ok_lf pc ok_X2_thirdBases_121)) (ok_bf (ok_bf (ok_lf pc ok_X2_thirdBases_120) (ok_lf pc ok_X2_thirdBases_117)) (ok_lf pc ok_X2_thirdBases_116))) (ok_bf (ok_bf (ok_bf (ok_lf pc ok_X2_thirdBases_115) (ok_lf pc ok_X2_thirdBases_114)) (ok_lf pc ok_X2_thirdBases_112)) (ok_bf (ok_bf (ok_lf pc ok_X2_thirdBases_111) (ok_lf pc ok_X2_thirdBases_108)) (ok_lf pc ok_X2_thirdBases_106))))) (ok_bf (ok_bf (ok_bf (ok_bf (ok_bf (ok_lf pc ok_X2_thirdBases_103) (ok_lf pc ok_X2_thirdBases_100)) (ok_lf pc ok_X2_thirdBases_97)) (ok_bf (ok_bf (ok_lf pc ok_X2_thirdBases_96) (ok_lf pc ok_X2_thirdBases_94)) (ok_lf pc ok_X2_thirdBases_92))) (ok_bf (ok_bf (ok_bf (ok_lf pc ok_X2_thirdBases_91) (ok_lf pc ok_X2_thirdBases_90)) (ok_lf pc ok_X2_thirdBases_89)) (ok_bf (ok_bf (ok_lf pc ok_X2_thirdBases_88) (ok_lf pc ok_X2_thirdBases_85)) (ok_lf pc ok_X2_thirdBases_84)))) (ok_bf (ok_bf (ok_bf (ok_bf (ok_lf pc ok_X2_thirdBases_83) (ok_lf pc ok_X2_thirdBases_82)) (ok_lf pc ok_X2_thirdBases_81)) (ok_bf (ok_bf (ok_lf pc ok_X2_thirdBases_78) (ok_lf pc ok_X2_thirdBases_77)) (ok_lf pc ok_X2_thirdBases_75))) (ok_bf (ok_bf (ok_bf (ok_lf pc ok_X2_thirdBases_74) (ok_lf pc ok_X2_thirdBases_73)) (ok_lf pc ok_X2_thirdBases_72)) (ok_bf (ok_lf pc ok_X2_thirdBases_71) (ok_lf pc ok_X2_thirdBases_69)))))) (ok_bf (ok_bf (ok_bf (ok_bf (ok_bf (ok_bf (ok_lf pc ok_X2_thirdBases_66) (ok_lf pc ok_X2_thirdBases_65)) (ok_lf pc ok_X2_thirdBases_64)) (ok_bf (ok_bf (ok_lf pc ok_X2_thirdBases_63) (ok_lf pc ok_X2_thirdBases_62)) (ok_lf pc ok_X2_thirdBases_61))) (ok_bf (ok_bf (ok_bf (ok_lf pc ok_X2_thirdBases_59) (ok_lf pc ok_X2_thirdBases_56)) (ok_lf pc ok_X2_thirdBases_55)) (ok_bf (ok_bf (ok_lf pc ok_X2_thirdBases_54) (ok_lf pc ok_X2_thirdBases_53)) (ok_lf pc ok_X2_thirdBases_50)))) (ok_bf (ok_bf (ok_bf (ok_bf (ok_lf pc ok_X2_thirdBases_49) (ok_lf pc ok_X2_thirdBases_48)) (ok_lf pc ok_X2_thirdBases_47)) (ok_bf (ok_bf (ok_lf pc ok_X2_thirdBases_44) (ok_lf pc ok_X2_thirdBases_42)) (ok_lf pc ok_X2_thirdBases_40))) (ok_bf (ok_bf (ok_bf (ok_lf pc ok_X2_thirdBases_39) (ok_lf pc ok_X2_thirdBases_36)) (ok_lf pc ok_X2_thirdBases_35)) (ok_bf (ok_lf pc ok_X2_thirdBases_32) (ok_lf pc ok_X2_thirdBases_31))))) (ok_bf (ok_bf (ok_bf (ok_bf (ok_bf (ok_lf pc ok_X2_thirdBases_30) (ok_lf pc ok_X2_thirdBases_29)) (ok_lf pc ok_X2_thirdBases_28)) (ok_bf (ok_bf (ok_lf pc ok_X2_thirdBases_27) (ok_lf pc ok_X2_thirdBases_26)) (ok_lf pc ok_X2_thirdBases_25))) (ok_bf (ok_bf (ok_bf (ok_lf pc ok_X2_thirdBases_24) (ok_lf pc ok_X2_thirdBases_23)) (ok_lf pc ok_X2_thirdBases_20)) (ok_bf (ok_bf (ok_lf pc ok_X2_thirdBases_19) (ok_lf pc ok_X2_thirdBases_18)) (ok_lf pc ok_X2_thirdBases_17)))) (ok_bf (ok_bf (ok_bf (ok_bf (ok_lf pc ok_X2_thirdBases_14) (ok_lf pc ok_X2_thirdBases_13)) (ok_lf pc ok_X2_thirdBases_10)) (ok_bf (ok_bf (ok_lf pc ok_X2_thirdBases_9) (ok_lf pc ok_X2_thirdBases_8)) (ok_lf pc ok_X2_thirdBases_7))) (ok_bf (ok_bf (ok_bf (ok_lf pc ok_X2_thirdBases_6) (ok_lf pc ok_X2_thirdBases_5)) (ok_lf pc ok_X2_thirdBases_4)) (ok_bf (ok_lf pc ok_X2_thirdBases_1) (ok_lf pc ok_X2_thirdBases_0)))))))
theorem mo_X2_thirdBases (pc : Nat) : mo_S (cd_X2_thirdBases pc) :=
  (mo_bf (mo_bf (mo_bf (mo_bf (mo_bf (mo_bf (mo_bf (mo_bf mo_ret mo_no) (mo_bf mo_ld mo_no)) (mo_bf mo_go mo_no)) (mo_bf (mo_bf (mo_bf mo_inc mo_no) (mo_bf mo_st mo_no)) (mo_bf mo_cv mo_no))) (mo_bf (mo_bf (mo_bf (mo_bf mo_ld mo_no) (mo_bf mo_push mo_no)) (mo_bf mo_ld mo_no)) (mo_bf (mo_bf (mo_bf mo_ld mo_no) (mo_bf mo_ic mo_no)) (mo_bf mo_push mo_no)))) (mo_bf (mo_bf (mo_bf (mo_bf (mo_bf mo_iald mo_no) (mo_bf mo_ld mo_no)) (mo_bf mo_gr mo_no)) (mo_bf (mo_bf (mo_bf mo_ld mo_no) (mo_bf mo_if mo_no)) (mo_bf mo_i2 mo_no))) (mo_bf (mo_bf (mo_bf (mo_bf mo_push mo_no) (mo_bf mo_i2 mo_no)) (mo_bf mo_ld mo_no)) (mo_bf (mo_bf (mo_bf mo_ld mo_no) (mo_bf mo_if mo_no)) (mo_bf mo_ld mo_no))))) (mo_bf (mo_bf (mo_bf (mo_bf (mo_bf (mo_bf mo_ic mo_no) (mo_bf mo_gi mo_no)) (mo_bf mo_gr mo_no)) (mo_bf (mo_bf (mo_bf mo_ld mo_no) (mo_bf mo_ld mo_no)) (mo_bf mo_st mo_no))) (mo_bf (mo_bf (mo_bf (mo_bf mo_push mo_no) (mo_bf mo_iast mo_no)) (mo_bf mo_ld mo_no)) (mo_bf (mo_bf (mo_bf mo_push mo_no) (mo_bf mo_gr mo_no)) (mo_bf mo_ld mo_no)))) (mo_bf (mo_bf (mo_bf (mo_bf (mo_bf mo_iast mo_no) (mo_bf mo_ld mo_no)) (mo_bf mo_push mo_no)) (mo_bf (mo_bf (mo_bf mo_gr mo_no) (mo_bf mo_ld mo_no)) (mo_bf mo_st mo_no))) (mo_bf (mo_bf (mo_bf (mo_bf mo_i2 mo_no) (mo_bf mo_iald mo_no)) (mo_bf mo_i2 mo_no)) (mo_bf (mo_bf mo_ld mo_no) (mo_bf mo_push mo_no)))))) (mo_bf (mo_bf (mo_bf (mo_bf (mo_bf (mo_bf (mo_bf mo_gr mo_no) (mo_bf mo_ld mo_no)) (mo_bf mo_i2 mo_no)) (mo_bf (mo_bf (mo_bf mo_iald mo_no) (mo_bf mo_i2 mo_no)) (mo_bf mo_ld mo_no))) (mo_bf (mo_bf (mo_bf (mo_bf mo_push mo_no) (mo_bf mo_gr mo_no)) (mo_bf mo_ld mo_no)) (mo_bf (mo_bf (mo_bf mo_iald mo_no) (mo_bf mo_push mo_no)) (mo_bf mo_gr mo_no)))) (mo_bf (mo_bf (mo_bf (mo_bf (mo_bf mo_ld mo_no) (mo_bf mo_ret mo_no)) (mo_bf mo_push mo_no)) (mo_bf (mo_bf (mo_bf mo_if mo_no) (mo_bf mo_ld mo_no)) (mo_bf mo_st mo_no))) (mo_bf (mo_bf (mo_bf (mo_bf mo_push mo_no) (mo_bf mo_go mo_no)) (mo_bf mo_push mo_no)) (mo_bf (mo_bf mo_if mo_no) (mo_bf mo_i2 mo_no))))) (mo_bf (mo_bf (mo_bf (mo_bf (mo_bf (mo_bf mo_i2 mo_no) (mo_bf mo_ld mo_no)) (mo_bf mo_push mo_no)) (mo_bf (mo_bf (mo_bf mo_i2 mo_no) (mo_bf mo_iald mo_no)) (mo_bf mo_i2 mo_no))) (mo_bf (mo_bf (mo_bf (mo_bf mo_ld mo_no) (mo_bf mo_push mo_no)) (mo_bf mo_gr mo_no)) (mo_bf (mo_bf (mo_bf mo_ld mo_no) (mo_bf mo_iald mo_no)) (mo_bf mo_push mo_no)))) (mo_bf (mo_bf (mo_bf (mo_bf (mo_bf mo_gr mo_no) (mo_bf mo_ld mo_no)) (mo_bf mo_if mo_no)) (mo_bf (mo_bf (mo_bf mo_i2 mo_no) (mo_bf mo_push mo_no)) (mo_bf mo_i2 mo_no))) (mo_bf (mo_bf (mo_bf (mo_bf mo_ld mo_no) (mo_bf mo_iald mo_no)) (mo_bf mo_push mo_no)) (mo_bf (mo_bf mo_gr mo_no) (mo_bf mo_ld mo_no)))))))
theorem ok_X2_fill_0 : ok_S 32 0 (sf_ld 2 0 1) := ok_aload_n (by decide +kernel : decode (mb_ 32) 0 = .ok (.aload_n 0, 1)) rfl
theorem ok_X2_fill_1 : ok_S 32 1 (sf_gr 9 9 0 4) := ok_gr fd_9_0 (by decide +kernel : decode (mb_ 32) 1 = .ok (.getfield 12, 3)) tw_82 (Or.inl rfl) rfl
theorem ok_X2_fill_4 : ok_S 32 4 (sf_cv 8 [2] 97 7) := ok_cv mt_97 cl_8 (by decide +kernel : decode (mb_ 32) 4 = .ok (.invokevirtual 81, 3)) tw_714 tw_715 tw_716 tw_3 rfl (by decide +kernel) (mh_ok rfl) (by decide) (by decide)
theorem ok_X2_fill_7 : ok_S 32 7 (sf_st 0 1 8) := ok_istore_n (by decide +kernel : decode (mb_ 32) 7 = .ok (.istore_n 1, 1)) rfl
theorem ok_X2_fill_8 : ok_S 32 8 (sf_ld 2 0 9) := ok_aload_n (by decide +kernel : decode (mb_ 32) 8 = .ok (.aload_n 0, 1)) rfl
theorem ok_X2_fill_9 : ok_S 32 9 (sf_gr 9 9 12 12) := ok_gr fd_9_12 (by decide +kernel : decode (mb_ 32) 9 = .ok (.getfield 53, 3)) tw_99 (Or.inl rfl) rfl
theorem ok_X2_fill_12 : ok_S 32 12 (sf_push (0, 0) 13) := ok_iconst (by decide +kernel : decode (mb_ 32) 12 = .ok (.iconst 0, 1)) ⟨by decide, by decide⟩
theorem ok_X2_fill_13 : ok_S 32 13 (sf_cs [2, 0] 255 16) := ok_cs mt_255 (by decide +kernel : decode (mb_ 32) 13 = .ok (.invokestatic 162, 3)) tw_723 tw_45 tw_4 (by decide +kernel) (mh_ok rfl) (by decide) (by decide)
theorem ok_X2_fill_16 : ok_S 32 16 (sf_ld 2 0 17) := ok_aload_n (by decide +kernel : decode (mb_ 32) 16 = .ok (.aload_n 0, 1)) rfl
theorem ok_X2_fill_17 : ok_S 32 17 (sf_push (0, 0) 18) := ok_iconst (by decide +kernel : decode (mb_ 32) 17 = .ok (.iconst 0, 1)) ⟨by decide, by decide⟩
theorem ok_X2_fill_18 : ok_S 32 18 (sf_pi 9 9 13 21) := ok_pi fd_9_13 (by decide +kernel : decode (mb_ 32) 18 = .ok (.putfield 56, 3)) tw_100 rfl (Or.inl ff_9_13) rfl
theorem ok_X2_fill_21 : ok_S 32 21 (sf_push (0, 2) 22) := ok_iconst (by decide +kernel : decode (mb_ 32) 21 = .ok (.iconst 2, 1)) ⟨by decide, by decide⟩
theorem ok_X2_fill_22 : ok_S 32 22 (sf_st 0 2 23) := ok_istore_n (by decide +kernel : decode (mb_ 32) 22 = .ok (.istore_n 2, 1)) rfl
theorem ok_X2_fill_23 : ok_S 32 23 (sf_ld 0 2 24) := ok_iload_n (by decide +kernel : decode (mb_ 32) 23 = .ok (.iload_n 2, 1)) rfl
theorem ok_X2_fill_24 : ok_S 32 24 (sf_push (0, 16) 26) := ok_bipush (by decide +kernel : decode (mb_ 32) 24 = .ok (.bipush 16, 2)) ⟨by decide, by decide⟩ (by decide +kernel)
theorem ok_X2_fill_26 : ok_S 32 26 (sf_ic 4 128 29) := ok_ic4 (by decide +kernel : decode (mb_ 32) 26 = .ok (.if_icmp .gt 102, 3)) (by decide)
theorem ok_X2_fill_29 : ok_S 32 29 (sf_push (0, 2) 30) := ok_iconst (by decide +kernel : decode (mb_ 32) 29 = .ok (.iconst 2, 1)) ⟨by decide, by decide⟩
theorem ok_X2_fill_30 : ok_S 32 30 (sf_st 0 3 31) := ok_istore_n (by decide +kernel : decode (mb_ 32) 30 = .ok (.istore_n 3, 1)) rfl
theorem ok_X2_fill_31 : ok_S 32 31 (sf_ld 0 3 32) := ok_iload_n (by decide +kernel : decode (mb_ 32) 31 = .ok (.iload_n 3, 1)) rfl
theorem ok_X2_fill_32 : ok_S 32 32 (sf_push (0, 16) 34) := ok_bipush (by decide +kernel : decode (mb_ 32) 32 = .ok (.bipush 16, 2)) ⟨by decide, by decide⟩ (by decide +kernel)
theorem ok_X2_fill_34 : ok_S 32 34 (sf_ic 4 122 37) := ok_ic4 (by decide +kernel : decode (mb_ 32) 34 = .ok (.if_icmp .gt 88, 3)) (by decide)
theorem ok_X2_fill_37 : ok_S 32 37 (sf_ld 2 0 38) := ok_aload_n (by decide +kernel : decode (mb_ 32) 37 = .ok (.aload_n 0, 1)) rfl
theorem ok_X2_fill_38 : ok_S 32 38 (sf_ld 0 2 39) := ok_iload_n (by decide +kernel : decode (mb_ 32) 38 = .ok (.iload_n 2, 1)) rfl
theorem ok_X2_fill_39 : ok_S 32 39 (sf_ld 0 3 40) := ok_iload_n (by decide +kernel : decode (mb_ 32) 39 = .ok (.iload_n 3, 1)) rfl
theorem ok_X2_fill_40 : ok_S 32 40 (sf_ld 0 1 41) := ok_iload_n (by decide +kernel : decode (mb_ 32) 40 = .ok (.iload_n 1, 1)) rfl
theorem ok_X2_fill_41 : ok_S 32 41 (sf_cv 9 [2, 0, 0, 0] 31 44) := ok_cv mt_31 cl_9 (by decide +kernel : decode (mb_ 32) 41 = .ok (.invokevirtual 184, 3)) tw_747 tw_749 ts_19 tw_2 rfl (by decide +kernel) (mh_ok rfl) (by decide) (by decide)
theorem ok_X2_fill_44 : ok_S 32 44 (sf_st 0 4 46) := ok_istore (by decide +kernel : decode (mb_ 32) 44 = .ok (.istore 4, 2))
theorem ok_X2_fill_46 : ok_S 32 46 (sf_ld 2 0 47) := ok_aload_n (by decide +kernel : decode (mb_ 32) 46 = .ok (.aload_n 0, 1)) rfl
theorem ok_X2_fill_47 : ok_S 32 47 (sf_gr 9 9 11 50) := ok_gr fd_9_11 (by decide +kernel : decode (mb_ 32) 47 = .ok (.getfield 50, 3)) tw_98 (Or.inl rfl) rfl
theorem ok_X2_fill_50 : ok_S 32 50 (sf_ld 0 2 51) := ok_iload_n (by decide +kernel : decode (mb_ 32) 50 = .ok (.iload_n 2, 1)) rfl
theorem ok_X2_fill_51 : ok_S 32 51 (sf_push (0, 17) 53) := ok_bipush (by decide +kernel : decode (mb_ 32) 51 = .ok (.bipush 17, 2)) ⟨by decide, by decide⟩ (by decide +kernel)
theorem ok_X2_fill_53 : ok_S 32 53 (sf_i2 mx_mul 54) := ok_imul (by decide +kernel : decode (mb_ 32) 53 = .ok (.imul, 1))
theorem ok_X2_fill_54 : ok_S 32 54 (sf_ld 0 3 55) := ok_iload_n (by decide +kernel : decode (mb_ 32) 54 = .ok (.iload_n 3, 1)) rfl
theorem ok_X2_fill_55 : ok_S 32 55 (sf_i2 mx_add 56) := ok_iadd (by decide +kernel : decode (mb_ 32) 55 = .ok (.iadd, 1))
theorem ok_X2_fill_56 : ok_S 32 56 (sf_ld 0 4 58) := ok_iload (by decide +kernel : decode (mb_ 32) 56 = .ok (.iload 4, 2))
theorem ok_X2_fill_58 : ok_S 32 58 (sf_iast 59) := ok_iast (by decide +kernel : decode (mb_ 32) 58 = .ok (.iastore, 1))
theorem ok_X2_fill_59 : ok_S 32 59 (sf_ld 0 4 61) := ok_iload (by decide +kernel : decode (mb_ 32) 59 = .ok (.iload 4, 2))
theorem ok_X2_fill_61 : ok_S 32 61 (sf_if 1 67 64) := ok_if1 (by decide +kernel : decode (mb_ 32) 61 = .ok (.ifCond .ne 6, 3)) (by decide)
theorem ok_X2_fill_64 : ok_S 32 64 (sf_go 116) := ok_goto (by decide +kernel : decode (mb_ 32) 64 = .ok (.goto 52, 3)) (by decide)
theorem ok_X2_fill_67 : ok_S 32 67 (sf_ld 2 0 68) := ok_aload_n (by decide +kernel : decode (mb_ 32) 67 = .ok (.aload_n 0, 1)) rfl
theorem ok_X2_fill_68 : ok_S 32 68 (sf_dup 69) := ok_dup (by decide +kernel : decode (mb_ 32) 68 = .ok (.dup, 1))
theorem ok_X2_fill_69 : ok_S 32 69 (sf_gi 9 9 13 72) := ok_gi fd_9_13 (by decide +kernel : decode (mb_ 32) 69 = .ok (.getfield 56, 3)) tw_100 (Or.inl rfl) rfl
theorem ok_X2_fill_72 : ok_S 32 72 (sf_ld 0 4 74) := ok_iload (by decide +kernel : decode (mb_ 32) 72 = .ok (.iload 4, 2))
theorem ok_X2_fill_74 : ok_S 32 74 (sf_cs [0] 248 77) := ok_cs mt_248 (by decide +kernel : decode (mb_ 32) 74 = .ok (.invokestatic 68, 3)) tw_751 tw_752 tw_20 (by decide +kernel) (mh_ok rfl) (by decide) (by decide)
theorem ok_X2_fill_77 : ok_S 32 77 (sf_i2 mx_add 78) := ok_iadd (by decide +kernel : decode (mb_ 32) 77 = .ok (.iadd, 1))
theorem ok_X2_fill_78 : ok_S 32 78 (sf_pi 9 9 13 81) := ok_pi fd_9_13 (by decide +kernel : decode (mb_ 32) 78 = .ok (.putfield 56, 3)) tw_100 rfl (Or.inl ff_9_13) rfl
theorem ok_X2_fill_81 : ok_S 32 81 (sf_ld 2 0 82) := ok_aload_n (by decide +kernel : decode (mb_ 32) 81 = .ok (.aload_n 0, 1)) rfl
theorem ok_X2_fill_82 : ok_S 32 82 (sf_gr 9 9 12 85) := ok_gr fd_9_12 (by decide +kernel : decode (mb_ 32) 82 = .ok (.getfield 53, 3)) tw_99 (Or.inl rfl) rfl
theorem ok_X2_fill_85 : ok_S 32 85 (sf_push (0, 0) 86) := ok_iconst (by decide +kernel : decode (mb_ 32) 85 = .ok (.iconst 0, 1)) ⟨by decide, by decide⟩
theorem ok_X2_fill_86 : ok_S 32 86 (sf_dup2 87) := ok_dup2 (by decide +kernel : decode (mb_ 32) 86 = .ok (.dup2, 1))
theorem ok_X2_fill_87 : ok_S 32 87 (sf_iald 88) := ok_iald (by decide +kernel : decode (mb_ 32) 87 = .ok (.iaload, 1))
theorem ok_X2_fill_88 : ok_S 32 88 (sf_push (0, 1) 89) := ok_iconst (by decide +kernel : decode (mb_ 32) 88 = .ok (.iconst 1, 1)) ⟨by decide, by decide⟩
theorem ok_X2_fill_89 : ok_S 32 89 (sf_ld 0 2 90) := ok_iload_n (by decide +kernel : decode (mb_ 32) 89 = .ok (.iload_n 2, 1)) rfl
theorem ok_X2_fill_90 : ok_S 32 90 (sf_i2 mx_shl 91) := ok_ishl (by decide +kernel : decode (mb_ 32) 90 = .ok (.ishl, 1))
theorem ok_X2_fill_91 : ok_S 32 91 (sf_i2 mx_or 92) := ok_ior (by decide +kernel : decode (mb_ 32) 91 = .ok (.ior, 1))
theorem ok_X2_fill_92 : ok_S 32 92 (sf_iast 93) := ok_iast (by decide +kernel : decode (mb_ 32) 92 = .ok (.iastore, 1))
theorem ok_X2_fill_93 : ok_S 32 93 (sf_ld 2 0 94) := ok_aload_n (by decide +kernel : decode (mb_ 32) 93 = .ok (.aload_n 0, 1)) rfl
theorem ok_X2_fill_94 : ok_S 32 94 (sf_gr 9 9 12 97) := ok_gr fd_9_12 (by decide +kernel : decode (mb_ 32) 94 = .ok (.getfield 53, 3)) tw_99 (Or.inl rfl) rfl
theorem ok_X2_fill_97 : ok_S 32 97 (sf_push (0, 1) 98) := ok_iconst (by decide +kernel : decode (mb_ 32) 97 = .ok (.iconst 1, 1)) ⟨by decide, by decide⟩
theorem ok_X2_fill_98 : ok_S 32 98 (sf_dup2 99) := ok_dup2 (by decide +kernel : decode (mb_ 32) 98 = .ok (.dup2, 1))
theorem ok_X2_fill_99 : ok_S 32 99 (sf_iald 100) := ok_iald (by decide +kernel : decode (mb_ 32) 99 = .ok (.iaload, 1))
theorem ok_X2_fill_100 : ok_S 32 100 (sf_push (0, 1) 101) := ok_iconst (by decide +kernel : decode (mb_ 32) 100 = .ok (.iconst 1, 1)) ⟨by decide, by decide⟩
theorem ok_X2_fill_101 : ok_S 32 101 (sf_ld 0 3 102) := ok_iload_n (by decide +kernel : decode (mb_ 32) 101 = .ok (.iload_n 3, 1)) rfl
theorem ok_X2_fill_102 : ok_S 32 102 (sf_i2 mx_shl 103) := ok_ishl (by decide +kernel : decode (mb_ 32) 102 = .ok (.ishl, 1))
theorem ok_X2_fill_103 : ok_S 32 103 (sf_i2 mx_or 104) := ok_ior (by decide +kernel : decode (mb_ 32) 103 = .ok (.ior, 1))
theorem ok_X2_fill_104 : ok_S 32 104 (sf_iast 105) := ok_iast (by decide +kernel : decode (mb_ 32) 104 = .ok (.iastore, 1))
theorem ok_X2_fill_105 : ok_S 32 105 (sf_ld 2 0 106) := ok_aload_n (by decide +kernel : decode (mb_ 32) 105 = .ok (.aload_n 0, 1)) rfl
theorem ok_X2_fill_106 : ok_S 32 106 (sf_gr 9 9 12 109) := ok_gr fd_9_12 (by decide +kernel : decode (mb_ 32) 106 = .ok (.getfield 53, 3)) tw_99 (Or.inl rfl) rfl
theorem ok_X2_fill_109 : ok_S 32 109 (sf_push (0, 2) 110) := ok_iconst (by decide +kernel : decode (mb_ 32) 109 = .ok (.iconst 2, 1)) ⟨by decide, by decide⟩
theorem ok_X2_fill_110 : ok_S 32 110 (sf_dup2 111) := ok_dup2 (by decide +kernel : decode (mb_ 32) 110 = .ok (.dup2, 1))
theorem ok_X2_fill_111 : ok_S 32 111 (sf_iald 112) := ok_iald (by decide +kernel : decode (mb_ 32) 111 = .ok (.iaload, 1))
theorem ok_X2_fill_112 : ok_S 32 112 (sf_ld 0 4 114) := ok_iload (by decide +kernel : decode (mb_ 32) 112 = .ok (.iload 4, 2))
theorem ok_X2_fill_114 : ok_S 32 114 (sf_i2 mx_or 115) := ok_ior (by decide +kernel : decode (mb_ 32) 114 = .ok (.ior, 1))
theorem ok_X2_fill_115 : ok_S 32 115 (sf_iast 116) := ok_iast (by decide +kernel : decode (mb_ 32) 115 = .ok (.iastore, 1))
theorem ok_X2_fill_116 : ok_S 32 116 (sf_inc 3 1 119) := ok_iinc (by decide +kernel : decode (mb_ 32) 116 = .ok (.iinc 3 1, 3))
theorem ok_X2_fill_119 : ok_S 32 119 (sf_go 31) := ok_goto (by decide +kernel : decode (mb_ 32) 119 = .ok (.goto (-88), 3)) (by decide)
theorem ok_X2_fill_122 : ok_S 32 122 (sf_inc 2 1 125) := ok_iinc (by decide +kernel : decode (mb_ 32) 122 = .ok (.iinc 2 1, 3))
theorem ok_X2_fill_125 : ok_S 32 125 (sf_go 23) := ok_goto (by decide +kernel : decode (mb_ 32) 125 = .ok (.goto (-102), 3)) (by decide)
theorem ok_X2_fill_128 : ok_S 32 128 (sf_retv) := ok_retv (by decide +kernel : decode (mb_ 32) 128 = .ok (.return_, 1)) rfl
theorem ok_X2_fill (pc : Nat) : ok_S 32 pc (cd_X2_fill pc) :=
  (ok_bf (ok_bf (ok_bf (ok_bf (ok_bf (ok_bf (ok_bf (ok_lf pc ok_X2_fill_128) (ok_lf pc ok_X2_fill_125)) (ok_lf pc ok_X2_fill_122)) (ok_bf (ok_lf pc ok_X2_fill_119) (ok_lf pc ok_X2_fill_116))) (ok_bf (ok_bf (ok_bf (ok_lf pc ok_X2_fill_115) (ok_lf pc ok_X2_fill_114)) (ok_lf pc ok_X2_fill_112)) (ok_bf (ok_lf pc ok_X2_fill_111) (ok_lf pc ok_X2_fill_110)))) (ok_bf (ok_bf (ok_bf (ok_bf (ok_lf pc ok_X2_fill_109) (ok_lf pc ok_X2_fill_106)) (ok_lf pc ok_X2_fill_105)) (ok_bf (ok_lf pc ok_X2_fill_104) (ok_lf pc ok_X2_fill_103))) (ok_bf (ok_bf (ok_bf (ok_lf pc ok_X2_fill_102) (ok_lf pc ok_X2_fill_101)) (ok_lf pc ok_X2_fill_100)) (ok_bf (ok_lf pc ok_X2_fill_99) (ok_lf pc ok_X2_fill_98))))) (ok_bf (ok_bf (ok_bf (ok_bf (ok_bf (ok_lf pc ok_X2_fill_97) (ok_lf pc ok_X2_fill_94)) (ok_lf pc ok_X2_fill_93)) (ok_bf (ok_lf pc ok_X2_fill_92) (ok_lf pc ok_X2_fill_91))) (ok_bf (ok_bf (ok_bf (ok_lf pc ok_X2_fill_90) (ok_lf pc ok_X2_fill_89)) (ok_lf pc ok_X2_fill_88)) (ok_bf (ok_lf pc ok_X2_fill_87) (ok_lf pc ok_X2_fill_86)))) (ok_bf (ok_bf (ok_bf (ok_bf (ok_lf pc ok_X2_fill_85) (ok_lf pc ok_X2_fill_82)) (ok_lf pc ok_X2_fill_81)) (ok_bf (ok_lf pc ok_X2_fill_78) (ok_lf pc ok_X2_fill_77))) (ok_bf (ok_bf (ok_bf (ok_lf pc ok_X2_fill_74) (ok_lf pc ok_X2_fill_72)) (ok_lf pc ok_X2_fill_69)) (ok_bf (ok_lf pc ok_X2_fill_68) (ok_lf pc ok_X2_fill_67)))))) (ok_bf (ok_bf (ok_bf (ok_bf (ok_bf (ok_bf (ok_lf pc ok_X2_fill_64) (ok_lf pc ok_X2_fill_61)) (ok_lf pc ok_X2_fill_59)) (ok_bf (ok_lf pc ok_X2_fill_58) (ok_lf pc ok_X2_fill_56))) (ok_bf (ok_bf (ok_bf (ok_lf pc ok_X2_fill_55) (ok_lf pc ok_X2_fill_54)) (ok_lf pc ok_X2_fill_53)) (ok_bf (ok_lf pc ok_X2_fill_51) (ok_lf pc ok_X2_fill_50)))) (ok_bf (ok_bf (ok_bf (ok_bf (ok_lf pc ok_X2_fill_47) (ok_lf pc ok_X2_fill_46)) (ok_lf pc ok_X2_fill_44)) (ok_bf (ok_lf pc ok_X2_fill_41) (ok_lf pc ok_X2_fill_40))) (ok_bf (ok_bf (ok_bf (ok_lf pc ok_X2_fill_39) (ok_lf pc ok_X2_fill_38)) (ok_lf pc ok_X2_fill_37)) (ok_bf (ok_lf pc ok_X2_fill_34) (ok_lf pc ok_X2_fill_32))))) (ok_bf (ok_bf (ok_bf (ok_bf (ok_bf (ok_lf pc ok_X2_fill_31) (ok_lf pc ok_X2_fill_30)) (ok_lf pc ok_X2_fill_29)) (ok_bf (ok_lf pc ok_X2_fill_26) (ok_lf pc ok_X2_fill_24))) (ok_bf (ok_bf (ok_bf (ok_lf pc ok_X2_fill_23) (ok_lf pc ok_X2_fill_22)) (ok_lf pc ok_X2_fill_21)) (ok_bf (ok_lf pc ok_X2_fill_18) (ok_lf pc ok_X2_fill_17)))) (ok_bf (ok_bf (ok_bf (ok_bf (ok_lf pc ok_X2_fill_16) (ok_lf pc ok_X2_fill_13)) (ok_lf pc ok_X2_fill_12)) (ok_bf (ok_lf pc ok_X2_fill_9) (ok_lf pc ok_X2_fill_8))) (ok_bf (ok_bf (ok_lf pc ok_X2_fill_7) (ok_lf pc ok_X2_fill_4)) (ok_bf (ok_lf pc ok_X2_fill_1) (ok_lf pc ok_X2_fill_0)))))))
theorem mo_X2_fill (pc : Nat) : mo_S (cd_X2_fill pc) :=
  (mo_bf (mo_bf (mo_bf (mo_bf (mo_bf (mo_bf (mo_bf (mo_bf mo_retv mo_no) (mo_bf mo_go mo_no)) (mo_bf mo_inc mo_no)) (mo_bf (mo_bf mo_go mo_no) (mo_bf mo_inc mo_no))) (mo_bf (mo_bf (mo_bf (mo_bf mo_iast mo_no) (mo_bf mo_i2 mo_no)) (mo_bf mo_ld mo_no)) (mo_bf (mo_bf mo_iald mo_no) (mo_bf mo_dup2 mo_no)))) (mo_bf (mo_bf (mo_bf (mo_bf (mo_bf mo_push mo_no) (mo_bf mo_gr mo_no)) (mo_bf mo_ld mo_no)) (mo_bf (mo_bf mo_iast mo_no) (mo_bf mo_i2 mo_no))) (mo_bf (mo_bf (mo_bf (mo_bf mo_i2 mo_no) (mo_bf mo_ld mo_no)) (mo_bf mo_push mo_no)) (mo_bf (mo_bf mo_iald mo_no) (mo_bf mo_dup2 mo_no))))) (mo_bf (mo_bf (mo_bf (mo_bf (mo_bf (mo_bf mo_push mo_no) (mo_bf mo_gr mo_no)) (mo_bf mo_ld mo_no)) (mo_bf (mo_bf mo_iast mo_no) (mo_bf mo_i2 mo_no))) (mo_bf (mo_bf (mo_bf (mo_bf mo_i2 mo_no) (mo_bf mo_ld mo_no)) (mo_bf mo_push mo_no)) (mo_bf (mo_bf mo_iald mo_no) (mo_bf mo_dup2 mo_no)))) (mo_bf (mo_bf (mo_bf (mo_bf (mo_bf mo_push mo_no) (mo_bf mo_gr mo_no)) (mo_bf mo_ld mo_no)) (mo_bf (mo_bf mo_pi mo_no) (mo_bf mo_i2 mo_no))) (mo_bf (mo_bf (mo_bf (mo_bf mo_cs mo_no) (mo_bf mo_ld mo_no)) (mo_bf mo_gi mo_no)) (mo_bf (mo_bf mo_dup mo_no) (mo_bf mo_ld mo_no)))))) (mo_bf (mo_bf (mo_bf (mo_bf (mo_bf (mo_bf (mo_bf mo_go mo_no) (mo_bf mo_if mo_no)) (mo_bf mo_ld mo_no)) (mo_bf (mo_bf mo_iast mo_no) (mo_bf mo_ld mo_no))) (mo_bf (mo_bf (mo_bf (mo_bf mo_i2 mo_no) (mo_bf mo_ld mo_no)) (mo_bf mo_i2 mo_no)) (mo_bf (mo_bf mo_push mo_no) (mo_bf mo_ld mo_no)))) (mo_bf (mo_bf (mo_bf (mo_bf (mo_bf mo_gr mo_no) (mo_bf mo_ld mo_no)) (mo_bf mo_st mo_no)) (mo_bf (mo_bf mo_cv mo_no) (mo_bf mo_ld mo_no))) (mo_bf (mo_bf (mo_bf (mo_bf mo_ld mo_no) (mo_bf mo_ld mo_no)) (mo_bf mo_ld mo_no)) (mo_bf (mo_bf mo_ic mo_no) (mo_bf mo_push mo_no))))) (mo_bf (mo_bf (mo_bf (mo_bf (mo_bf (mo_bf mo_ld mo_no) (mo_bf mo_st mo_no)) (mo_bf mo_push mo_no)) (mo_bf (mo_bf mo_ic mo_no) (mo_bf mo_push mo_no))) (mo_bf (mo_bf (mo_bf (mo_bf mo_ld mo_no) (mo_bf mo_st mo_no)) (mo_bf mo_push mo_no)) (mo_bf (mo_bf mo_pi mo_no) (mo_bf mo_push mo_no)))) (mo_bf (mo_bf (mo_bf (mo_bf (mo_bf mo_ld mo_no) (mo_bf mo_cs mo_no)) (mo_bf mo_push mo_no)) (mo_bf (mo_bf mo_gr mo_no) (mo_bf mo_ld mo_no))) (mo_bf (mo_bf (mo_bf mo_st mo_no) (mo_bf mo_cv mo_no)) (mo_bf (mo_bf mo_gr mo_no) (mo_bf mo_ld mo_no)))))))
