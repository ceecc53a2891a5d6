/-! PRINTED (gen_ok.py): each step is sound -/
theorem ok_X12_init_0 : ok_S 154 0 (sf_ld 2 0 1) := ok_aload_n (by decide +kernel : decode (mb_ 154) 0 = .ok (.aload_n 0, 1)) rfl
theorem ok_X12_init_1 : ok_S 154 1 (sf_oini 4) := ok_oini (by decide +kernel : decode (mb_ 154) 1 = .ok (.invokespecial 1, 3)) tw_1121 tw_28 tw_29
theorem ok_X12_init_4 : ok_S 154 4 (sf_ld 2 0 5) := ok_aload_n (by decide +kernel : decode (mb_ 154) 4 = .ok (.aload_n 0, 1)) rfl
theorem ok_X12_init_5 : ok_S 154 5 (sf_push (0, 93) 7) := ok_bipush (by decide +kernel : decode (mb_ 154) 5 = .ok (.bipush 93, 2)) ⟨by decide, by decide⟩ (by decide +kernel)
theorem ok_X12_init_7 : ok_S 154 7 (sf_newa 20 9) := ok_newa rfl (Or.inl ⟨rfl, rfl⟩) (by decide +kernel : decode (mb_ 154) 7 = .ok (.newarray .int, 2)) tw_81
theorem ok_X12_init_9 : ok_S 154 9 (sf_pr 13 13 0 12) := ok_pr fd_13_0 (by decide +kernel : decode (mb_ 154) 9 = .ok (.putfield 7, 3)) tw_1126 rfl (Or.inr ⟨ff_13_0, rfl, rfl⟩) rfl (by decide +kernel : parseFieldDescriptor "[I" = some (.array .int)) (Or.inr ⟨_, rfl⟩)
theorem ok_X12_init_12 : ok_S 154 12 (sf_ld 2 0 13) := ok_aload_n (by decide +kernel : decode (mb_ 154) 12 = .ok (.aload_n 0, 1)) rfl
theorem ok_X12_init_13 : ok_S 154 13 (sf_push (0, 93) 15) := ok_bipush (by decide +kernel : decode (mb_ 154) 13 = .ok (.bipush 93, 2)) ⟨by decide, by decide⟩ (by decide +kernel)
theorem ok_X12_init_15 : ok_S 154 15 (sf_newa 20 17) := ok_newa rfl (Or.inl ⟨rfl, rfl⟩) (by decide +kernel : decode (mb_ 154) 15 = .ok (.newarray .int, 2)) tw_81
theorem ok_X12_init_17 : ok_S 154 17 (sf_pr 13 13 1 20) := ok_pr fd_13_1 (by decide +kernel : decode (mb_ 154) 17 = .ok (.putfield 13, 3)) tw_1127 rfl (Or.inr ⟨ff_13_1, rfl, rfl⟩) rfl (by decide +kernel : parseFieldDescriptor "[I" = some (.array .int)) (Or.inr ⟨_, rfl⟩)
theorem ok_X12_init_20 : ok_S 154 20 (sf_ld 2 0 21) := ok_aload_n (by decide +kernel : decode (mb_ 154) 20 = .ok (.aload_n 0, 1)) rfl
theorem ok_X12_init_21 : ok_S 154 21 (sf_push (0, 93) 23) := ok_bipush (by decide +kernel : decode (mb_ 154) 21 = .ok (.bipush 93, 2)) ⟨by decide, by decide⟩ (by decide +kernel)
theorem ok_X12_init_23 : ok_S 154 23 (sf_newa 20 25) := ok_newa rfl (Or.inl ⟨rfl, rfl⟩) (by decide +kernel : decode (mb_ 154) 23 = .ok (.newarray .int, 2)) tw_81
theorem ok_X12_init_25 : ok_S 154 25 (sf_pr 13 13 2 28) := ok_pr fd_13_2 (by decide +kernel : decode (mb_ 154) 25 = .ok (.putfield 16, 3)) tw_1128 rfl (Or.inr ⟨ff_13_2, rfl, rfl⟩) rfl (by decide +kernel : parseFieldDescriptor "[I" = some (.array .int)) (Or.inr ⟨_, rfl⟩)
theorem ok_X12_init_28 : ok_S 154 28 (sf_ld 2 0 29) := ok_aload_n (by decide +kernel : decode (mb_ 154) 28 = .ok (.aload_n 0, 1)) rfl
theorem ok_X12_init_29 : ok_S 154 29 (sf_push (0, 200) 32) := ok_sipush (by decide +kernel : decode (mb_ 154) 29 = .ok (.sipush 200, 3)) ⟨by decide, by decide⟩ (by decide +kernel)
theorem ok_X12_init_32 : ok_S 154 32 (sf_newa 20 34) := ok_newa rfl (Or.inl ⟨rfl, rfl⟩) (by decide +kernel : decode (mb_ 154) 32 = .ok (.newarray .int, 2)) tw_81
theorem ok_X12_init_34 : ok_S 154 34 (sf_pr 13 13 4 37) := ok_pr fd_13_4 (by decide +kernel : decode (mb_ 154) 34 = .ok (.putfield 19, 3)) tw_1130 rfl (Or.inr ⟨ff_13_4, rfl, rfl⟩) rfl (by decide +kernel : parseFieldDescriptor "[I" = some (.array .int)) (Or.inr ⟨_, rfl⟩)
theorem ok_X12_init_37 : ok_S 154 37 (sf_ld 2 0 38) := ok_aload_n (by decide +kernel : decode (mb_ 154) 37 = .ok (.aload_n 0, 1)) rfl
theorem ok_X12_init_38 : ok_S 154 38 (sf_push (0, 3) 39) := ok_iconst (by decide +kernel : decode (mb_ 154) 38 = .ok (.iconst 3, 1)) ⟨by decide, by decide⟩
theorem ok_X12_init_39 : ok_S 154 39 (sf_newa 20 41) := ok_newa rfl (Or.inl ⟨rfl, rfl⟩) (by decide +kernel : decode (mb_ 154) 39 = .ok (.newarray .int, 2)) tw_81
theorem ok_X12_init_41 : ok_S 154 41 (sf_pr 13 13 11 44) := ok_pr fd_13_11 (by decide +kernel : decode (mb_ 154) 41 = .ok (.putfield 22, 3)) tw_1137 rfl (Or.inr ⟨ff_13_11, rfl, rfl⟩) rfl (by decide +kernel : parseFieldDescriptor "[I" = some (.array .int)) (Or.inr ⟨_, rfl⟩)
theorem ok_X12_init_44 : ok_S 154 44 (sf_ld 2 0 45) := ok_aload_n (by decide +kernel : decode (mb_ 154) 44 = .ok (.aload_n 0, 1)) rfl
theorem ok_X12_init_45 : ok_S 154 45 (sf_push (0, 3) 46) := ok_iconst (by decide +kernel : decode (mb_ 154) 45 = .ok (.iconst 3, 1)) ⟨by decide, by decide⟩
theorem ok_X12_init_46 : ok_S 154 46 (sf_newa 20 48) := ok_newa rfl (Or.inl ⟨rfl, rfl⟩) (by decide +kernel : decode (mb_ 154) 46 = .ok (.newarray .int, 2)) tw_81
theorem ok_X12_init_48 : ok_S 154 48 (sf_pr 13 13 12 51) := ok_pr fd_13_12 (by decide +kernel : decode (mb_ 154) 48 = .ok (.putfield 25, 3)) tw_1138 rfl (Or.inr ⟨ff_13_12, rfl, rfl⟩) rfl (by decide +kernel : parseFieldDescriptor "[I" = some (.array .int)) (Or.inr ⟨_, rfl⟩)
theorem ok_X12_init_51 : ok_S 154 51 (sf_ld 2 0 52) := ok_aload_n (by decide +kernel : decode (mb_ 154) 51 = .ok (.aload_n 0, 1)) rfl
theorem ok_X12_init_52 : ok_S 154 52 (sf_push (0, 3) 53) := ok_iconst (by decide +kernel : decode (mb_ 154) 52 = .ok (.iconst 3, 1)) ⟨by decide, by decide⟩
theorem ok_X12_init_53 : ok_S 154 53 (sf_newa 20 55) := ok_newa rfl (Or.inl ⟨rfl, rfl⟩) (by decide +kernel : decode (mb_ 154) 53 = .ok (.newarray .int, 2)) tw_81
theorem ok_X12_init_55 : ok_S 154 55 (sf_pr 13 13 13 58) := ok_pr fd_13_13 (by decide +kernel : decode (mb_ 154) 55 = .ok (.putfield 28, 3)) tw_1139 rfl (Or.inr ⟨ff_13_13, rfl, rfl⟩) rfl (by decide +kernel : parseFieldDescriptor "[I" = some (.array .int)) (Or.inr ⟨_, rfl⟩)
theorem ok_X12_init_58 : ok_S 154 58 (sf_ld 2 0 59) := ok_aload_n (by decide +kernel : decode (mb_ 154) 58 = .ok (.aload_n 0, 1)) rfl
theorem ok_X12_init_59 : ok_S 154 59 (sf_push (0, 18) 61) := ok_bipush (by decide +kernel : decode (mb_ 154) 59 = .ok (.bipush 18, 2)) ⟨by decide, by decide⟩ (by decide +kernel)
theorem ok_X12_init_61 : ok_S 154 61 (sf_newa 21 63) := ok_newa rfl (Or.inr ⟨rfl, rfl⟩) (by decide +kernel : decode (mb_ 154) 61 = .ok (.newarray .long, 2)) tw_204
theorem ok_X12_init_63 : ok_S 154 63 (sf_pr 13 13 14 66) := ok_pr fd_13_14 (by decide +kernel : decode (mb_ 154) 63 = .ok (.putfield 31, 3)) tw_1140 rfl (Or.inr ⟨ff_13_14, rfl, rfl⟩) rfl (by decide +kernel : parseFieldDescriptor "[J" = some (.array .long)) (Or.inr ⟨_, rfl⟩)
theorem ok_X12_init_66 : ok_S 154 66 (sf_ld 2 0 67) := ok_aload_n (by decide +kernel : decode (mb_ 154) 66 = .ok (.aload_n 0, 1)) rfl
theorem ok_X12_init_67 : ok_S 154 67 (sf_push (0, 4) 68) := ok_iconst (by decide +kernel : decode (mb_ 154) 67 = .ok (.iconst 4, 1)) ⟨by decide, by decide⟩
theorem ok_X12_init_68 : ok_S 154 68 (sf_newa 20 70) := ok_newa rfl (Or.inl ⟨rfl, rfl⟩) (by decide +kernel : decode (mb_ 154) 68 = .ok (.newarray .int, 2)) tw_81
theorem ok_X12_init_70 : ok_S 154 70 (sf_dup 71) := ok_dup (by decide +kernel : decode (mb_ 154) 70 = .ok (.dup, 1))
theorem ok_X12_init_71 : ok_S 154 71 (sf_push (0, 0) 72) := ok_iconst (by decide +kernel : decode (mb_ 154) 71 = .ok (.iconst 0, 1)) ⟨by decide, by decide⟩
theorem ok_X12_init_72 : ok_S 154 72 (sf_push (0, (-1)) 73) := ok_iconst (by decide +kernel : decode (mb_ 154) 72 = .ok (.iconst (-1), 1)) ⟨by decide, by decide⟩
theorem ok_X12_init_73 : ok_S 154 73 (sf_iast 74) := ok_iast (by decide +kernel : decode (mb_ 154) 73 = .ok (.iastore, 1))
theorem ok_X12_init_74 : ok_S 154 74 (sf_dup 75) := ok_dup (by decide +kernel : decode (mb_ 154) 74 = .ok (.dup, 1))
theorem ok_X12_init_75 : ok_S 154 75 (sf_push (0, 1) 76) := ok_iconst (by decide +kernel : decode (mb_ 154) 75 = .ok (.iconst 1, 1)) ⟨by decide, by decide⟩
theorem ok_X12_init_76 : ok_S 154 76 (sf_push (0, (-1)) 77) := ok_iconst (by decide +kernel : decode (mb_ 154) 76 = .ok (.iconst (-1), 1)) ⟨by decide, by decide⟩
theorem ok_X12_init_77 : ok_S 154 77 (sf_iast 78) := ok_iast (by decide +kernel : decode (mb_ 154) 77 = .ok (.iastore, 1))
theorem ok_X12_init_78 : ok_S 154 78 (sf_dup 79) := ok_dup (by decide +kernel : decode (mb_ 154) 78 = .ok (.dup, 1))
theorem ok_X12_init_79 : ok_S 154 79 (sf_push (0, 2) 80) := ok_iconst (by decide +kernel : decode (mb_ 154) 79 = .ok (.iconst 2, 1)) ⟨by decide, by decide⟩
theorem ok_X12_init_80 : ok_S 154 80 (sf_push (0, (-1)) 81) := ok_iconst (by decide +kernel : decode (mb_ 154) 80 = .ok (.iconst (-1), 1)) ⟨by decide, by decide⟩
theorem ok_X12_init_81 : ok_S 154 81 (sf_iast 82) := ok_iast (by decide +kernel : decode (mb_ 154) 81 = .ok (.iastore, 1))
theorem ok_X12_init_82 : ok_S 154 82 (sf_dup 83) := ok_dup (by decide +kernel : decode (mb_ 154) 82 = .ok (.dup, 1))
theorem ok_X12_init_83 : ok_S 154 83 (sf_push (0, 3) 84) := ok_iconst (by decide +kernel : decode (mb_ 154) 83 = .ok (.iconst 3, 1)) ⟨by decide, by decide⟩
theorem ok_X12_init_84 : ok_S 154 84 (sf_push (0, (-1)) 85) := ok_iconst (by decide +kernel : decode (mb_ 154) 84 = .ok (.iconst (-1), 1)) ⟨by decide, by decide⟩
theorem ok_X12_init_85 : ok_S 154 85 (sf_iast 86) := ok_iast (by decide +kernel : decode (mb_ 154) 85 = .ok (.iastore, 1))
theorem ok_X12_init_86 : ok_S 154 86 (sf_pr 13 13 16 89) := ok_pr fd_13_16 (by decide +kernel : decode (mb_ 154) 86 = .ok (.putfield 35, 3)) tw_1142 rfl (Or.inr ⟨ff_13_16, rfl, rfl⟩) rfl (by decide +kernel : parseFieldDescriptor "[I" = some (.array .int)) (Or.inr ⟨_, rfl⟩)
theorem ok_X12_init_89 : ok_S 154 89 (sf_ld 2 0 90) := ok_aload_n (by decide +kernel : decode (mb_ 154) 89 = .ok (.aload_n 0, 1)) rfl
theorem ok_X12_init_90 : ok_S 154 90 (sf_push (0, 4) 91) := ok_iconst (by decide +kernel : decode (mb_ 154) 90 = .ok (.iconst 4, 1)) ⟨by decide, by decide⟩
theorem ok_X12_init_91 : ok_S 154 91 (sf_newa 20 93) := ok_newa rfl (Or.inl ⟨rfl, rfl⟩) (by decide +kernel : decode (mb_ 154) 91 = .ok (.newarray .int, 2)) tw_81
theorem ok_X12_init_93 : ok_S 154 93 (sf_pr 13 13 17 96) := ok_pr fd_13_17 (by decide +kernel : decode (mb_ 154) 93 = .ok (.putfield 38, 3)) tw_1143 rfl (Or.inr ⟨ff_13_17, rfl, rfl⟩) rfl (by decide +kernel : parseFieldDescriptor "[I" = some (.array .int)) (Or.inr ⟨_, rfl⟩)
theorem ok_X12_init_96 : ok_S 154 96 (sf_ld 2 0 97) := ok_aload_n (by decide +kernel : decode (mb_ 154) 96 = .ok (.aload_n 0, 1)) rfl
theorem ok_X12_init_97 : ok_S 154 97 (sf_push (0, 160) 100) := ok_sipush (by decide +kernel : decode (mb_ 154) 97 = .ok (.sipush 160, 3)) ⟨by decide, by decide⟩ (by decide +kernel)
theorem ok_X12_init_100 : ok_S 154 100 (sf_newa 21 102) := ok_newa rfl (Or.inr ⟨rfl, rfl⟩) (by decide +kernel : decode (mb_ 154) 100 = .ok (.newarray .long, 2)) tw_204
theorem ok_X12_init_102 : ok_S 154 102 (sf_pr 13 13 18 105) := ok_pr fd_13_18 (by decide +kernel : decode (mb_ 154) 102 = .ok (.putfield 41, 3)) tw_1144 rfl (Or.inr ⟨ff_13_18, rfl, rfl⟩) rfl (by decide +kernel : parseFieldDescriptor "[J" = some (.array .long)) (Or.inr ⟨_, rfl⟩)
theorem ok_X12_init_105 : ok_S 154 105 (sf_ld 2 0 106) := ok_aload_n (by decide +kernel : decode (mb_ 154) 105 = .ok (.aload_n 0, 1)) rfl
theorem ok_X12_init_106 : ok_S 154 106 (sf_push (0, 4) 107) := ok_iconst (by decide +kernel : decode (mb_ 154) 106 = .ok (.iconst 4, 1)) ⟨by decide, by decide⟩
theorem ok_X12_init_107 : ok_S 154 107 (sf_newa 20 109) := ok_newa rfl (Or.inl ⟨rfl, rfl⟩) (by decide +kernel : decode (mb_ 154) 107 = .ok (.newarray .int, 2)) tw_81
theorem ok_X12_init_109 : ok_S 154 109 (sf_pr 13 13 19 112) := ok_pr fd_13_19 (by decide +kernel : decode (mb_ 154) 109 = .ok (.putfield 44, 3)) tw_1145 rfl (Or.inr ⟨ff_13_19, rfl, rfl⟩) rfl (by decide +kernel : parseFieldDescriptor "[I" = some (.array .int)) (Or.inr ⟨_, rfl⟩)
theorem ok_X12_init_112 : ok_S 154 112 (sf_ld 2 0 113) := ok_aload_n (by decide +kernel : decode (mb_ 154) 112 = .ok (.aload_n 0, 1)) rfl
theorem ok_X12_init_113 : ok_S 154 113 (sf_push (0, 4) 114) := ok_iconst (by decide +kernel : decode (mb_ 154) 113 = .ok (.iconst 4, 1)) ⟨by decide, by decide⟩
theorem ok_X12_init_114 : ok_S 154 114 (sf_newa 20 116) := ok_newa rfl (Or.inl ⟨rfl, rfl⟩) (by decide +kernel : decode (mb_ 154) 114 = .ok (.newarray .int, 2)) tw_81
theorem ok_X12_init_116 : ok_S 154 116 (sf_pr 13 13 20 119) := ok_pr fd_13_20 (by decide +kernel : decode (mb_ 154) 116 = .ok (.putfield 47, 3)) tw_1146 rfl (Or.inr ⟨ff_13_20, rfl, rfl⟩) rfl (by decide +kernel : parseFieldDescriptor "[I" = some (.array .int)) (Or.inr ⟨_, rfl⟩)
theorem ok_X12_init_119 : ok_S 154 119 (sf_ld 2 0 120) := ok_aload_n (by decide +kernel : decode (mb_ 154) 119 = .ok (.aload_n 0, 1)) rfl
theorem ok_X12_init_120 : ok_S 154 120 (sf_push (0, 30) 122) := ok_bipush (by decide +kernel : decode (mb_ 154) 120 = .ok (.bipush 30, 2)) ⟨by decide, by decide⟩ (by decide +kernel)
theorem ok_X12_init_122 : ok_S 154 122 (sf_newa 20 124) := ok_newa rfl (Or.inl ⟨rfl, rfl⟩) (by decide +kernel : decode (mb_ 154) 122 = .ok (.newarray .int, 2)) tw_81
theorem ok_X12_init_124 : ok_S 154 124 (sf_pr 13 13 21 127) := ok_pr fd_13_21 (by decide +kernel : decode (mb_ 154) 124 = .ok (.putfield 50, 3)) tw_1147 rfl (Or.inr ⟨ff_13_21, rfl, rfl⟩) rfl (by decide +kernel : parseFieldDescriptor "[I" = some (.array .int)) (Or.inr ⟨_, rfl⟩)
theorem ok_X12_init_127 : ok_S 154 127 (sf_ld 2 0 128) := ok_aload_n (by decide +kernel : decode (mb_ 154) 127 = .ok (.aload_n 0, 1)) rfl
theorem ok_X12_init_128 : ok_S 154 128 (sf_gr 13 13 0 131) := ok_gr fd_13_0 (by decide +kernel : decode (mb_ 154) 128 = .ok (.getfield 7, 3)) tw_1126 (Or.inl rfl) rfl
theorem ok_X12_init_131 : ok_S 154 131 (sf_push (0, 2) 132) := ok_iconst (by decide +kernel : decode (mb_ 154) 131 = .ok (.iconst 2, 1)) ⟨by decide, by decide⟩
theorem ok_X12_init_132 : ok_S 154 132 (sf_push (0, 1) 133) := ok_iconst (by decide +kernel : decode (mb_ 154) 132 = .ok (.iconst 1, 1)) ⟨by decide, by decide⟩
theorem ok_X12_init_133 : ok_S 154 133 (sf_iast 134) := ok_iast (by decide +kernel : decode (mb_ 154) 133 = .ok (.iastore, 1))
theorem ok_X12_init_134 : ok_S 154 134 (sf_ld 2 0 135) := ok_aload_n (by decide +kernel : decode (mb_ 154) 134 = .ok (.aload_n 0, 1)) rfl
theorem ok_X12_init_135 : ok_S 154 135 (sf_cv 13 [2] 156 138) := ok_cv mt_156 cl_13 (by decide +kernel : decode (mb_ 154) 135 = .ok (.invokevirtual 53, 3)) tw_1122 tw_1124 ts_29 tw_7 rfl (by decide +kernel) (mh_ok rfl) (by decide) (by decide)
theorem ok_X12_init_138 : ok_S 154 138 (sf_retv) := ok_retv (by decide +kernel : decode (mb_ 154) 138 = .ok (.return_, 1)) rfl
theorem ok_X12_init (pc : Nat) : ok_S 154 pc (cd_X12_init pc) :=
  (ok_bf (ok_bf (ok_bf (ok_bf (ok_bf (ok_bf (ok_bf (ok_lf pc ok_X12_init_138) (ok_lf pc ok_X12_init_135)) (ok_lf pc ok_X12_init_134)) (ok_bf (ok_bf (ok_lf pc ok_X12_init_133) (ok_lf pc ok_X12_init_132)) (ok_lf pc ok_X12_init_131))) (ok_bf (ok_bf (ok_bf (ok_lf pc ok_X12_init_128) (ok_lf pc ok_X12_init_127)) (ok_lf pc ok_X12_init_124)) (ok_bf (ok_lf pc ok_X12_init_122) (ok_lf pc ok_X12_init_120)))) (ok_bf (ok_bf (ok_bf (ok_bf (ok_lf pc ok_X12_init_119) (ok_lf pc ok_X12_init_116)) (ok_lf pc ok_X12_init_114)) (ok_bf (ok_lf pc ok_X12_init_113) (ok_lf pc ok_X12_init_112))) (ok_bf (ok_bf (ok_bf (ok_lf pc ok_X12_init_109) (ok_lf pc ok_X12_init_107)) (ok_lf pc ok_X12_init_106)) (ok_bf (ok_lf pc ok_X12_init_105) (ok_lf pc ok_X12_init_102))))) (ok_bf (ok_bf (ok_bf (ok_bf (ok_bf (ok_lf pc ok_X12_init_100) (ok_lf pc ok_X12_init_97)) (ok_lf pc ok_X12_init_96)) (ok_bf (ok_lf pc ok_X12_init_93) (ok_lf pc ok_X12_init_91))) (ok_bf (ok_bf (ok_bf (ok_lf pc ok_X12_init_90) (ok_lf pc ok_X12_init_89)) (ok_lf pc ok_X12_init_86)) (ok_bf (ok_lf pc ok_X12_init_85) (ok_lf pc ok_X12_init_84)))) (ok_bf (ok_bf (ok_bf (ok_bf (ok_lf pc ok_X12_init_83) (ok_lf pc ok_X12_init_82)) (ok_lf pc ok_X12_init_81)) (ok_bf (ok_lf pc ok_X12_init_80) (ok_lf pc ok_X12_init_79))) (ok_bf (ok_bf (ok_bf (ok_lf pc ok_X12_init_78) (ok_lf pc ok_X12_init_77)) (ok_lf pc ok_X12_init_76)) (ok_bf (ok_lf pc ok_X12_init_75) (ok_lf pc ok_X12_init_74)))))) (ok_bf (ok_bf (ok_bf (ok_bf (ok_bf (ok_bf (ok_lf pc ok_X12_init_73) (ok_lf pc ok_X12_init_72)) (ok_lf pc ok_X12_init_71)) (ok_bf (ok_bf (ok_lf pc ok_X12_init_70) (ok_lf pc ok_X12_init_68)) (ok_lf pc ok_X12_init_67))) (ok_bf (ok_bf (ok_bf (ok_lf pc ok_X12_init_66) (ok_lf pc ok_X12_init_63)) (ok_lf pc ok_X12_init_61)) (ok_bf (ok_lf pc ok_X12_init_59) (ok_lf pc ok_X12_init_58)))) (ok_bf (ok_bf (ok_bf (ok_bf (ok_lf pc ok_X12_init_55) (ok_lf pc ok_X12_init_53)) (ok_lf pc ok_X12_init_52)) (ok_bf (ok_lf pc ok_X12_init_51) (ok_lf pc ok_X12_init_48))) (ok_bf (ok_bf (ok_bf (ok_lf pc ok_X12_init_46) (ok_lf pc ok_X12_init_45)) (ok_lf pc ok_X12_init_44)) (ok_bf (ok_lf pc ok_X12_init_41) (ok_lf pc ok_X12_init_39))))) (ok_bf (ok_bf (ok_bf (ok_bf (ok_bf (ok_lf pc ok_X12_init_38) (ok_lf pc ok_X12_init_37)) (ok_lf pc ok_X12_init_34)) (ok_bf (ok_lf pc ok_X12_init_32) (ok_lf pc ok_X12_init_29))) (ok_bf (ok_bf (ok_bf (ok_lf pc ok_X12_init_28) (ok_lf pc ok_X12_init_25)) (ok_lf pc ok_X12_init_23)) (ok_bf (ok_lf pc ok_X12_init_21) (ok_lf pc ok_X12_init_20)))) (ok_bf (ok_bf (ok_bf (ok_bf (ok_lf pc ok_X12_init_17) (ok_lf pc ok_X12_init_15)) (ok_lf pc ok_X12_init_13)) (ok_bf (ok_lf pc ok_X12_init_12) (ok_lf pc ok_X12_init_9))) (ok_bf (ok_bf (ok_bf (ok_lf pc ok_X12_init_7) (ok_lf pc ok_X12_init_5)) (ok_lf pc ok_X12_init_4)) (ok_bf (ok_lf pc ok_X12_init_1) (ok_lf pc ok_X12_init_0)))))))
theorem mo_X12_init (pc : Nat) : mo_S (cd_X12_init pc) :=
  (mo_bf (mo_bf (mo_bf (mo_bf (mo_bf (mo_bf (mo_bf (mo_bf mo_retv mo_no) (mo_bf mo_cv mo_no)) (mo_bf mo_ld mo_no)) (mo_bf (mo_bf (mo_bf mo_iast mo_no) (mo_bf mo_push mo_no)) (mo_bf mo_push mo_no))) (mo_bf (mo_bf (mo_bf (mo_bf mo_gr mo_no) (mo_bf mo_ld mo_no)) (mo_bf mo_pr mo_no)) (mo_bf (mo_bf mo_newa mo_no) (mo_bf mo_push mo_no)))) (mo_bf (mo_bf (mo_bf (mo_bf (mo_bf mo_ld mo_no) (mo_bf mo_pr mo_no)) (mo_bf mo_newa mo_no)) (mo_bf (mo_bf mo_push mo_no) (mo_bf mo_ld mo_no))) (mo_bf (mo_bf (mo_bf (mo_bf mo_pr mo_no) (mo_bf mo_newa mo_no)) (mo_bf mo_push mo_no)) (mo_bf (mo_bf mo_ld mo_no) (mo_bf mo_pr mo_no))))) (mo_bf (mo_bf (mo_bf (mo_bf (mo_bf (mo_bf mo_newa mo_no) (mo_bf mo_push mo_no)) (mo_bf mo_ld mo_no)) (mo_bf (mo_bf mo_pr mo_no) (mo_bf mo_newa mo_no))) (mo_bf (mo_bf (mo_bf (mo_bf mo_push mo_no) (mo_bf mo_ld mo_no)) (mo_bf mo_pr mo_no)) (mo_bf (mo_bf mo_iast mo_no) (mo_bf mo_push mo_no)))) (mo_bf (mo_bf (mo_bf (mo_bf (mo_bf mo_push mo_no) (mo_bf mo_dup mo_no)) (mo_bf mo_iast mo_no)) (mo_bf (mo_bf mo_push mo_no) (mo_bf mo_push mo_no))) (mo_bf (mo_bf (mo_bf (mo_bf mo_dup mo_no) (mo_bf mo_iast mo_no)) (mo_bf mo_push mo_no)) (mo_bf (mo_bf mo_push mo_no) (mo_bf mo_dup mo_no)))))) (mo_bf (mo_bf (mo_bf (mo_bf (mo_bf (mo_bf (mo_bf mo_iast mo_no) (mo_bf mo_push mo_no)) (mo_bf mo_push mo_no)) (mo_bf (mo_bf (mo_bf mo_dup mo_no) (mo_bf mo_newa mo_no)) (mo_bf mo_push mo_no))) (mo_bf (mo_bf (mo_bf (mo_bf mo_ld mo_no) (mo_bf mo_pr mo_no)) (mo_bf mo_newa mo_no)) (mo_bf (mo_bf mo_push mo_no) (mo_bf mo_ld mo_no)))) (mo_bf (mo_bf (mo_bf (mo_bf (mo_bf mo_pr mo_no) (mo_bf mo_newa mo_no)) (mo_bf mo_push mo_no)) (mo_bf (mo_bf mo_ld mo_no) (mo_bf mo_pr mo_no))) (mo_bf (mo_bf (mo_bf (mo_bf mo_newa mo_no) (mo_bf mo_push mo_no)) (mo_bf mo_ld mo_no)) (mo_bf (mo_bf mo_pr mo_no) (mo_bf mo_newa mo_no))))) (mo_bf (mo_bf (mo_bf (mo_bf (mo_bf (mo_bf mo_push mo_no) (mo_bf mo_ld mo_no)) (mo_bf mo_pr mo_no)) (mo_bf (mo_bf mo_newa mo_no) (mo_bf mo_push mo_no))) (mo_bf (mo_bf (mo_bf (mo_bf mo_ld mo_no) (mo_bf mo_pr mo_no)) (mo_bf mo_newa mo_no)) (mo_bf (mo_bf mo_push mo_no) (mo_bf mo_ld mo_no)))) (mo_bf (mo_bf (mo_bf (mo_bf (mo_bf mo_pr mo_no) (mo_bf mo_newa mo_no)) (mo_bf mo_push mo_no)) (mo_bf (mo_bf mo_ld mo_no) (mo_bf mo_pr mo_no))) (mo_bf (mo_bf (mo_bf (mo_bf mo_newa mo_no) (mo_bf mo_push mo_no)) (mo_bf mo_ld mo_no)) (mo_bf (mo_bf mo_oini mo_no) (mo_bf mo_ld mo_no)))))))
theorem ok_X12_carry_0 : ok_S 155 0 (sf_push (0, 0) 1) := ok_iconst (by decide +kernel : decode (mb_ 155) 0 = .ok (.iconst 0, 1)) ⟨by decide, by decide⟩
theorem ok_X12_carry_1 : ok_S 155 1 (sf_st 0 2 2) := ok_istore_n (by decide +kernel : decode (mb_ 155) 1 = .ok (.istore_n 2, 1)) rfl
theorem ok_X12_carry_2 : ok_S 155 2 (sf_ld 0 2 3) := ok_iload_n (by decide +kernel : decode (mb_ 155) 2 = .ok (.iload_n 2, 1)) rfl
theorem ok_X12_carry_3 : ok_S 155 3 (sf_push (0, 93) 5) := ok_bipush (by decide +kernel : decode (mb_ 155) 3 = .ok (.bipush 93, 2)) ⟨by decide, by decide⟩ (by decide +kernel)
theorem ok_X12_carry_5 : ok_S 155 5 (sf_ic 3 20 8) := ok_ic3 (by decide +kernel : decode (mb_ 155) 5 = .ok (.if_icmp .ge 15, 3)) (by decide)
theorem ok_X12_carry_8 : ok_S 155 8 (sf_ld 2 1 9) := ok_aload_n (by decide +kernel : decode (mb_ 155) 8 = .ok (.aload_n 1, 1)) rfl
theorem ok_X12_carry_9 : ok_S 155 9 (sf_ld 0 2 10) := ok_iload_n (by decide +kernel : decode (mb_ 155) 9 = .ok (.iload_n 2, 1)) rfl
theorem ok_X12_carry_10 : ok_S 155 10 (sf_ld 2 0 11) := ok_aload_n (by decide +kernel : decode (mb_ 155) 10 = .ok (.aload_n 0, 1)) rfl
theorem ok_X12_carry_11 : ok_S 155 11 (sf_ld 0 2 12) := ok_iload_n (by decide +kernel : decode (mb_ 155) 11 = .ok (.iload_n 2, 1)) rfl
theorem ok_X12_carry_12 : ok_S 155 12 (sf_iald 13) := ok_iald (by decide +kernel : decode (mb_ 155) 12 = .ok (.iaload, 1))
theorem ok_X12_carry_13 : ok_S 155 13 (sf_iast 14) := ok_iast (by decide +kernel : decode (mb_ 155) 13 = .ok (.iastore, 1))
theorem ok_X12_carry_14 : ok_S 155 14 (sf_inc 2 1 17) := ok_iinc (by decide +kernel : decode (mb_ 155) 14 = .ok (.iinc 2 1, 3))
theorem ok_X12_carry_17 : ok_S 155 17 (sf_go 2) := ok_goto (by decide +kernel : decode (mb_ 155) 17 = .ok (.goto (-15), 3)) (by decide)
theorem ok_X12_carry_20 : ok_S 155 20 (sf_retv) := ok_retv (by decide +kernel : decode (mb_ 155) 20 = .ok (.return_, 1)) rfl
theorem ok_X12_carry (pc : Nat) : ok_S 155 pc (cd_X12_carry pc) :=
  (ok_bf (ok_bf (ok_bf (ok_bf (ok_lf pc ok_X12_carry_20) (ok_lf pc ok_X12_carry_17)) (ok_bf (ok_lf pc ok_X12_carry_14) (ok_lf pc ok_X12_carry_13))) (ok_bf (ok_bf (ok_lf pc ok_X12_carry_12) (ok_lf pc ok_X12_carry_11)) (ok_lf pc ok_X12_carry_10))) (ok_bf (ok_bf (ok_bf (ok_lf pc ok_X12_carry_9) (ok_lf pc ok_X12_carry_8)) (ok_bf (ok_lf pc ok_X12_carry_5) (ok_lf pc ok_X12_carry_3))) (ok_bf (ok_bf (ok_lf pc ok_X12_carry_2) (ok_lf pc ok_X12_carry_1)) (ok_lf pc ok_X12_carry_0))))
theorem mo_X12_carry (pc : Nat) : mo_S (cd_X12_carry pc) :=
  (mo_bf (mo_bf (mo_bf (mo_bf (mo_bf mo_retv mo_no) (mo_bf mo_go mo_no)) (mo_bf (mo_bf mo_inc mo_no) (mo_bf mo_iast mo_no))) (mo_bf (mo_bf (mo_bf mo_iald mo_no) (mo_bf mo_ld mo_no)) (mo_bf mo_ld mo_no))) (mo_bf (mo_bf (mo_bf (mo_bf mo_ld mo_no) (mo_bf mo_ld mo_no)) (mo_bf (mo_bf mo_ic mo_no) (mo_bf mo_push mo_no))) (mo_bf (mo_bf (mo_bf mo_ld mo_no) (mo_bf mo_st mo_no)) (mo_bf mo_push mo_no))))
theorem ok_X12_clears_0 : ok_S 156 0 (sf_ld 2 0 1) := ok_aload_n (by decide +kernel : decode (mb_ 156) 0 = .ok (.aload_n 0, 1)) rfl
theorem ok_X12_clears_1 : ok_S 156 1 (sf_gr 13 13 0 4) := ok_gr fd_13_0 (by decide +kernel : decode (mb_ 156) 1 = .ok (.getfield 7, 3)) tw_1126 (Or.inl rfl) rfl
theorem ok_X12_clears_4 : ok_S 156 4 (sf_push (0, 0) 5) := ok_iconst (by decide +kernel : decode (mb_ 156) 4 = .ok (.iconst 0, 1)) ⟨by decide, by decide⟩
theorem ok_X12_clears_5 : ok_S 156 5 (sf_push (0, 0) 6) := ok_iconst (by decide +kernel : decode (mb_ 156) 5 = .ok (.iconst 0, 1)) ⟨by decide, by decide⟩
theorem ok_X12_clears_6 : ok_S 156 6 (sf_iast 7) := ok_iast (by decide +kernel : decode (mb_ 156) 6 = .ok (.iastore, 1))
theorem ok_X12_clears_7 : ok_S 156 7 (sf_ld 2 0 8) := ok_aload_n (by decide +kernel : decode (mb_ 156) 7 = .ok (.aload_n 0, 1)) rfl
theorem ok_X12_clears_8 : ok_S 156 8 (sf_gr 13 13 0 11) := ok_gr fd_13_0 (by decide +kernel : decode (mb_ 156) 8 = .ok (.getfield 7, 3)) tw_1126 (Or.inl rfl) rfl
theorem ok_X12_clears_11 : ok_S 156 11 (sf_push (0, 1) 12) := ok_iconst (by decide +kernel : decode (mb_ 156) 11 = .ok (.iconst 1, 1)) ⟨by decide, by decide⟩
theorem ok_X12_clears_12 : ok_S 156 12 (sf_push (0, 0) 13) := ok_iconst (by decide +kernel : decode (mb_ 156) 12 = .ok (.iconst 0, 1)) ⟨by decide, by decide⟩
theorem ok_X12_clears_13 : ok_S 156 13 (sf_iast 14) := ok_iast (by decide +kernel : decode (mb_ 156) 13 = .ok (.iastore, 1))
theorem ok_X12_clears_14 : ok_S 156 14 (sf_push (0, 0) 15) := ok_iconst (by decide +kernel : decode (mb_ 156) 14 = .ok (.iconst 0, 1)) ⟨by decide, by decide⟩
theorem ok_X12_clears_15 : ok_S 156 15 (sf_st 0 1 16) := ok_istore_n (by decide +kernel : decode (mb_ 156) 15 = .ok (.istore_n 1, 1)) rfl
theorem ok_X12_clears_16 : ok_S 156 16 (sf_ld 0 1 17) := ok_iload_n (by decide +kernel : decode (mb_ 156) 16 = .ok (.iload_n 1, 1)) rfl
theorem ok_X12_clears_17 : ok_S 156 17 (sf_push (0, 3) 18) := ok_iconst (by decide +kernel : decode (mb_ 156) 17 = .ok (.iconst 3, 1)) ⟨by decide, by decide⟩
theorem ok_X12_clears_18 : ok_S 156 18 (sf_ic 3 52 21) := ok_ic3 (by decide +kernel : decode (mb_ 156) 18 = .ok (.if_icmp .ge 34, 3)) (by decide)
theorem ok_X12_clears_21 : ok_S 156 21 (sf_ld 2 0 22) := ok_aload_n (by decide +kernel : decode (mb_ 156) 21 = .ok (.aload_n 0, 1)) rfl
theorem ok_X12_clears_22 : ok_S 156 22 (sf_gr 13 13 0 25) := ok_gr fd_13_0 (by decide +kernel : decode (mb_ 156) 22 = .ok (.getfield 7, 3)) tw_1126 (Or.inl rfl) rfl
theorem ok_X12_clears_25 : ok_S 156 25 (sf_push (0, 3) 26) := ok_iconst (by decide +kernel : decode (mb_ 156) 25 = .ok (.iconst 3, 1)) ⟨by decide, by decide⟩
theorem ok_X12_clears_26 : ok_S 156 26 (sf_push (0, 2) 27) := ok_iconst (by decide +kernel : decode (mb_ 156) 26 = .ok (.iconst 2, 1)) ⟨by decide, by decide⟩
theorem ok_X12_clears_27 : ok_S 156 27 (sf_ld 0 1 28) := ok_iload_n (by decide +kernel : decode (mb_ 156) 27 = .ok (.iload_n 1, 1)) rfl
theorem ok_X12_clears_28 : ok_S 156 28 (sf_i2 mx_mul 29) := ok_imul (by decide +kernel : decode (mb_ 156) 28 = .ok (.imul, 1))
theorem ok_X12_clears_29 : ok_S 156 29 (sf_i2 mx_add 30) := ok_iadd (by decide +kernel : decode (mb_ 156) 29 = .ok (.iadd, 1))
theorem ok_X12_clears_30 : ok_S 156 30 (sf_push (0, 2) 31) := ok_iconst (by decide +kernel : decode (mb_ 156) 30 = .ok (.iconst 2, 1)) ⟨by decide, by decide⟩
theorem ok_X12_clears_31 : ok_S 156 31 (sf_iast 32) := ok_iast (by decide +kernel : decode (mb_ 156) 31 = .ok (.iastore, 1))
theorem ok_X12_clears_32 : ok_S 156 32 (sf_ld 2 0 33) := ok_aload_n (by decide +kernel : decode (mb_ 156) 32 = .ok (.aload_n 0, 1)) rfl
theorem ok_X12_clears_33 : ok_S 156 33 (sf_gr 13 13 0 36) := ok_gr fd_13_0 (by decide +kernel : decode (mb_ 156) 33 = .ok (.getfield 7, 3)) tw_1126 (Or.inl rfl) rfl
theorem ok_X12_clears_36 : ok_S 156 36 (sf_push (0, 3) 37) := ok_iconst (by decide +kernel : decode (mb_ 156) 36 = .ok (.iconst 3, 1)) ⟨by decide, by decide⟩
theorem ok_X12_clears_37 : ok_S 156 37 (sf_push (0, 2) 38) := ok_iconst (by decide +kernel : decode (mb_ 156) 37 = .ok (.iconst 2, 1)) ⟨by decide, by decide⟩
theorem ok_X12_clears_38 : ok_S 156 38 (sf_ld 0 1 39) := ok_iload_n (by decide +kernel : decode (mb_ 156) 38 = .ok (.iload_n 1, 1)) rfl
theorem ok_X12_clears_39 : ok_S 156 39 (sf_i2 mx_mul 40) := ok_imul (by decide +kernel : decode (mb_ 156) 39 = .ok (.imul, 1))
theorem ok_X12_clears_40 : ok_S 156 40 (sf_i2 mx_add 41) := ok_iadd (by decide +kernel : decode (mb_ 156) 40 = .ok (.iadd, 1))
theorem ok_X12_clears_41 : ok_S 156 41 (sf_push (0, 1) 42) := ok_iconst (by decide +kernel : decode (mb_ 156) 41 = .ok (.iconst 1, 1)) ⟨by decide, by decide⟩
theorem ok_X12_clears_42 : ok_S 156 42 (sf_i2 mx_add 43) := ok_iadd (by decide +kernel : decode (mb_ 156) 42 = .ok (.iadd, 1))
theorem ok_X12_clears_43 : ok_S 156 43 (sf_push (0, 16) 45) := ok_bipush (by decide +kernel : decode (mb_ 156) 43 = .ok (.bipush 16, 2)) ⟨by decide, by decide⟩ (by decide +kernel)
theorem ok_X12_clears_45 : ok_S 156 45 (sf_iast 46) := ok_iast (by decide +kernel : decode (mb_ 156) 45 = .ok (.iastore, 1))
theorem ok_X12_clears_46 : ok_S 156 46 (sf_inc 1 1 49) := ok_iinc (by decide +kernel : decode (mb_ 156) 46 = .ok (.iinc 1 1, 3))
theorem ok_X12_clears_49 : ok_S 156 49 (sf_go 16) := ok_goto (by decide +kernel : decode (mb_ 156) 49 = .ok (.goto (-33), 3)) (by decide)
theorem ok_X12_clears_52 : ok_S 156 52 (sf_retv) := ok_retv (by decide +kernel : decode (mb_ 156) 52 = .ok (.return_, 1)) rfl
theorem ok_X12_clears (pc : Nat) : ok_S 156 pc (cd_X12_clears pc) :=
  (ok_bf (ok_bf (ok_bf (ok_bf (ok_bf (ok_bf (ok_lf pc ok_X12_clears_52) (ok_lf pc ok_X12_clears_49)) (ok_lf pc ok_X12_clears_46)) (ok_bf (ok_lf pc ok_X12_clears_45) (ok_lf pc ok_X12_clears_43))) (ok_bf (ok_bf (ok_bf (ok_lf pc ok_X12_clears_42) (ok_lf pc ok_X12_clears_41)) (ok_lf pc ok_X12_clears_40)) (ok_bf (ok_lf pc ok_X12_clears_39) (ok_lf pc ok_X12_clears_38)))) (ok_bf (ok_bf (ok_bf (ok_bf (ok_lf pc ok_X12_clears_37) (ok_lf pc ok_X12_clears_36)) (ok_lf pc ok_X12_clears_33)) (ok_bf (ok_lf pc ok_X12_clears_32) (ok_lf pc ok_X12_clears_31))) (ok_bf (ok_bf (ok_lf pc ok_X12_clears_30) (ok_lf pc ok_X12_clears_29)) (ok_bf (ok_lf pc ok_X12_clears_28) (ok_lf pc ok_X12_clears_27))))) (ok_bf (ok_bf (ok_bf (ok_bf (ok_bf (ok_lf pc ok_X12_clears_26) (ok_lf pc ok_X12_clears_25)) (ok_lf pc ok_X12_clears_22)) (ok_bf (ok_lf pc ok_X12_clears_21) (ok_lf pc ok_X12_clears_18))) (ok_bf (ok_bf (ok_bf (ok_lf pc ok_X12_clears_17) (ok_lf pc ok_X12_clears_16)) (ok_lf pc ok_X12_clears_15)) (ok_bf (ok_lf pc ok_X12_clears_14) (ok_lf pc ok_X12_clears_13)))) (ok_bf (ok_bf (ok_bf (ok_bf (ok_lf pc ok_X12_clears_12) (ok_lf pc ok_X12_clears_11)) (ok_lf pc ok_X12_clears_8)) (ok_bf (ok_lf pc ok_X12_clears_7) (ok_lf pc ok_X12_clears_6))) (ok_bf (ok_bf (ok_lf pc ok_X12_clears_5) (ok_lf pc ok_X12_clears_4)) (ok_bf (ok_lf pc ok_X12_clears_1) (ok_lf pc ok_X12_clears_0))))))
theorem mo_X12_clears (pc : Nat) : mo_S (cd_X12_clears pc) :=
  (mo_bf (mo_bf (mo_bf (mo_bf (mo_bf (mo_bf (mo_bf mo_retv mo_no) (mo_bf mo_go mo_no)) (mo_bf mo_inc mo_no)) (mo_bf (mo_bf mo_iast mo_no) (mo_bf mo_push mo_no))) (mo_bf (mo_bf (mo_bf (mo_bf mo_i2 mo_no) (mo_bf mo_push mo_no)) (mo_bf mo_i2 mo_no)) (mo_bf (mo_bf mo_i2 mo_no) (mo_bf mo_ld mo_no)))) (mo_bf (mo_bf (mo_bf (mo_bf (mo_bf mo_push mo_no) (mo_bf mo_push mo_no)) (mo_bf mo_gr mo_no)) (mo_bf (mo_bf mo_ld mo_no) (mo_bf mo_iast mo_no))) (mo_bf (mo_bf (mo_bf mo_push mo_no) (mo_bf mo_i2 mo_no)) (mo_bf (mo_bf mo_i2 mo_no) (mo_bf mo_ld mo_no))))) (mo_bf (mo_bf (mo_bf (mo_bf (mo_bf (mo_bf mo_push mo_no) (mo_bf mo_push mo_no)) (mo_bf mo_gr mo_no)) (mo_bf (mo_bf mo_ld mo_no) (mo_bf mo_ic mo_no))) (mo_bf (mo_bf (mo_bf (mo_bf mo_push mo_no) (mo_bf mo_ld mo_no)) (mo_bf mo_st mo_no)) (mo_bf (mo_bf mo_push mo_no) (mo_bf mo_iast mo_no)))) (mo_bf (mo_bf (mo_bf (mo_bf (mo_bf mo_push mo_no) (mo_bf mo_push mo_no)) (mo_bf mo_gr mo_no)) (mo_bf (mo_bf mo_ld mo_no) (mo_bf mo_iast mo_no))) (mo_bf (mo_bf (mo_bf mo_push mo_no) (mo_bf mo_push mo_no)) (mo_bf (mo_bf mo_gr mo_no) (mo_bf mo_ld mo_no))))))
theorem ok_X12_in_0 : ok_S 157 0 (sf_ld 0 0 1) := ok_iload_n (by decide +kernel : decode (mb_ 157) 0 = .ok (.iload_n 0, 1)) rfl
theorem ok_X12_in_1 : ok_S 157 1 (sf_ld 0 1 2) := ok_iload_n (by decide +kernel : decode (mb_ 157) 1 = .ok (.iload_n 1, 1)) rfl
theorem ok_X12_in_2 : ok_S 157 2 (sf_ic 2 14 5) := ok_ic2 (by decide +kernel : decode (mb_ 157) 2 = .ok (.if_icmp .lt 12, 3)) (by decide)
theorem ok_X12_in_5 : ok_S 157 5 (sf_ld 0 0 6) := ok_iload_n (by decide +kernel : decode (mb_ 157) 5 = .ok (.iload_n 0, 1)) rfl
theorem ok_X12_in_6 : ok_S 157 6 (sf_ld 0 2 7) := ok_iload_n (by decide +kernel : decode (mb_ 157) 6 = .ok (.iload_n 2, 1)) rfl
theorem ok_X12_in_7 : ok_S 157 7 (sf_ic 4 14 10) := ok_ic4 (by decide +kernel : decode (mb_ 157) 7 = .ok (.if_icmp .gt 7, 3)) (by decide)
theorem ok_X12_in_10 : ok_S 157 10 (sf_push (0, 1) 11) := ok_iconst (by decide +kernel : decode (mb_ 157) 10 = .ok (.iconst 1, 1)) ⟨by decide, by decide⟩
theorem ok_X12_in_11 : ok_S 157 11 (sf_go 15) := ok_goto (by decide +kernel : decode (mb_ 157) 11 = .ok (.goto 4, 3)) (by decide)
theorem ok_X12_in_14 : ok_S 157 14 (sf_push (0, 0) 15) := ok_iconst (by decide +kernel : decode (mb_ 157) 14 = .ok (.iconst 0, 1)) ⟨by decide, by decide⟩
theorem ok_X12_in_15 : ok_S 157 15 (sf_rr 0 1) := ok_rr (by decide +kernel : decode (mb_ 157) 15 = .ok (.ireturn, 1)) rfl (so_nz .boolean rfl rfl)
theorem ok_X12_in (pc : Nat) : ok_S 157 pc (cd_X12_in pc) :=
  (ok_bf (ok_bf (ok_bf (ok_bf (ok_lf pc ok_X12_in_15) (ok_lf pc ok_X12_in_14)) (ok_lf pc ok_X12_in_11)) (ok_bf (ok_lf pc ok_X12_in_10) (ok_lf pc ok_X12_in_7))) (ok_bf (ok_bf (ok_bf (ok_lf pc ok_X12_in_6) (ok_lf pc ok_X12_in_5)) (ok_lf pc ok_X12_in_2)) (ok_bf (ok_lf pc ok_X12_in_1) (ok_lf pc ok_X12_in_0))))
theorem mo_X12_in (pc : Nat) : mo_S (cd_X12_in pc) :=
  (mo_bf (mo_bf (mo_bf (mo_bf (mo_bf mo_rr mo_no) (mo_bf mo_push mo_no)) (mo_bf mo_go mo_no)) (mo_bf (mo_bf mo_push mo_no) (mo_bf mo_ic mo_no))) (mo_bf (mo_bf (mo_bf (mo_bf mo_ld mo_no) (mo_bf mo_ld mo_no)) (mo_bf mo_ic mo_no)) (mo_bf (mo_bf mo_ld mo_no) (mo_bf mo_ld mo_no))))
theorem ok_X12_isNote_0 : ok_S 158 0 (sf_ld 0 1 1) := ok_iload_n (by decide +kernel : decode (mb_ 158) 0 = .ok (.iload_n 1, 1)) rfl
theorem ok_X12_isNote_1 : ok_S 158 1 (sf_push (0, 0) 2) := ok_iconst (by decide +kernel : decode (mb_ 158) 1 = .ok (.iconst 0, 1)) ⟨by decide, by decide⟩
theorem ok_X12_isNote_2 : ok_S 158 2 (sf_ld 2 0 3) := ok_aload_n (by decide +kernel : decode (mb_ 158) 2 = .ok (.aload_n 0, 1)) rfl
theorem ok_X12_isNote_3 : ok_S 158 3 (sf_gr 13 13 0 6) := ok_gr fd_13_0 (by decide +kernel : decode (mb_ 158) 3 = .ok (.getfield 7, 3)) tw_1126 (Or.inl rfl) rfl
theorem ok_X12_isNote_6 : ok_S 158 6 (sf_push (0, 0) 7) := ok_iconst (by decide +kernel : decode (mb_ 158) 6 = .ok (.iconst 0, 1)) ⟨by decide, by decide⟩
theorem ok_X12_isNote_7 : ok_S 158 7 (sf_iald 8) := ok_iald (by decide +kernel : decode (mb_ 158) 7 = .ok (.iaload, 1))
theorem ok_X12_isNote_8 : ok_S 158 8 (sf_push (0, 1) 9) := ok_iconst (by decide +kernel : decode (mb_ 158) 8 = .ok (.iconst 1, 1)) ⟨by decide, by decide⟩
theorem ok_X12_isNote_9 : ok_S 158 9 (sf_i2 mx_sub 10) := ok_isub (by decide +kernel : decode (mb_ 158) 9 = .ok (.isub, 1))
theorem ok_X12_isNote_10 : ok_S 158 10 (sf_cs [0, 0, 0] 157 13) := ok_cs mt_157 (by decide +kernel : decode (mb_ 158) 10 = .ok (.invokestatic 56, 3)) tw_1206 tw_1207 tw_7 (by decide +kernel) (mh_ok rfl) (by decide) (by decide)
theorem ok_X12_isNote_13 : ok_S 158 13 (sf_rr 0 1) := ok_rr (by decide +kernel : decode (mb_ 158) 13 = .ok (.ireturn, 1)) rfl (so_nz .boolean rfl rfl)
theorem ok_X12_isNote (pc : Nat) : ok_S 158 pc (cd_X12_isNote pc) :=
  (ok_bf (ok_bf (ok_bf (ok_bf (ok_lf pc ok_X12_isNote_13) (ok_lf pc ok_X12_isNote_10)) (ok_lf pc ok_X12_isNote_9)) (ok_bf (ok_lf pc ok_X12_isNote_8) (ok_lf pc ok_X12_isNote_7))) (ok_bf (ok_bf (ok_bf (ok_lf pc ok_X12_isNote_6) (ok_lf pc ok_X12_isNote_3)) (ok_lf pc ok_X12_isNote_2)) (ok_bf (ok_lf pc ok_X12_isNote_1) (ok_lf pc ok_X12_isNote_0))))
theorem mo_X12_isNote (pc : Nat) : mo_S (cd_X12_isNote pc) :=
  (mo_bf (mo_bf (mo_bf (mo_bf (mo_bf mo_rr mo_no) (mo_bf mo_cs mo_no)) (mo_bf mo_i2 mo_no)) (mo_bf (mo_bf mo_push mo_no) (mo_bf mo_iald mo_no))) (mo_bf (mo_bf (mo_bf (mo_bf mo_push mo_no) (mo_bf mo_gr mo_no)) (mo_bf mo_ld mo_no)) (mo_bf (mo_bf mo_push mo_no) (mo_bf mo_ld mo_no))))
theorem ok_X12_isEvening_0 : ok_S 159 0 (sf_ld 0 0 1) := ok_iload_n (by decide +kernel : decode (mb_ 159) 0 = .ok (.iload_n 0, 1)) rfl
theorem ok_X12_isEvening_1 : ok_S 159 1 (sf_push (0, 0) 2) := ok_iconst (by decide +kernel : decode (mb_ 159) 1 = .ok (.iconst 0, 1)) ⟨by decide, by decide⟩
theorem ok_X12_isEvening_2 : ok_S 159 2 (sf_push (0, 2) 3) := ok_iconst (by decide +kernel : decode (mb_ 159) 2 = .ok (.iconst 2, 1)) ⟨by decide, by decide⟩
theorem ok_X12_isEvening_3 : ok_S 159 3 (sf_cs [0, 0, 0] 157 6) := ok_cs mt_157 (by decide +kernel : decode (mb_ 159) 3 = .ok (.invokestatic 56, 3)) tw_1206 tw_1207 tw_7 (by decide +kernel) (mh_ok rfl) (by decide) (by decide)
theorem ok_X12_isEvening_6 : ok_S 159 6 (sf_rr 0 1) := ok_rr (by decide +kernel : decode (mb_ 159) 6 = .ok (.ireturn, 1)) rfl (so_nz .boolean rfl rfl)
theorem ok_X12_isEvening (pc : Nat) : ok_S 159 pc (cd_X12_isEvening pc) :=
  (ok_bf (ok_bf (ok_bf (ok_lf pc ok_X12_isEvening_6) (ok_lf pc ok_X12_isEvening_3)) (ok_lf pc ok_X12_isEvening_2)) (ok_bf (ok_lf pc ok_X12_isEvening_1) (ok_lf pc ok_X12_isEvening_0)))
theorem mo_X12_isEvening (pc : Nat) : mo_S (cd_X12_isEvening pc) :=
  (mo_bf (mo_bf (mo_bf (mo_bf mo_rr mo_no) (mo_bf mo_cs mo_no)) (mo_bf mo_push mo_no)) (mo_bf (mo_bf mo_push mo_no) (mo_bf mo_ld mo_no)))
theorem ok_X12_isBase_0 : ok_S 160 0 (sf_ld 0 0 1) := ok_iload_n (by decide +kernel : decode (mb_ 160) 0 = .ok (.iload_n 0, 1)) rfl
theorem ok_X12_isBase_1 : ok_S 160 1 (sf_push (0, 2) 2) := ok_iconst (by decide +kernel : decode (mb_ 160) 1 = .ok (.iconst 2, 1)) ⟨by decide, by decide⟩
theorem ok_X12_isBase_2 : ok_S 160 2 (sf_push (0, 16) 4) := ok_bipush (by decide +kernel : decode (mb_ 160) 2 = .ok (.bipush 16, 2)) ⟨by decide, by decide⟩ (by decide +kernel)
theorem ok_X12_isBase_4 : ok_S 160 4 (sf_cs [0, 0, 0] 157 7) := ok_cs mt_157 (by decide +kernel : decode (mb_ 160) 4 = .ok (.invokestatic 56, 3)) tw_1206 tw_1207 tw_7 (by decide +kernel) (mh_ok rfl) (by decide) (by decide)
theorem ok_X12_isBase_7 : ok_S 160 7 (sf_rr 0 1) := ok_rr (by decide +kernel : decode (mb_ 160) 7 = .ok (.ireturn, 1)) rfl (so_nz .boolean rfl rfl)
theorem ok_X12_isBase (pc : Nat) : ok_S 160 pc (cd_X12_isBase pc) :=
  (ok_bf (ok_bf (ok_bf (ok_lf pc ok_X12_isBase_7) (ok_lf pc ok_X12_isBase_4)) (ok_lf pc ok_X12_isBase_2)) (ok_bf (ok_lf pc ok_X12_isBase_1) (ok_lf pc ok_X12_isBase_0)))
theorem mo_X12_isBase (pc : Nat) : mo_S (cd_X12_isBase pc) :=
  (mo_bf (mo_bf (mo_bf (mo_bf mo_rr mo_no) (mo_bf mo_cs mo_no)) (mo_bf mo_push mo_no)) (mo_bf (mo_bf mo_push mo_no) (mo_bf mo_ld mo_no)))
theorem ok_X12_its_0 : ok_S 161 0 (sf_ld 2 0 1) := ok_aload_n (by decide +kernel : decode (mb_ 161) 0 = .ok (.aload_n 0, 1)) rfl
theorem ok_X12_its_1 : ok_S 161 1 (sf_gr 13 13 0 4) := ok_gr fd_13_0 (by decide +kernel : decode (mb_ 161) 1 = .ok (.getfield 7, 3)) tw_1126 (Or.inl rfl) rfl
theorem ok_X12_its_4 : ok_S 161 4 (sf_push (0, 9) 6) := ok_bipush (by decide +kernel : decode (mb_ 161) 4 = .ok (.bipush 9, 2)) ⟨by decide, by decide⟩ (by decide +kernel)
theorem ok_X12_its_6 : ok_S 161 6 (sf_push (0, 10) 8) := ok_bipush (by decide +kernel : decode (mb_ 161) 6 = .ok (.bipush 10, 2)) ⟨by decide, by decide⟩ (by decide +kernel)
theorem ok_X12_its_8 : ok_S 161 8 (sf_ld 0 1 9) := ok_iload_n (by decide +kernel : decode (mb_ 161) 8 = .ok (.iload_n 1, 1)) rfl
theorem ok_X12_its_9 : ok_S 161 9 (sf_i2 mx_mul 10) := ok_imul (by decide +kernel : decode (mb_ 161) 9 = .ok (.imul, 1))
theorem ok_X12_its_10 : ok_S 161 10 (sf_i2 mx_add 11) := ok_iadd (by decide +kernel : decode (mb_ 161) 10 = .ok (.iadd, 1))
theorem ok_X12_its_11 : ok_S 161 11 (sf_ld 0 2 12) := ok_iload_n (by decide +kernel : decode (mb_ 161) 11 = .ok (.iload_n 2, 1)) rfl
theorem ok_X12_its_12 : ok_S 161 12 (sf_i2 mx_add 13) := ok_iadd (by decide +kernel : decode (mb_ 161) 12 = .ok (.iadd, 1))
theorem ok_X12_its_13 : ok_S 161 13 (sf_iald 14) := ok_iald (by decide +kernel : decode (mb_ 161) 13 = .ok (.iaload, 1))
theorem ok_X12_its_14 : ok_S 161 14 (sf_ret 0) := ok_ret0 (by decide +kernel : decode (mb_ 161) 14 = .ok (.ireturn, 1)) rfl
theorem ok_X12_its (pc : Nat) : ok_S 161 pc (cd_X12_its pc) :=
  (ok_bf (ok_bf (ok_bf (ok_bf (ok_lf pc ok_X12_its_14) (ok_lf pc ok_X12_its_13)) (ok_lf pc ok_X12_its_12)) (ok_bf (ok_bf (ok_lf pc ok_X12_its_11) (ok_lf pc ok_X12_its_10)) (ok_lf pc ok_X12_its_9))) (ok_bf (ok_bf (ok_bf (ok_lf pc ok_X12_its_8) (ok_lf pc ok_X12_its_6)) (ok_lf pc ok_X12_its_4)) (ok_bf (ok_lf pc ok_X12_its_1) (ok_lf pc ok_X12_its_0))))
theorem mo_X12_its (pc : Nat) : mo_S (cd_X12_its pc) :=
  (mo_bf (mo_bf (mo_bf (mo_bf (mo_bf mo_ret mo_no) (mo_bf mo_iald mo_no)) (mo_bf mo_i2 mo_no)) (mo_bf (mo_bf (mo_bf mo_ld mo_no) (mo_bf mo_i2 mo_no)) (mo_bf mo_i2 mo_no))) (mo_bf (mo_bf (mo_bf (mo_bf mo_ld mo_no) (mo_bf mo_push mo_no)) (mo_bf mo_push mo_no)) (mo_bf (mo_bf mo_gr mo_no) (mo_bf mo_ld mo_no))))
theorem ok_X12_of_0 : ok_S 162 0 (sf_ld 2 0 1) := ok_aload_n (by decide +kernel : decode (mb_ 162) 0 = .ok (.aload_n 0, 1)) rfl
theorem ok_X12_of_1 : ok_S 162 1 (sf_gr 13 13 0 4) := ok_gr fd_13_0 (by decide +kernel : decode (mb_ 162) 1 = .ok (.getfield 7, 3)) tw_1126 (Or.inl rfl) rfl
theorem ok_X12_of_4 : ok_S 162 4 (sf_push (0, 69) 6) := ok_bipush (by decide +kernel : decode (mb_ 162) 4 = .ok (.bipush 69, 2)) ⟨by decide, by decide⟩ (by decide +kernel)
theorem ok_X12_of_6 : ok_S 162 6 (sf_push (0, 4) 7) := ok_iconst (by decide +kernel : decode (mb_ 162) 6 = .ok (.iconst 4, 1)) ⟨by decide, by decide⟩
theorem ok_X12_of_7 : ok_S 162 7 (sf_ld 0 1 8) := ok_iload_n (by decide +kernel : decode (mb_ 162) 7 = .ok (.iload_n 1, 1)) rfl
theorem ok_X12_of_8 : ok_S 162 8 (sf_i2 mx_mul 9) := ok_imul (by decide +kernel : decode (mb_ 162) 8 = .ok (.imul, 1))
theorem ok_X12_of_9 : ok_S 162 9 (sf_i2 mx_add 10) := ok_iadd (by decide +kernel : decode (mb_ 162) 9 = .ok (.iadd, 1))
theorem ok_X12_of_10 : ok_S 162 10 (sf_ld 0 2 11) := ok_iload_n (by decide +kernel : decode (mb_ 162) 10 = .ok (.iload_n 2, 1)) rfl
theorem ok_X12_of_11 : ok_S 162 11 (sf_i2 mx_add 12) := ok_iadd (by decide +kernel : decode (mb_ 162) 11 = .ok (.iadd, 1))
theorem ok_X12_of_12 : ok_S 162 12 (sf_iald 13) := ok_iald (by decide +kernel : decode (mb_ 162) 12 = .ok (.iaload, 1))
theorem ok_X12_of_13 : ok_S 162 13 (sf_ret 0) := ok_ret0 (by decide +kernel : decode (mb_ 162) 13 = .ok (.ireturn, 1)) rfl
theorem ok_X12_of (pc : Nat) : ok_S 162 pc (cd_X12_of pc) :=
  (ok_bf (ok_bf (ok_bf (ok_bf (ok_lf pc ok_X12_of_13) (ok_lf pc ok_X12_of_12)) (ok_lf pc ok_X12_of_11)) (ok_bf (ok_bf (ok_lf pc ok_X12_of_10) (ok_lf pc ok_X12_of_9)) (ok_lf pc ok_X12_of_8))) (ok_bf (ok_bf (ok_bf (ok_lf pc ok_X12_of_7) (ok_lf pc ok_X12_of_6)) (ok_lf pc ok_X12_of_4)) (ok_bf (ok_lf pc ok_X12_of_1) (ok_lf pc ok_X12_of_0))))
theorem mo_X12_of (pc : Nat) : mo_S (cd_X12_of pc) :=
  (mo_bf (mo_bf (mo_bf (mo_bf (mo_bf mo_ret mo_no) (mo_bf mo_iald mo_no)) (mo_bf mo_i2 mo_no)) (mo_bf (mo_bf (mo_bf mo_ld mo_no) (mo_bf mo_i2 mo_no)) (mo_bf mo_i2 mo_no))) (mo_bf (mo_bf (mo_bf (mo_bf mo_ld mo_no) (mo_bf mo_push mo_no)) (mo_bf mo_push mo_no)) (mo_bf (mo_bf mo_gr mo_no) (mo_bf mo_ld mo_no))))
theorem ok_X12_feed_0 : ok_S 163 0 (sf_ld 0 3 1) := ok_iload_n (by decide +kernel : decode (mb_ 163) 0 = .ok (.iload_n 3, 1)) rfl
theorem ok_X12_feed_1 : ok_S 163 1 (sf_push (0, 1) 2) := ok_iconst (by decide +kernel : decode (mb_ 163) 1 = .ok (.iconst 1, 1)) ⟨by decide, by decide⟩
theorem ok_X12_feed_2 : ok_S 163 2 (sf_push (0, 8) 4) := ok_bipush (by decide +kernel : decode (mb_ 163) 2 = .ok (.bipush 8, 2)) ⟨by decide, by decide⟩ (by decide +kernel)
theorem ok_X12_feed_4 : ok_S 163 4 (sf_cs [0, 0, 0] 157 7) := ok_cs mt_157 (by decide +kernel : decode (mb_ 163) 4 = .ok (.invokestatic 56, 3)) tw_1206 tw_1207 tw_7 (by decide +kernel) (mh_ok rfl) (by decide) (by decide)
theorem ok_X12_feed_7 : ok_S 163 7 (sf_if 1 12 10) := ok_if1 (by decide +kernel : decode (mb_ 163) 7 = .ok (.ifCond .ne 5, 3)) (by decide)
theorem ok_X12_feed_10 : ok_S 163 10 (sf_push (0, (-1)) 11) := ok_iconst (by decide +kernel : decode (mb_ 163) 10 = .ok (.iconst (-1), 1)) ⟨by decide, by decide⟩
theorem ok_X12_feed_11 : ok_S 163 11 (sf_ret 0) := ok_ret0 (by decide +kernel : decode (mb_ 163) 11 = .ok (.ireturn, 1)) rfl
theorem ok_X12_feed_12 : ok_S 163 12 (sf_ld 2 0 13) := ok_aload_n (by decide +kernel : decode (mb_ 163) 12 = .ok (.aload_n 0, 1)) rfl
theorem ok_X12_feed_13 : ok_S 163 13 (sf_gi 13 13 5 16) := ok_gi fd_13_5 (by decide +kernel : decode (mb_ 163) 13 = .ok (.getfield 60, 3)) tw_1131 (Or.inl rfl) rfl
theorem ok_X12_feed_16 : ok_S 163 16 (sf_ld 0 3 17) := ok_iload_n (by decide +kernel : decode (mb_ 163) 16 = .ok (.iload_n 3, 1)) rfl
theorem ok_X12_feed_17 : ok_S 163 17 (sf_i2 mx_add 18) := ok_iadd (by decide +kernel : decode (mb_ 163) 17 = .ok (.iadd, 1))
theorem ok_X12_feed_18 : ok_S 163 18 (sf_push (0, 200) 21) := ok_sipush (by decide +kernel : decode (mb_ 163) 18 = .ok (.sipush 200, 3)) ⟨by decide, by decide⟩ (by decide +kernel)
theorem ok_X12_feed_21 : ok_S 163 21 (sf_ic 5 27 24) := ok_ic5 (by decide +kernel : decode (mb_ 163) 21 = .ok (.if_icmp .le 6, 3)) (by decide)
theorem ok_X12_feed_24 : ok_S 163 24 (sf_push (0, (-2)) 26) := ok_bipush (by decide +kernel : decode (mb_ 163) 24 = .ok (.bipush (-2), 2)) ⟨by decide, by decide⟩ (by decide +kernel)
theorem ok_X12_feed_26 : ok_S 163 26 (sf_ret 0) := ok_ret0 (by decide +kernel : decode (mb_ 163) 26 = .ok (.ireturn, 1)) rfl
theorem ok_X12_feed_27 : ok_S 163 27 (sf_push (0, 0) 28) := ok_iconst (by decide +kernel : decode (mb_ 163) 27 = .ok (.iconst 0, 1)) ⟨by decide, by decide⟩
theorem ok_X12_feed_28 : ok_S 163 28 (sf_st 0 4 30) := ok_istore (by decide +kernel : decode (mb_ 163) 28 = .ok (.istore 4, 2))
theorem ok_X12_feed_30 : ok_S 163 30 (sf_ld 0 4 32) := ok_iload (by decide +kernel : decode (mb_ 163) 30 = .ok (.iload 4, 2))
theorem ok_X12_feed_32 : ok_S 163 32 (sf_ld 0 3 33) := ok_iload_n (by decide +kernel : decode (mb_ 163) 32 = .ok (.iload_n 3, 1)) rfl
theorem ok_X12_feed_33 : ok_S 163 33 (sf_ic 3 73 36) := ok_ic3 (by decide +kernel : decode (mb_ 163) 33 = .ok (.if_icmp .ge 40, 3)) (by decide)
theorem ok_X12_feed_36 : ok_S 163 36 (sf_ld 2 0 37) := ok_aload_n (by decide +kernel : decode (mb_ 163) 36 = .ok (.aload_n 0, 1)) rfl
theorem ok_X12_feed_37 : ok_S 163 37 (sf_gr 13 13 4 40) := ok_gr fd_13_4 (by decide +kernel : decode (mb_ 163) 37 = .ok (.getfield 19, 3)) tw_1130 (Or.inl rfl) rfl
theorem ok_X12_feed_40 : ok_S 163 40 (sf_ld 2 0 41) := ok_aload_n (by decide +kernel : decode (mb_ 163) 40 = .ok (.aload_n 0, 1)) rfl
theorem ok_X12_feed_41 : ok_S 163 41 (sf_gi 13 13 5 44) := ok_gi fd_13_5 (by decide +kernel : decode (mb_ 163) 41 = .ok (.getfield 60, 3)) tw_1131 (Or.inl rfl) rfl
theorem ok_X12_feed_44 : ok_S 163 44 (sf_ld 1 1 45) := ok_lload_n (by decide +kernel : decode (mb_ 163) 44 = .ok (.lload_n 1, 1)) rfl
theorem ok_X12_feed_45 : ok_S 163 45 (sf_push (0, 8) 47) := ok_bipush (by decide +kernel : decode (mb_ 163) 45 = .ok (.bipush 8, 2)) ⟨by decide, by decide⟩ (by decide +kernel)
theorem ok_X12_feed_47 : ok_S 163 47 (sf_ld 0 4 49) := ok_iload (by decide +kernel : decode (mb_ 163) 47 = .ok (.iload 4, 2))
theorem ok_X12_feed_49 : ok_S 163 49 (sf_i2 mx_mul 50) := ok_imul (by decide +kernel : decode (mb_ 163) 49 = .ok (.imul, 1))
theorem ok_X12_feed_50 : ok_S 163 50 (sf_ls ml_shr 51) := ok_lshr (by decide +kernel : decode (mb_ 163) 50 = .ok (.lshr, 1))
theorem ok_X12_feed_51 : ok_S 163 51 (sf_push (1, 255) 54) := ok_ldc2 (by decide +kernel : decode (mb_ 163) 51 = .ok (.ldc2_w 64, 3)) ⟨by decide, by decide⟩ tw_1209
theorem ok_X12_feed_54 : ok_S 163 54 (sf_l2 ml_and 55) := ok_land (by decide +kernel : decode (mb_ 163) 54 = .ok (.land, 1))
theorem ok_X12_feed_55 : ok_S 163 55 (sf_l2i 56) := ok_l2i (by decide +kernel : decode (mb_ 163) 55 = .ok (.l2i, 1))
theorem ok_X12_feed_56 : ok_S 163 56 (sf_iast 57) := ok_iast (by decide +kernel : decode (mb_ 163) 56 = .ok (.iastore, 1))
theorem ok_X12_feed_57 : ok_S 163 57 (sf_ld 2 0 58) := ok_aload_n (by decide +kernel : decode (mb_ 163) 57 = .ok (.aload_n 0, 1)) rfl
theorem ok_X12_feed_58 : ok_S 163 58 (sf_dup 59) := ok_dup (by decide +kernel : decode (mb_ 163) 58 = .ok (.dup, 1))
theorem ok_X12_feed_59 : ok_S 163 59 (sf_gi 13 13 5 62) := ok_gi fd_13_5 (by decide +kernel : decode (mb_ 163) 59 = .ok (.getfield 60, 3)) tw_1131 (Or.inl rfl) rfl
theorem ok_X12_feed_62 : ok_S 163 62 (sf_push (0, 1) 63) := ok_iconst (by decide +kernel : decode (mb_ 163) 62 = .ok (.iconst 1, 1)) ⟨by decide, by decide⟩
theorem ok_X12_feed_63 : ok_S 163 63 (sf_i2 mx_add 64) := ok_iadd (by decide +kernel : decode (mb_ 163) 63 = .ok (.iadd, 1))
theorem ok_X12_feed_64 : ok_S 163 64 (sf_pi 13 13 5 67) := ok_pi fd_13_5 (by decide +kernel : decode (mb_ 163) 64 = .ok (.putfield 60, 3)) tw_1131 rfl (Or.inl ff_13_5) rfl
theorem ok_X12_feed_67 : ok_S 163 67 (sf_inc 4 1 70) := ok_iinc (by decide +kernel : decode (mb_ 163) 67 = .ok (.iinc 4 1, 3))
theorem ok_X12_feed_70 : ok_S 163 70 (sf_go 30) := ok_goto (by decide +kernel : decode (mb_ 163) 70 = .ok (.goto (-40), 3)) (by decide)
theorem ok_X12_feed_73 : ok_S 163 73 (sf_ld 2 0 74) := ok_aload_n (by decide +kernel : decode (mb_ 163) 73 = .ok (.aload_n 0, 1)) rfl
theorem ok_X12_feed_74 : ok_S 163 74 (sf_gi 13 13 5 77) := ok_gi fd_13_5 (by decide +kernel : decode (mb_ 163) 74 = .ok (.getfield 60, 3)) tw_1131 (Or.inl rfl) rfl
theorem ok_X12_feed_77 : ok_S 163 77 (sf_ret 0) := ok_ret0 (by decide +kernel : decode (mb_ 163) 77 = .ok (.ireturn, 1)) rfl
theorem ok_X12_feed (pc : Nat) : ok_S 163 pc (cd_X12_feed pc) :=
  (ok_bf (ok_bf (ok_bf (ok_bf (ok_bf (ok_bf (ok_lf pc ok_X12_feed_77) (ok_lf pc ok_X12_feed_74)) (ok_lf pc ok_X12_feed_73)) (ok_bf (ok_bf (ok_lf pc ok_X12_feed_70) (ok_lf pc ok_X12_feed_67)) (ok_lf pc ok_X12_feed_64))) (ok_bf (ok_bf (ok_bf (ok_lf pc ok_X12_feed_63) (ok_lf pc ok_X12_feed_62)) (ok_lf pc ok_X12_feed_59)) (ok_bf (ok_lf pc ok_X12_feed_58) (ok_lf pc ok_X12_feed_57)))) (ok_bf (ok_bf (ok_bf (ok_bf (ok_lf pc ok_X12_feed_56) (ok_lf pc ok_X12_feed_55)) (ok_lf pc ok_X12_feed_54)) (ok_bf (ok_bf (ok_lf pc ok_X12_feed_51) (ok_lf pc ok_X12_feed_50)) (ok_lf pc ok_X12_feed_49))) (ok_bf (ok_bf (ok_bf (ok_lf pc ok_X12_feed_47) (ok_lf pc ok_X12_feed_45)) (ok_lf pc ok_X12_feed_44)) (ok_bf (ok_lf pc ok_X12_feed_41) (ok_lf pc ok_X12_feed_40))))) (ok_bf (ok_bf (ok_bf (ok_bf (ok_bf (ok_lf pc ok_X12_feed_37) (ok_lf pc ok_X12_feed_36)) (ok_lf pc ok_X12_feed_33)) (ok_bf (ok_bf (ok_lf pc ok_X12_feed_32) (ok_lf pc ok_X12_feed_30)) (ok_lf pc ok_X12_feed_28))) (ok_bf (ok_bf (ok_bf (ok_lf pc ok_X12_feed_27) (ok_lf pc ok_X12_feed_26)) (ok_lf pc ok_X12_feed_24)) (ok_bf (ok_lf pc ok_X12_feed_21) (ok_lf pc ok_X12_feed_18)))) (ok_bf (ok_bf (ok_bf (ok_bf (ok_lf pc ok_X12_feed_17) (ok_lf pc ok_X12_feed_16)) (ok_lf pc ok_X12_feed_13)) (ok_bf (ok_bf (ok_lf pc ok_X12_feed_12) (ok_lf pc ok_X12_feed_11)) (ok_lf pc ok_X12_feed_10))) (ok_bf (ok_bf (ok_bf (ok_lf pc ok_X12_feed_7) (ok_lf pc ok_X12_feed_4)) (ok_lf pc ok_X12_feed_2)) (ok_bf (ok_lf pc ok_X12_feed_1) (ok_lf pc ok_X12_feed_0))))))
theorem mo_X12_feed (pc : Nat) : mo_S (cd_X12_feed pc) :=
  (mo_bf (mo_bf (mo_bf (mo_bf (mo_bf (mo_bf (mo_bf mo_ret mo_no) (mo_bf mo_gi mo_no)) (mo_bf mo_ld mo_no)) (mo_bf (mo_bf (mo_bf mo_go mo_no) (mo_bf mo_inc mo_no)) (mo_bf mo_pi mo_no))) (mo_bf (mo_bf (mo_bf (mo_bf mo_i2 mo_no) (mo_bf mo_push mo_no)) (mo_bf mo_gi mo_no)) (mo_bf (mo_bf mo_dup mo_no) (mo_bf mo_ld mo_no)))) (mo_bf (mo_bf (mo_bf (mo_bf (mo_bf mo_iast mo_no) (mo_bf mo_l2i mo_no)) (mo_bf mo_l2 mo_no)) (mo_bf (mo_bf (mo_bf mo_push mo_no) (mo_bf mo_ls mo_no)) (mo_bf mo_i2 mo_no))) (mo_bf (mo_bf (mo_bf (mo_bf mo_ld mo_no) (mo_bf mo_push mo_no)) (mo_bf mo_ld mo_no)) (mo_bf (mo_bf mo_gi mo_no) (mo_bf mo_ld mo_no))))) (mo_bf (mo_bf (mo_bf (mo_bf (mo_bf (mo_bf mo_gr mo_no) (mo_bf mo_ld mo_no)) (mo_bf mo_ic mo_no)) (mo_bf (mo_bf (mo_bf mo_ld mo_no) (mo_bf mo_ld mo_no)) (mo_bf mo_st mo_no))) (mo_bf (mo_bf (mo_bf (mo_bf mo_push mo_no) (mo_bf mo_ret mo_no)) (mo_bf mo_push mo_no)) (mo_bf (mo_bf mo_ic mo_no) (mo_bf mo_push mo_no)))) (mo_bf (mo_bf (mo_bf (mo_bf (mo_bf mo_i2 mo_no) (mo_bf mo_ld mo_no)) (mo_bf mo_gi mo_no)) (mo_bf (mo_bf (mo_bf mo_ld mo_no) (mo_bf mo_ret mo_no)) (mo_bf mo_push mo_no))) (mo_bf (mo_bf (mo_bf (mo_bf mo_if mo_no) (mo_bf mo_cs mo_no)) (mo_bf mo_push mo_no)) (mo_bf (mo_bf mo_push mo_no) (mo_bf mo_ld mo_no))))))
theorem ok_X12_byteAt_0 : ok_S 164 0 (sf_ld 0 1 1) := ok_iload_n (by decide +kernel : decode (mb_ 164) 0 = .ok (.iload_n 1, 1)) rfl
theorem ok_X12_byteAt_1 : ok_S 164 1 (sf_ld 2 0 2) := ok_aload_n (by decide +kernel : decode (mb_ 164) 1 = .ok (.aload_n 0, 1)) rfl
theorem ok_X12_byteAt_2 : ok_S 164 2 (sf_gi 13 13 5 5) := ok_gi fd_13_5 (by decide +kernel : decode (mb_ 164) 2 = .ok (.getfield 60, 3)) tw_1131 (Or.inl rfl) rfl
theorem ok_X12_byteAt_5 : ok_S 164 5 (sf_ic 3 17 8) := ok_ic3 (by decide +kernel : decode (mb_ 164) 5 = .ok (.if_icmp .ge 12, 3)) (by decide)
theorem ok_X12_byteAt_8 : ok_S 164 8 (sf_ld 2 0 9) := ok_aload_n (by decide +kernel : decode (mb_ 164) 8 = .ok (.aload_n 0, 1)) rfl
theorem ok_X12_byteAt_9 : ok_S 164 9 (sf_gr 13 13 4 12) := ok_gr fd_13_4 (by decide +kernel : decode (mb_ 164) 9 = .ok (.getfield 19, 3)) tw_1130 (Or.inl rfl) rfl
theorem ok_X12_byteAt_12 : ok_S 164 12 (sf_ld 0 1 13) := ok_iload_n (by decide +kernel : decode (mb_ 164) 12 = .ok (.iload_n 1, 1)) rfl
theorem ok_X12_byteAt_13 : ok_S 164 13 (sf_iald 14) := ok_iald (by decide +kernel : decode (mb_ 164) 13 = .ok (.iaload, 1))
theorem ok_X12_byteAt_14 : ok_S 164 14 (sf_go 18) := ok_goto (by decide +kernel : decode (mb_ 164) 14 = .ok (.goto 4, 3)) (by decide)
theorem ok_X12_byteAt_17 : ok_S 164 17 (sf_push (0, (-1)) 18) := ok_iconst (by decide +kernel : decode (mb_ 164) 17 = .ok (.iconst (-1), 1)) ⟨by decide, by decide⟩
theorem ok_X12_byteAt_18 : ok_S 164 18 (sf_ret 0) := ok_ret0 (by decide +kernel : decode (mb_ 164) 18 = .ok (.ireturn, 1)) rfl
theorem ok_X12_byteAt (pc : Nat) : ok_S 164 pc (cd_X12_byteAt pc) :=
  (ok_bf (ok_bf (ok_bf (ok_bf (ok_lf pc ok_X12_byteAt_18) (ok_lf pc ok_X12_byteAt_17)) (ok_lf pc ok_X12_byteAt_14)) (ok_bf (ok_bf (ok_lf pc ok_X12_byteAt_13) (ok_lf pc ok_X12_byteAt_12)) (ok_lf pc ok_X12_byteAt_9))) (ok_bf (ok_bf (ok_bf (ok_lf pc ok_X12_byteAt_8) (ok_lf pc ok_X12_byteAt_5)) (ok_lf pc ok_X12_byteAt_2)) (ok_bf (ok_lf pc ok_X12_byteAt_1) (ok_lf pc ok_X12_byteAt_0))))
theorem mo_X12_byteAt (pc : Nat) : mo_S (cd_X12_byteAt pc) :=
  (mo_bf (mo_bf (mo_bf (mo_bf (mo_bf mo_ret mo_no) (mo_bf mo_push mo_no)) (mo_bf mo_go mo_no)) (mo_bf (mo_bf (mo_bf mo_iald mo_no) (mo_bf mo_ld mo_no)) (mo_bf mo_gr mo_no))) (mo_bf (mo_bf (mo_bf (mo_bf mo_ld mo_no) (mo_bf mo_ic mo_no)) (mo_bf mo_gi mo_no)) (mo_bf (mo_bf mo_ld mo_no) (mo_bf mo_ld mo_no))))
theorem ok_X12_next_0 : ok_S 165 0 (sf_ld 2 0 1) := ok_aload_n (by decide +kernel : decode (mb_ 165) 0 = .ok (.aload_n 0, 1)) rfl
theorem ok_X12_next_1 : ok_S 165 1 (sf_ld 2 0 2) := ok_aload_n (by decide +kernel : decode (mb_ 165) 1 = .ok (.aload_n 0, 1)) rfl
theorem ok_X12_next_2 : ok_S 165 2 (sf_gi 13 13 6 5) := ok_gi fd_13_6 (by decide +kernel : decode (mb_ 165) 2 = .ok (.getfield 66, 3)) tw_1132 (Or.inl rfl) rfl
theorem ok_X12_next_5 : ok_S 165 5 (sf_cv 13 [2, 0] 164 8) := ok_cv mt_164 cl_13 (by decide +kernel : decode (mb_ 165) 5 = .ok (.invokevirtual 69, 3)) tw_1225 tw_1227 ts_32 tw_7 rfl (by decide +kernel) (mh_ok rfl) (by decide) (by decide)
theorem ok_X12_next_8 : ok_S 165 8 (sf_push (0, 32) 10) := ok_bipush (by decide +kernel : decode (mb_ 165) 8 = .ok (.bipush 32, 2)) ⟨by decide, by decide⟩ (by decide +kernel)
theorem ok_X12_next_10 : ok_S 165 10 (sf_ic 1 26 13) := ok_ic1 (by decide +kernel : decode (mb_ 165) 10 = .ok (.if_icmp .ne 16, 3)) (by decide)
theorem ok_X12_next_13 : ok_S 165 13 (sf_ld 2 0 14) := ok_aload_n (by decide +kernel : decode (mb_ 165) 13 = .ok (.aload_n 0, 1)) rfl
theorem ok_X12_next_14 : ok_S 165 14 (sf_dup 15) := ok_dup (by decide +kernel : decode (mb_ 165) 14 = .ok (.dup, 1))
theorem ok_X12_next_15 : ok_S 165 15 (sf_gi 13 13 6 18) := ok_gi fd_13_6 (by decide +kernel : decode (mb_ 165) 15 = .ok (.getfield 66, 3)) tw_1132 (Or.inl rfl) rfl
theorem ok_X12_next_18 : ok_S 165 18 (sf_push (0, 1) 19) := ok_iconst (by decide +kernel : decode (mb_ 165) 18 = .ok (.iconst 1, 1)) ⟨by decide, by decide⟩
theorem ok_X12_next_19 : ok_S 165 19 (sf_i2 mx_add 20) := ok_iadd (by decide +kernel : decode (mb_ 165) 19 = .ok (.iadd, 1))
theorem ok_X12_next_20 : ok_S 165 20 (sf_pi 13 13 6 23) := ok_pi fd_13_6 (by decide +kernel : decode (mb_ 165) 20 = .ok (.putfield 66, 3)) tw_1132 rfl (Or.inl ff_13_6) rfl
theorem ok_X12_next_23 : ok_S 165 23 (sf_go 0) := ok_goto (by decide +kernel : decode (mb_ 165) 23 = .ok (.goto (-23), 3)) (by decide)
theorem ok_X12_next_26 : ok_S 165 26 (sf_ld 2 0 27) := ok_aload_n (by decide +kernel : decode (mb_ 165) 26 = .ok (.aload_n 0, 1)) rfl
theorem ok_X12_next_27 : ok_S 165 27 (sf_ld 2 0 28) := ok_aload_n (by decide +kernel : decode (mb_ 165) 27 = .ok (.aload_n 0, 1)) rfl
theorem ok_X12_next_28 : ok_S 165 28 (sf_gi 13 13 6 31) := ok_gi fd_13_6 (by decide +kernel : decode (mb_ 165) 28 = .ok (.getfield 66, 3)) tw_1132 (Or.inl rfl) rfl
theorem ok_X12_next_31 : ok_S 165 31 (sf_pi 13 13 7 34) := ok_pi fd_13_7 (by decide +kernel : decode (mb_ 165) 31 = .ok (.putfield 73, 3)) tw_1133 rfl (Or.inl ff_13_7) rfl
theorem ok_X12_next_34 : ok_S 165 34 (sf_ld 2 0 35) := ok_aload_n (by decide +kernel : decode (mb_ 165) 34 = .ok (.aload_n 0, 1)) rfl
theorem ok_X12_next_35 : ok_S 165 35 (sf_ld 2 0 36) := ok_aload_n (by decide +kernel : decode (mb_ 165) 35 = .ok (.aload_n 0, 1)) rfl
theorem ok_X12_next_36 : ok_S 165 36 (sf_gi 13 13 6 39) := ok_gi fd_13_6 (by decide +kernel : decode (mb_ 165) 36 = .ok (.getfield 66, 3)) tw_1132 (Or.inl rfl) rfl
theorem ok_X12_next_39 : ok_S 165 39 (sf_cv 13 [2, 0] 164 42) := ok_cv mt_164 cl_13 (by decide +kernel : decode (mb_ 165) 39 = .ok (.invokevirtual 69, 3)) tw_1225 tw_1227 ts_32 tw_7 rfl (by decide +kernel) (mh_ok rfl) (by decide) (by decide)
theorem ok_X12_next_42 : ok_S 165 42 (sf_st 0 1 43) := ok_istore_n (by decide +kernel : decode (mb_ 165) 42 = .ok (.istore_n 1, 1)) rfl
theorem ok_X12_next_43 : ok_S 165 43 (sf_ld 0 1 44) := ok_iload_n (by decide +kernel : decode (mb_ 165) 43 = .ok (.iload_n 1, 1)) rfl
theorem ok_X12_next_44 : ok_S 165 44 (sf_if 3 55 47) := ok_if3 (by decide +kernel : decode (mb_ 165) 44 = .ok (.ifCond .ge 11, 3)) (by decide)
theorem ok_X12_next_47 : ok_S 165 47 (sf_ld 2 0 48) := ok_aload_n (by decide +kernel : decode (mb_ 165) 47 = .ok (.aload_n 0, 1)) rfl
theorem ok_X12_next_48 : ok_S 165 48 (sf_push (0, 0) 49) := ok_iconst (by decide +kernel : decode (mb_ 165) 48 = .ok (.iconst 0, 1)) ⟨by decide, by decide⟩
theorem ok_X12_next_49 : ok_S 165 49 (sf_pi 13 13 8 52) := ok_pi fd_13_8 (by decide +kernel : decode (mb_ 165) 49 = .ok (.putfield 76, 3)) tw_1134 rfl (Or.inl ff_13_8) rfl
theorem ok_X12_next_52 : ok_S 165 52 (sf_go 213) := ok_goto (by decide +kernel : decode (mb_ 165) 52 = .ok (.goto 161, 3)) (by decide)
theorem ok_X12_next_55 : ok_S 165 55 (sf_ld 0 1 56) := ok_iload_n (by decide +kernel : decode (mb_ 165) 55 = .ok (.iload_n 1, 1)) rfl
theorem ok_X12_next_56 : ok_S 165 56 (sf_push (0, 97) 58) := ok_bipush (by decide +kernel : decode (mb_ 165) 56 = .ok (.bipush 97, 2)) ⟨by decide, by decide⟩ (by decide +kernel)
theorem ok_X12_next_58 : ok_S 165 58 (sf_push (0, 122) 60) := ok_bipush (by decide +kernel : decode (mb_ 165) 58 = .ok (.bipush 122, 2)) ⟨by decide, by decide⟩ (by decide +kernel)
theorem ok_X12_next_60 : ok_S 165 60 (sf_cs [0, 0, 0] 157 63) := ok_cs mt_157 (by decide +kernel : decode (mb_ 165) 60 = .ok (.invokestatic 56, 3)) tw_1206 tw_1207 tw_7 (by decide +kernel) (mh_ok rfl) (by decide) (by decide)
theorem ok_X12_next_63 : ok_S 165 63 (sf_if 0 102 66) := ok_if0 (by decide +kernel : decode (mb_ 165) 63 = .ok (.ifCond .eq 39, 3)) (by decide)
theorem ok_X12_next_66 : ok_S 165 66 (sf_ld 2 0 67) := ok_aload_n (by decide +kernel : decode (mb_ 165) 66 = .ok (.aload_n 0, 1)) rfl
theorem ok_X12_next_67 : ok_S 165 67 (sf_push (0, 1) 68) := ok_iconst (by decide +kernel : decode (mb_ 165) 67 = .ok (.iconst 1, 1)) ⟨by decide, by decide⟩
theorem ok_X12_next_68 : ok_S 165 68 (sf_pi 13 13 8 71) := ok_pi fd_13_8 (by decide +kernel : decode (mb_ 165) 68 = .ok (.putfield 76, 3)) tw_1134 rfl (Or.inl ff_13_8) rfl
theorem ok_X12_next_71 : ok_S 165 71 (sf_ld 2 0 72) := ok_aload_n (by decide +kernel : decode (mb_ 165) 71 = .ok (.aload_n 0, 1)) rfl
theorem ok_X12_next_72 : ok_S 165 72 (sf_ld 2 0 73) := ok_aload_n (by decide +kernel : decode (mb_ 165) 72 = .ok (.aload_n 0, 1)) rfl
theorem ok_X12_next_73 : ok_S 165 73 (sf_gi 13 13 6 76) := ok_gi fd_13_6 (by decide +kernel : decode (mb_ 165) 73 = .ok (.getfield 66, 3)) tw_1132 (Or.inl rfl) rfl
theorem ok_X12_next_76 : ok_S 165 76 (sf_cv 13 [2, 0] 164 79) := ok_cv mt_164 cl_13 (by decide +kernel : decode (mb_ 165) 76 = .ok (.invokevirtual 69, 3)) tw_1225 tw_1227 ts_32 tw_7 rfl (by decide +kernel) (mh_ok rfl) (by decide) (by decide)
theorem ok_X12_next_79 : ok_S 165 79 (sf_push (0, 97) 81) := ok_bipush (by decide +kernel : decode (mb_ 165) 79 = .ok (.bipush 97, 2)) ⟨by decide, by decide⟩ (by decide +kernel)
theorem ok_X12_next_81 : ok_S 165 81 (sf_push (0, 122) 83) := ok_bipush (by decide +kernel : decode (mb_ 165) 81 = .ok (.bipush 122, 2)) ⟨by decide, by decide⟩ (by decide +kernel)
theorem ok_X12_next_83 : ok_S 165 83 (sf_cs [0, 0, 0] 157 86) := ok_cs mt_157 (by decide +kernel : decode (mb_ 165) 83 = .ok (.invokestatic 56, 3)) tw_1206 tw_1207 tw_7 (by decide +kernel) (mh_ok rfl) (by decide) (by decide)
theorem ok_X12_next_86 : ok_S 165 86 (sf_if 0 213 89) := ok_if0 (by decide +kernel : decode (mb_ 165) 86 = .ok (.ifCond .eq 127, 3)) (by decide)
theorem ok_X12_next_89 : ok_S 165 89 (sf_ld 2 0 90) := ok_aload_n (by decide +kernel : decode (mb_ 165) 89 = .ok (.aload_n 0, 1)) rfl
theorem ok_X12_next_90 : ok_S 165 90 (sf_dup 91) := ok_dup (by decide +kernel : decode (mb_ 165) 90 = .ok (.dup, 1))
theorem ok_X12_next_91 : ok_S 165 91 (sf_gi 13 13 6 94) := ok_gi fd_13_6 (by decide +kernel : decode (mb_ 165) 91 = .ok (.getfield 66, 3)) tw_1132 (Or.inl rfl) rfl
theorem ok_X12_next_94 : ok_S 165 94 (sf_push (0, 1) 95) := ok_iconst (by decide +kernel : decode (mb_ 165) 94 = .ok (.iconst 1, 1)) ⟨by decide, by decide⟩
theorem ok_X12_next_95 : ok_S 165 95 (sf_i2 mx_add 96) := ok_iadd (by decide +kernel : decode (mb_ 165) 95 = .ok (.iadd, 1))
theorem ok_X12_next_96 : ok_S 165 96 (sf_pi 13 13 6 99) := ok_pi fd_13_6 (by decide +kernel : decode (mb_ 165) 96 = .ok (.putfield 66, 3)) tw_1132 rfl (Or.inl ff_13_6) rfl
theorem ok_X12_next_99 : ok_S 165 99 (sf_go 71) := ok_goto (by decide +kernel : decode (mb_ 165) 99 = .ok (.goto (-28), 3)) (by decide)
theorem ok_X12_next_102 : ok_S 165 102 (sf_ld 0 1 103) := ok_iload_n (by decide +kernel : decode (mb_ 165) 102 = .ok (.iload_n 1, 1)) rfl
theorem ok_X12_next_103 : ok_S 165 103 (sf_push (0, 48) 105) := ok_bipush (by decide +kernel : decode (mb_ 165) 103 = .ok (.bipush 48, 2)) ⟨by decide, by decide⟩ (by decide +kernel)
theorem ok_X12_next_105 : ok_S 165 105 (sf_push (0, 57) 107) := ok_bipush (by decide +kernel : decode (mb_ 165) 105 = .ok (.bipush 57, 2)) ⟨by decide, by decide⟩ (by decide +kernel)
theorem ok_X12_next_107 : ok_S 165 107 (sf_cs [0, 0, 0] 157 110) := ok_cs mt_157 (by decide +kernel : decode (mb_ 165) 107 = .ok (.invokestatic 56, 3)) tw_1206 tw_1207 tw_7 (by decide +kernel) (mh_ok rfl) (by decide) (by decide)
theorem ok_X12_next_110 : ok_S 165 110 (sf_if 0 196 113) := ok_if0 (by decide +kernel : decode (mb_ 165) 110 = .ok (.ifCond .eq 86, 3)) (by decide)
theorem ok_X12_next_113 : ok_S 165 113 (sf_ld 2 0 114) := ok_aload_n (by decide +kernel : decode (mb_ 165) 113 = .ok (.aload_n 0, 1)) rfl
theorem ok_X12_next_114 : ok_S 165 114 (sf_push (0, 2) 115) := ok_iconst (by decide +kernel : decode (mb_ 165) 114 = .ok (.iconst 2, 1)) ⟨by decide, by decide⟩
theorem ok_X12_next_115 : ok_S 165 115 (sf_pi 13 13 8 118) := ok_pi fd_13_8 (by decide +kernel : decode (mb_ 165) 115 = .ok (.putfield 76, 3)) tw_1134 rfl (Or.inl ff_13_8) rfl
theorem ok_X12_next_118 : ok_S 165 118 (sf_ld 2 0 119) := ok_aload_n (by decide +kernel : decode (mb_ 165) 118 = .ok (.aload_n 0, 1)) rfl
theorem ok_X12_next_119 : ok_S 165 119 (sf_push (0, 0) 120) := ok_iconst (by decide +kernel : decode (mb_ 165) 119 = .ok (.iconst 0, 1)) ⟨by decide, by decide⟩
theorem ok_X12_next_120 : ok_S 165 120 (sf_pi 13 13 9 123) := ok_pi fd_13_9 (by decide +kernel : decode (mb_ 165) 120 = .ok (.putfield 79, 3)) tw_1135 rfl (Or.inl ff_13_9) rfl
theorem ok_X12_next_123 : ok_S 165 123 (sf_ld 2 0 124) := ok_aload_n (by decide +kernel : decode (mb_ 165) 123 = .ok (.aload_n 0, 1)) rfl
theorem ok_X12_next_124 : ok_S 165 124 (sf_ld 2 0 125) := ok_aload_n (by decide +kernel : decode (mb_ 165) 124 = .ok (.aload_n 0, 1)) rfl
theorem ok_X12_next_125 : ok_S 165 125 (sf_gi 13 13 6 128) := ok_gi fd_13_6 (by decide +kernel : decode (mb_ 165) 125 = .ok (.getfield 66, 3)) tw_1132 (Or.inl rfl) rfl
theorem ok_X12_next_128 : ok_S 165 128 (sf_cv 13 [2, 0] 164 131) := ok_cv mt_164 cl_13 (by decide +kernel : decode (mb_ 165) 128 = .ok (.invokevirtual 69, 3)) tw_1225 tw_1227 ts_32 tw_7 rfl (by decide +kernel) (mh_ok rfl) (by decide) (by decide)
theorem ok_X12_next_131 : ok_S 165 131 (sf_push (0, 48) 133) := ok_bipush (by decide +kernel : decode (mb_ 165) 131 = .ok (.bipush 48, 2)) ⟨by decide, by decide⟩ (by decide +kernel)
theorem ok_X12_next_133 : ok_S 165 133 (sf_push (0, 57) 135) := ok_bipush (by decide +kernel : decode (mb_ 165) 133 = .ok (.bipush 57, 2)) ⟨by decide, by decide⟩ (by decide +kernel)
theorem ok_X12_next_135 : ok_S 165 135 (sf_cs [0, 0, 0] 157 138) := ok_cs mt_157 (by decide +kernel : decode (mb_ 165) 135 = .ok (.invokestatic 56, 3)) tw_1206 tw_1207 tw_7 (by decide +kernel) (mh_ok rfl) (by decide) (by decide)
theorem ok_X12_next_138 : ok_S 165 138 (sf_if 0 213 141) := ok_if0 (by decide +kernel : decode (mb_ 165) 138 = .ok (.ifCond .eq 75, 3)) (by decide)
theorem ok_X12_next_141 : ok_S 165 141 (sf_ld 2 0 142) := ok_aload_n (by decide +kernel : decode (mb_ 165) 141 = .ok (.aload_n 0, 1)) rfl
theorem ok_X12_next_142 : ok_S 165 142 (sf_ld 2 0 143) := ok_aload_n (by decide +kernel : decode (mb_ 165) 142 = .ok (.aload_n 0, 1)) rfl
theorem ok_X12_next_143 : ok_S 165 143 (sf_gi 13 13 6 146) := ok_gi fd_13_6 (by decide +kernel : decode (mb_ 165) 143 = .ok (.getfield 66, 3)) tw_1132 (Or.inl rfl) rfl
theorem ok_X12_next_146 : ok_S 165 146 (sf_ld 2 0 147) := ok_aload_n (by decide +kernel : decode (mb_ 165) 146 = .ok (.aload_n 0, 1)) rfl
theorem ok_X12_next_147 : ok_S 165 147 (sf_gi 13 13 7 150) := ok_gi fd_13_7 (by decide +kernel : decode (mb_ 165) 147 = .ok (.getfield 73, 3)) tw_1133 (Or.inl rfl) rfl
theorem ok_X12_next_150 : ok_S 165 150 (sf_i2 mx_sub 151) := ok_isub (by decide +kernel : decode (mb_ 165) 150 = .ok (.isub, 1))
theorem ok_X12_next_151 : ok_S 165 151 (sf_push (0, 1) 152) := ok_iconst (by decide +kernel : decode (mb_ 165) 151 = .ok (.iconst 1, 1)) ⟨by decide, by decide⟩
theorem ok_X12_next_152 : ok_S 165 152 (sf_ic 5 161 155) := ok_ic5 (by decide +kernel : decode (mb_ 165) 152 = .ok (.if_icmp .le 9, 3)) (by decide)
theorem ok_X12_next_155 : ok_S 165 155 (sf_push (0, 999) 158) := ok_sipush (by decide +kernel : decode (mb_ 165) 155 = .ok (.sipush 999, 3)) ⟨by decide, by decide⟩ (by decide +kernel)
theorem ok_X12_next_158 : ok_S 165 158 (sf_go 180) := ok_goto (by decide +kernel : decode (mb_ 165) 158 = .ok (.goto 22, 3)) (by decide)
theorem ok_X12_next_161 : ok_S 165 161 (sf_push (0, 10) 163) := ok_bipush (by decide +kernel : decode (mb_ 165) 161 = .ok (.bipush 10, 2)) ⟨by decide, by decide⟩ (by decide +kernel)
theorem ok_X12_next_163 : ok_S 165 163 (sf_ld 2 0 164) := ok_aload_n (by decide +kernel : decode (mb_ 165) 163 = .ok (.aload_n 0, 1)) rfl
theorem ok_X12_next_164 : ok_S 165 164 (sf_gi 13 13 9 167) := ok_gi fd_13_9 (by decide +kernel : decode (mb_ 165) 164 = .ok (.getfield 79, 3)) tw_1135 (Or.inl rfl) rfl
theorem ok_X12_next_167 : ok_S 165 167 (sf_i2 mx_mul 168) := ok_imul (by decide +kernel : decode (mb_ 165) 167 = .ok (.imul, 1))
theorem ok_X12_next_168 : ok_S 165 168 (sf_ld 2 0 169) := ok_aload_n (by decide +kernel : decode (mb_ 165) 168 = .ok (.aload_n 0, 1)) rfl
theorem ok_X12_next_169 : ok_S 165 169 (sf_ld 2 0 170) := ok_aload_n (by decide +kernel : decode (mb_ 165) 169 = .ok (.aload_n 0, 1)) rfl
theorem ok_X12_next_170 : ok_S 165 170 (sf_gi 13 13 6 173) := ok_gi fd_13_6 (by decide +kernel : decode (mb_ 165) 170 = .ok (.getfield 66, 3)) tw_1132 (Or.inl rfl) rfl
theorem ok_X12_next_173 : ok_S 165 173 (sf_cv 13 [2, 0] 164 176) := ok_cv mt_164 cl_13 (by decide +kernel : decode (mb_ 165) 173 = .ok (.invokevirtual 69, 3)) tw_1225 tw_1227 ts_32 tw_7 rfl (by decide +kernel) (mh_ok rfl) (by decide) (by decide)
theorem ok_X12_next_176 : ok_S 165 176 (sf_i2 mx_add 177) := ok_iadd (by decide +kernel : decode (mb_ 165) 176 = .ok (.iadd, 1))
theorem ok_X12_next_177 : ok_S 165 177 (sf_push (0, 48) 179) := ok_bipush (by decide +kernel : decode (mb_ 165) 177 = .ok (.bipush 48, 2)) ⟨by decide, by decide⟩ (by decide +kernel)
theorem ok_X12_next_179 : ok_S 165 179 (sf_i2 mx_sub 180) := ok_isub (by decide +kernel : decode (mb_ 165) 179 = .ok (.isub, 1))
theorem ok_X12_next_180 : ok_S 165 180 (sf_pi 13 13 9 183) := ok_pi fd_13_9 (by decide +kernel : decode (mb_ 165) 180 = .ok (.putfield 79, 3)) tw_1135 rfl (Or.inl ff_13_9) rfl
theorem ok_X12_next_183 : ok_S 165 183 (sf_ld 2 0 184) := ok_aload_n (by decide +kernel : decode (mb_ 165) 183 = .ok (.aload_n 0, 1)) rfl
theorem ok_X12_next_184 : ok_S 165 184 (sf_dup 185) := ok_dup (by decide +kernel : decode (mb_ 165) 184 = .ok (.dup, 1))
theorem ok_X12_next_185 : ok_S 165 185 (sf_gi 13 13 6 188) := ok_gi fd_13_6 (by decide +kernel : decode (mb_ 165) 185 = .ok (.getfield 66, 3)) tw_1132 (Or.inl rfl) rfl
theorem ok_X12_next_188 : ok_S 165 188 (sf_push (0, 1) 189) := ok_iconst (by decide +kernel : decode (mb_ 165) 188 = .ok (.iconst 1, 1)) ⟨by decide, by decide⟩
theorem ok_X12_next_189 : ok_S 165 189 (sf_i2 mx_add 190) := ok_iadd (by decide +kernel : decode (mb_ 165) 189 = .ok (.iadd, 1))
theorem ok_X12_next_190 : ok_S 165 190 (sf_pi 13 13 6 193) := ok_pi fd_13_6 (by decide +kernel : decode (mb_ 165) 190 = .ok (.putfield 66, 3)) tw_1132 rfl (Or.inl ff_13_6) rfl
theorem ok_X12_next_193 : ok_S 165 193 (sf_go 123) := ok_goto (by decide +kernel : decode (mb_ 165) 193 = .ok (.goto (-70), 3)) (by decide)
theorem ok_X12_next_196 : ok_S 165 196 (sf_ld 2 0 197) := ok_aload_n (by decide +kernel : decode (mb_ 165) 196 = .ok (.aload_n 0, 1)) rfl
theorem ok_X12_next_197 : ok_S 165 197 (sf_push (0, 3) 198) := ok_iconst (by decide +kernel : decode (mb_ 165) 197 = .ok (.iconst 3, 1)) ⟨by decide, by decide⟩
theorem ok_X12_next_198 : ok_S 165 198 (sf_ld 0 1 199) := ok_iload_n (by decide +kernel : decode (mb_ 165) 198 = .ok (.iload_n 1, 1)) rfl
theorem ok_X12_next_199 : ok_S 165 199 (sf_i2 mx_add 200) := ok_iadd (by decide +kernel : decode (mb_ 165) 199 = .ok (.iadd, 1))
theorem ok_X12_next_200 : ok_S 165 200 (sf_pi 13 13 8 203) := ok_pi fd_13_8 (by decide +kernel : decode (mb_ 165) 200 = .ok (.putfield 76, 3)) tw_1134 rfl (Or.inl ff_13_8) rfl
theorem ok_X12_next_203 : ok_S 165 203 (sf_ld 2 0 204) := ok_aload_n (by decide +kernel : decode (mb_ 165) 203 = .ok (.aload_n 0, 1)) rfl
theorem ok_X12_next_204 : ok_S 165 204 (sf_dup 205) := ok_dup (by decide +kernel : decode (mb_ 165) 204 = .ok (.dup, 1))
theorem ok_X12_next_205 : ok_S 165 205 (sf_gi 13 13 6 208) := ok_gi fd_13_6 (by decide +kernel : decode (mb_ 165) 205 = .ok (.getfield 66, 3)) tw_1132 (Or.inl rfl) rfl
theorem ok_X12_next_208 : ok_S 165 208 (sf_push (0, 1) 209) := ok_iconst (by decide +kernel : decode (mb_ 165) 208 = .ok (.iconst 1, 1)) ⟨by decide, by decide⟩
theorem ok_X12_next_209 : ok_S 165 209 (sf_i2 mx_add 210) := ok_iadd (by decide +kernel : decode (mb_ 165) 209 = .ok (.iadd, 1))
theorem ok_X12_next_210 : ok_S 165 210 (sf_pi 13 13 6 213) := ok_pi fd_13_6 (by decide +kernel : decode (mb_ 165) 210 = .ok (.putfield 66, 3)) tw_1132 rfl (Or.inl ff_13_6) rfl
theorem ok_X12_next_213 : ok_S 165 213 (sf_retv) := ok_retv (by decide +kernel : decode (mb_ 165) 213 = .ok (.return_, 1)) rfl
theorem ok_X12_next (pc : Nat) : ok_S 165 pc (cd_X12_next pc) :=
  (ok_bf (ok_bf (ok_bf (ok_bf (ok_bf (ok_bf (ok_bf (ok_lf pc ok_X12_next_213) (ok_lf pc ok_X12_next_210)) (ok_bf (ok_lf pc ok_X12_next_209) (ok_lf pc ok_X12_next_208))) (ok_bf (ok_bf (ok_lf pc ok_X12_next_205) (ok_lf pc ok_X12_next_204)) (ok_lf pc ok_X12_next_203))) (ok_bf (ok_bf (ok_bf (ok_lf pc ok_X12_next_200) (ok_lf pc ok_X12_next_199)) (ok_bf (ok_lf pc ok_X12_next_198) (ok_lf pc ok_X12_next_197))) (ok_bf (ok_bf (ok_lf pc ok_X12_next_196) (ok_lf pc ok_X12_next_193)) (ok_lf pc ok_X12_next_190)))) (ok_bf (ok_bf (ok_bf (ok_bf (ok_lf pc ok_X12_next_189) (ok_lf pc ok_X12_next_188)) (ok_bf (ok_lf pc ok_X12_next_185) (ok_lf pc ok_X12_next_184))) (ok_bf (ok_bf (ok_lf pc ok_X12_next_183) (ok_lf pc ok_X12_next_180)) (ok_lf pc ok_X12_next_179))) (ok_bf (ok_bf (ok_bf (ok_lf pc ok_X12_next_177) (ok_lf pc ok_X12_next_176)) (ok_bf (ok_lf pc ok_X12_next_173) (ok_lf pc ok_X12_next_170))) (ok_bf (ok_bf (ok_lf pc ok_X12_next_169) (ok_lf pc ok_X12_next_168)) (ok_lf pc ok_X12_next_167))))) (ok_bf (ok_bf (ok_bf (ok_bf (ok_bf (ok_lf pc ok_X12_next_164) (ok_lf pc ok_X12_next_163)) (ok_bf (ok_lf pc ok_X12_next_161) (ok_lf pc ok_X12_next_158))) (ok_bf (ok_bf (ok_lf pc ok_X12_next_155) (ok_lf pc ok_X12_next_152)) (ok_lf pc ok_X12_next_151))) (ok_bf (ok_bf (ok_bf (ok_lf pc ok_X12_next_150) (ok_lf pc ok_X12_next_147)) (ok_bf (ok_lf pc ok_X12_next_146) (ok_lf pc ok_X12_next_143))) (ok_bf (ok_bf (ok_lf pc ok_X12_next_142) (ok_lf pc ok_X12_next_141)) (ok_lf pc ok_X12_next_138)))) (ok_bf (ok_bf (ok_bf (ok_bf (ok_lf pc ok_X12_next_135) (ok_lf pc ok_X12_next_133)) (ok_bf (ok_lf pc ok_X12_next_131) (ok_lf pc ok_X12_next_128))) (ok_bf (ok_bf (ok_lf pc ok_X12_next_125) (ok_lf pc ok_X12_next_124)) (ok_lf pc ok_X12_next_123))) (ok_bf (ok_bf (ok_bf (ok_lf pc ok_X12_next_120) (ok_lf pc ok_X12_next_119)) (ok_bf (ok_lf pc ok_X12_next_118) (ok_lf pc ok_X12_next_115))) (ok_bf (ok_bf (ok_lf pc ok_X12_next_114) (ok_lf pc ok_X12_next_113)) (ok_lf pc ok_X12_next_110)))))) (ok_bf (ok_bf (ok_bf (ok_bf (ok_bf (ok_bf (ok_lf pc ok_X12_next_107) (ok_lf pc ok_X12_next_105)) (ok_bf (ok_lf pc ok_X12_next_103) (ok_lf pc ok_X12_next_102))) (ok_bf (ok_bf (ok_lf pc ok_X12_next_99) (ok_lf pc ok_X12_next_96)) (ok_lf pc ok_X12_next_95))) (ok_bf (ok_bf (ok_bf (ok_lf pc ok_X12_next_94) (ok_lf pc ok_X12_next_91)) (ok_bf (ok_lf pc ok_X12_next_90) (ok_lf pc ok_X12_next_89))) (ok_bf (ok_bf (ok_lf pc ok_X12_next_86) (ok_lf pc ok_X12_next_83)) (ok_lf pc ok_X12_next_81)))) (ok_bf (ok_bf (ok_bf (ok_bf (ok_lf pc ok_X12_next_79) (ok_lf pc ok_X12_next_76)) (ok_bf (ok_lf pc ok_X12_next_73) (ok_lf pc ok_X12_next_72))) (ok_bf (ok_bf (ok_lf pc ok_X12_next_71) (ok_lf pc ok_X12_next_68)) (ok_lf pc ok_X12_next_67))) (ok_bf (ok_bf (ok_bf (ok_lf pc ok_X12_next_66) (ok_lf pc ok_X12_next_63)) (ok_bf (ok_lf pc ok_X12_next_60) (ok_lf pc ok_X12_next_58))) (ok_bf (ok_bf (ok_lf pc ok_X12_next_56) (ok_lf pc ok_X12_next_55)) (ok_lf pc ok_X12_next_52))))) (ok_bf (ok_bf (ok_bf (ok_bf (ok_bf (ok_lf pc ok_X12_next_49) (ok_lf pc ok_X12_next_48)) (ok_bf (ok_lf pc ok_X12_next_47) (ok_lf pc ok_X12_next_44))) (ok_bf (ok_bf (ok_lf pc ok_X12_next_43) (ok_lf pc ok_X12_next_42)) (ok_lf pc ok_X12_next_39))) (ok_bf (ok_bf (ok_bf (ok_lf pc ok_X12_next_36) (ok_lf pc ok_X12_next_35)) (ok_bf (ok_lf pc ok_X12_next_34) (ok_lf pc ok_X12_next_31))) (ok_bf (ok_bf (ok_lf pc ok_X12_next_28) (ok_lf pc ok_X12_next_27)) (ok_lf pc ok_X12_next_26)))) (ok_bf (ok_bf (ok_bf (ok_bf (ok_lf pc ok_X12_next_23) (ok_lf pc ok_X12_next_20)) (ok_bf (ok_lf pc ok_X12_next_19) (ok_lf pc ok_X12_next_18))) (ok_bf (ok_bf (ok_lf pc ok_X12_next_15) (ok_lf pc ok_X12_next_14)) (ok_lf pc ok_X12_next_13))) (ok_bf (ok_bf (ok_bf (ok_lf pc ok_X12_next_10) (ok_lf pc ok_X12_next_8)) (ok_lf pc ok_X12_next_5)) (ok_bf (ok_bf (ok_lf pc ok_X12_next_2) (ok_lf pc ok_X12_next_1)) (ok_lf pc ok_X12_next_0)))))))
theorem mo_X12_next (pc : Nat) : mo_S (cd_X12_next pc) :=
  (mo_bf (mo_bf (mo_bf (mo_bf (mo_bf (mo_bf (mo_bf (mo_bf mo_retv mo_no) (mo_bf mo_pi mo_no)) (mo_bf (mo_bf mo_i2 mo_no) (mo_bf mo_push mo_no))) (mo_bf (mo_bf (mo_bf mo_gi mo_no) (mo_bf mo_dup mo_no)) (mo_bf mo_ld mo_no))) (mo_bf (mo_bf (mo_bf (mo_bf mo_pi mo_no) (mo_bf mo_i2 mo_no)) (mo_bf (mo_bf mo_ld mo_no) (mo_bf mo_push mo_no))) (mo_bf (mo_bf (mo_bf mo_ld mo_no) (mo_bf mo_go mo_no)) (mo_bf mo_pi mo_no)))) (mo_bf (mo_bf (mo_bf (mo_bf (mo_bf mo_i2 mo_no) (mo_bf mo_push mo_no)) (mo_bf (mo_bf mo_gi mo_no) (mo_bf mo_dup mo_no))) (mo_bf (mo_bf (mo_bf mo_ld mo_no) (mo_bf mo_pi mo_no)) (mo_bf mo_i2 mo_no))) (mo_bf (mo_bf (mo_bf (mo_bf mo_push mo_no) (mo_bf mo_i2 mo_no)) (mo_bf (mo_bf mo_cv mo_no) (mo_bf mo_gi mo_no))) (mo_bf (mo_bf (mo_bf mo_ld mo_no) (mo_bf mo_ld mo_no)) (mo_bf mo_i2 mo_no))))) (mo_bf (mo_bf (mo_bf (mo_bf (mo_bf (mo_bf mo_gi mo_no) (mo_bf mo_ld mo_no)) (mo_bf (mo_bf mo_push mo_no) (mo_bf mo_go mo_no))) (mo_bf (mo_bf (mo_bf mo_push mo_no) (mo_bf mo_ic mo_no)) (mo_bf mo_push mo_no))) (mo_bf (mo_bf (mo_bf (mo_bf mo_i2 mo_no) (mo_bf mo_gi mo_no)) (mo_bf (mo_bf mo_ld mo_no) (mo_bf mo_gi mo_no))) (mo_bf (mo_bf (mo_bf mo_ld mo_no) (mo_bf mo_ld mo_no)) (mo_bf mo_if mo_no)))) (mo_bf (mo_bf (mo_bf (mo_bf (mo_bf mo_cs mo_no) (mo_bf mo_push mo_no)) (mo_bf (mo_bf mo_push mo_no) (mo_bf mo_cv mo_no))) (mo_bf (mo_bf (mo_bf mo_gi mo_no) (mo_bf mo_ld mo_no)) (mo_bf mo_ld mo_no))) (mo_bf (mo_bf (mo_bf (mo_bf mo_pi mo_no) (mo_bf mo_push mo_no)) (mo_bf (mo_bf mo_ld mo_no) (mo_bf mo_pi mo_no))) (mo_bf (mo_bf (mo_bf mo_push mo_no) (mo_bf mo_ld mo_no)) (mo_bf mo_if mo_no)))))) (mo_bf (mo_bf (mo_bf (mo_bf (mo_bf (mo_bf (mo_bf mo_cs mo_no) (mo_bf mo_push mo_no)) (mo_bf (mo_bf mo_push mo_no) (mo_bf mo_ld mo_no))) (mo_bf (mo_bf (mo_bf mo_go mo_no) (mo_bf mo_pi mo_no)) (mo_bf mo_i2 mo_no))) (mo_bf (mo_bf (mo_bf (mo_bf mo_push mo_no) (mo_bf mo_gi mo_no)) (mo_bf (mo_bf mo_dup mo_no) (mo_bf mo_ld mo_no))) (mo_bf (mo_bf (mo_bf mo_if mo_no) (mo_bf mo_cs mo_no)) (mo_bf mo_push mo_no)))) (mo_bf (mo_bf (mo_bf (mo_bf (mo_bf mo_push mo_no) (mo_bf mo_cv mo_no)) (mo_bf (mo_bf mo_gi mo_no) (mo_bf mo_ld mo_no))) (mo_bf (mo_bf (mo_bf mo_ld mo_no) (mo_bf mo_pi mo_no)) (mo_bf mo_push mo_no))) (mo_bf (mo_bf (mo_bf (mo_bf mo_ld mo_no) (mo_bf mo_if mo_no)) (mo_bf (mo_bf mo_cs mo_no) (mo_bf mo_push mo_no))) (mo_bf (mo_bf (mo_bf mo_push mo_no) (mo_bf mo_ld mo_no)) (mo_bf mo_go mo_no))))) (mo_bf (mo_bf (mo_bf (mo_bf (mo_bf (mo_bf mo_pi mo_no) (mo_bf mo_push mo_no)) (mo_bf (mo_bf mo_ld mo_no) (mo_bf mo_if mo_no))) (mo_bf (mo_bf (mo_bf mo_ld mo_no) (mo_bf mo_st mo_no)) (mo_bf mo_cv mo_no))) (mo_bf (mo_bf (mo_bf (mo_bf mo_gi mo_no) (mo_bf mo_ld mo_no)) (mo_bf (mo_bf mo_ld mo_no) (mo_bf mo_pi mo_no))) (mo_bf (mo_bf (mo_bf mo_gi mo_no) (mo_bf mo_ld mo_no)) (mo_bf mo_ld mo_no)))) (mo_bf (mo_bf (mo_bf (mo_bf (mo_bf mo_go mo_no) (mo_bf mo_pi mo_no)) (mo_bf (mo_bf mo_i2 mo_no) (mo_bf mo_push mo_no))) (mo_bf (mo_bf (mo_bf mo_gi mo_no) (mo_bf mo_dup mo_no)) (mo_bf mo_ld mo_no))) (mo_bf (mo_bf (mo_bf (mo_bf mo_ic mo_no) (mo_bf mo_push mo_no)) (mo_bf mo_cv mo_no)) (mo_bf (mo_bf (mo_bf mo_gi mo_no) (mo_bf mo_ld mo_no)) (mo_bf mo_ld mo_no)))))))
theorem ok_X12_isName_0 : ok_S 166 0 (sf_ld 2 0 1) := ok_aload_n (by decide +kernel : decode (mb_ 166) 0 = .ok (.aload_n 0, 1)) rfl
theorem ok_X12_isName_1 : ok_S 166 1 (sf_gi 13 13 8 4) := ok_gi fd_13_8 (by decide +kernel : decode (mb_ 166) 1 = .ok (.getfield 76, 3)) tw_1134 (Or.inl rfl) rfl
theorem ok_X12_isName_4 : ok_S 166 4 (sf_push (0, 1) 5) := ok_iconst (by decide +kernel : decode (mb_ 166) 4 = .ok (.iconst 1, 1)) ⟨by decide, by decide⟩
theorem ok_X12_isName_5 : ok_S 166 5 (sf_ic 1 28 8) := ok_ic1 (by decide +kernel : decode (mb_ 166) 5 = .ok (.if_icmp .ne 23, 3)) (by decide)
theorem ok_X12_isName_8 : ok_S 166 8 (sf_ld 2 0 9) := ok_aload_n (by decide +kernel : decode (mb_ 166) 8 = .ok (.aload_n 0, 1)) rfl
theorem ok_X12_isName_9 : ok_S 166 9 (sf_gi 13 13 6 12) := ok_gi fd_13_6 (by decide +kernel : decode (mb_ 166) 9 = .ok (.getfield 66, 3)) tw_1132 (Or.inl rfl) rfl
theorem ok_X12_isName_12 : ok_S 166 12 (sf_ld 2 0 13) := ok_aload_n (by decide +kernel : decode (mb_ 166) 12 = .ok (.aload_n 0, 1)) rfl
theorem ok_X12_isName_13 : ok_S 166 13 (sf_gi 13 13 7 16) := ok_gi fd_13_7 (by decide +kernel : decode (mb_ 166) 13 = .ok (.getfield 73, 3)) tw_1133 (Or.inl rfl) rfl
theorem ok_X12_isName_16 : ok_S 166 16 (sf_i2 mx_sub 17) := ok_isub (by decide +kernel : decode (mb_ 166) 16 = .ok (.isub, 1))
theorem ok_X12_isName_17 : ok_S 166 17 (sf_ld 2 1 18) := ok_aload_n (by decide +kernel : decode (mb_ 166) 17 = .ok (.aload_n 1, 1)) rfl
theorem ok_X12_isName_18 : ok_S 166 18 (sf_cv 30 [2] 249 21) := ok_cvs mt_249 rfl (by decide +kernel : decode (mb_ 166) 18 = .ok (.invokevirtual 82, 3)) tw_1238 tw_304 tw_305 tw_9 rfl (by decide +kernel) (mh_ok rfl) (by decide) (by decide)
theorem ok_X12_isName_21 : ok_S 166 21 (sf_ic 1 28 24) := ok_ic1 (by decide +kernel : decode (mb_ 166) 21 = .ok (.if_icmp .ne 7, 3)) (by decide)
theorem ok_X12_isName_24 : ok_S 166 24 (sf_push (0, 1) 25) := ok_iconst (by decide +kernel : decode (mb_ 166) 24 = .ok (.iconst 1, 1)) ⟨by decide, by decide⟩
theorem ok_X12_isName_25 : ok_S 166 25 (sf_go 29) := ok_goto (by decide +kernel : decode (mb_ 166) 25 = .ok (.goto 4, 3)) (by decide)
theorem ok_X12_isName_28 : ok_S 166 28 (sf_push (0, 0) 29) := ok_iconst (by decide +kernel : decode (mb_ 166) 28 = .ok (.iconst 0, 1)) ⟨by decide, by decide⟩
theorem ok_X12_isName_29 : ok_S 166 29 (sf_st 0 2 30) := ok_istore_n (by decide +kernel : decode (mb_ 166) 29 = .ok (.istore_n 2, 1)) rfl
theorem ok_X12_isName_30 : ok_S 166 30 (sf_push (0, 0) 31) := ok_iconst (by decide +kernel : decode (mb_ 166) 30 = .ok (.iconst 0, 1)) ⟨by decide, by decide⟩
theorem ok_X12_isName_31 : ok_S 166 31 (sf_st 0 3 32) := ok_istore_n (by decide +kernel : decode (mb_ 166) 31 = .ok (.istore_n 3, 1)) rfl
theorem ok_X12_isName_32 : ok_S 166 32 (sf_ld 0 3 33) := ok_iload_n (by decide +kernel : decode (mb_ 166) 32 = .ok (.iload_n 3, 1)) rfl
theorem ok_X12_isName_33 : ok_S 166 33 (sf_ld 2 1 34) := ok_aload_n (by decide +kernel : decode (mb_ 166) 33 = .ok (.aload_n 1, 1)) rfl
theorem ok_X12_isName_34 : ok_S 166 34 (sf_cv 30 [2] 249 37) := ok_cvs mt_249 rfl (by decide +kernel : decode (mb_ 166) 34 = .ok (.invokevirtual 82, 3)) tw_1238 tw_304 tw_305 tw_9 rfl (by decide +kernel) (mh_ok rfl) (by decide) (by decide)
theorem ok_X12_isName_37 : ok_S 166 37 (sf_ic 3 75 40) := ok_ic3 (by decide +kernel : decode (mb_ 166) 37 = .ok (.if_icmp .ge 38, 3)) (by decide)
theorem ok_X12_isName_40 : ok_S 166 40 (sf_ld 0 2 41) := ok_iload_n (by decide +kernel : decode (mb_ 166) 40 = .ok (.iload_n 2, 1)) rfl
theorem ok_X12_isName_41 : ok_S 166 41 (sf_if 0 75 44) := ok_if0 (by decide +kernel : decode (mb_ 166) 41 = .ok (.ifCond .eq 34, 3)) (by decide)
theorem ok_X12_isName_44 : ok_S 166 44 (sf_ld 2 0 45) := ok_aload_n (by decide +kernel : decode (mb_ 166) 44 = .ok (.aload_n 0, 1)) rfl
theorem ok_X12_isName_45 : ok_S 166 45 (sf_gr 13 13 4 48) := ok_gr fd_13_4 (by decide +kernel : decode (mb_ 166) 45 = .ok (.getfield 19, 3)) tw_1130 (Or.inl rfl) rfl
theorem ok_X12_isName_48 : ok_S 166 48 (sf_ld 2 0 49) := ok_aload_n (by decide +kernel : decode (mb_ 166) 48 = .ok (.aload_n 0, 1)) rfl
theorem ok_X12_isName_49 : ok_S 166 49 (sf_gi 13 13 7 52) := ok_gi fd_13_7 (by decide +kernel : decode (mb_ 166) 49 = .ok (.getfield 73, 3)) tw_1133 (Or.inl rfl) rfl
theorem ok_X12_isName_52 : ok_S 166 52 (sf_ld 0 3 53) := ok_iload_n (by decide +kernel : decode (mb_ 166) 52 = .ok (.iload_n 3, 1)) rfl
theorem ok_X12_isName_53 : ok_S 166 53 (sf_i2 mx_add 54) := ok_iadd (by decide +kernel : decode (mb_ 166) 53 = .ok (.iadd, 1))
theorem ok_X12_isName_54 : ok_S 166 54 (sf_iald 55) := ok_iald (by decide +kernel : decode (mb_ 166) 54 = .ok (.iaload, 1))
theorem ok_X12_isName_55 : ok_S 166 55 (sf_ld 2 1 56) := ok_aload_n (by decide +kernel : decode (mb_ 166) 55 = .ok (.aload_n 1, 1)) rfl
theorem ok_X12_isName_56 : ok_S 166 56 (sf_ld 0 3 57) := ok_iload_n (by decide +kernel : decode (mb_ 166) 56 = .ok (.iload_n 3, 1)) rfl
theorem ok_X12_isName_57 : ok_S 166 57 (sf_cv 30 [2, 0] 250 60) := ok_cvs mt_250 rfl (by decide +kernel : decode (mb_ 166) 57 = .ok (.invokevirtual 88, 3)) tw_1239 tw_314 tw_315 tw_9 rfl (by decide +kernel) (mh_ok rfl) (by decide) (by decide)
theorem ok_X12_isName_60 : ok_S 166 60 (sf_ic 1 67 63) := ok_ic1 (by decide +kernel : decode (mb_ 166) 60 = .ok (.if_icmp .ne 7, 3)) (by decide)
theorem ok_X12_isName_63 : ok_S 166 63 (sf_push (0, 1) 64) := ok_iconst (by decide +kernel : decode (mb_ 166) 63 = .ok (.iconst 1, 1)) ⟨by decide, by decide⟩
theorem ok_X12_isName_64 : ok_S 166 64 (sf_go 68) := ok_goto (by decide +kernel : decode (mb_ 166) 64 = .ok (.goto 4, 3)) (by decide)
theorem ok_X12_isName_67 : ok_S 166 67 (sf_push (0, 0) 68) := ok_iconst (by decide +kernel : decode (mb_ 166) 67 = .ok (.iconst 0, 1)) ⟨by decide, by decide⟩
theorem ok_X12_isName_68 : ok_S 166 68 (sf_st 0 2 69) := ok_istore_n (by decide +kernel : decode (mb_ 166) 68 = .ok (.istore_n 2, 1)) rfl
theorem ok_X12_isName_69 : ok_S 166 69 (sf_inc 3 1 72) := ok_iinc (by decide +kernel : decode (mb_ 166) 69 = .ok (.iinc 3 1, 3))
theorem ok_X12_isName_72 : ok_S 166 72 (sf_go 32) := ok_goto (by decide +kernel : decode (mb_ 166) 72 = .ok (.goto (-40), 3)) (by decide)
theorem ok_X12_isName_75 : ok_S 166 75 (sf_ld 0 2 76) := ok_iload_n (by decide +kernel : decode (mb_ 166) 75 = .ok (.iload_n 2, 1)) rfl
theorem ok_X12_isName_76 : ok_S 166 76 (sf_rr 0 1) := ok_rr (by decide +kernel : decode (mb_ 166) 76 = .ok (.ireturn, 1)) rfl (so_nz .boolean rfl rfl)
theorem ok_X12_isName (pc : Nat) : ok_S 166 pc (cd_X12_isName pc) :=
  (ok_bf (ok_bf (ok_bf (ok_bf (ok_bf (ok_bf (ok_lf pc ok_X12_isName_76) (ok_lf pc ok_X12_isName_75)) (ok_lf pc ok_X12_isName_72)) (ok_bf (ok_bf (ok_lf pc ok_X12_isName_69) (ok_lf pc ok_X12_isName_68)) (ok_lf pc ok_X12_isName_67))) (ok_bf (ok_bf (ok_bf (ok_lf pc ok_X12_isName_64) (ok_lf pc ok_X12_isName_63)) (ok_lf pc ok_X12_isName_60)) (ok_bf (ok_lf pc ok_X12_isName_57) (ok_lf pc ok_X12_isName_56)))) (ok_bf (ok_bf (ok_bf (ok_bf (ok_lf pc ok_X12_isName_55) (ok_lf pc ok_X12_isName_54)) (ok_lf pc ok_X12_isName_53)) (ok_bf (ok_bf (ok_lf pc ok_X12_isName_52) (ok_lf pc ok_X12_isName_49)) (ok_lf pc ok_X12_isName_48))) (ok_bf (ok_bf (ok_bf (ok_lf pc ok_X12_isName_45) (ok_lf pc ok_X12_isName_44)) (ok_lf pc ok_X12_isName_41)) (ok_bf (ok_lf pc ok_X12_isName_40) (ok_lf pc ok_X12_isName_37))))) (ok_bf (ok_bf (ok_bf (ok_bf (ok_bf (ok_lf pc ok_X12_isName_34) (ok_lf pc ok_X12_isName_33)) (ok_lf pc ok_X12_isName_32)) (ok_bf (ok_bf (ok_lf pc ok_X12_isName_31) (ok_lf pc ok_X12_isName_30)) (ok_lf pc ok_X12_isName_29))) (ok_bf (ok_bf (ok_bf (ok_lf pc ok_X12_isName_28) (ok_lf pc ok_X12_isName_25)) (ok_lf pc ok_X12_isName_24)) (ok_bf (ok_lf pc ok_X12_isName_21) (ok_lf pc ok_X12_isName_18)))) (ok_bf (ok_bf (ok_bf (ok_bf (ok_lf pc ok_X12_isName_17) (ok_lf pc ok_X12_isName_16)) (ok_lf pc ok_X12_isName_13)) (ok_bf (ok_lf pc ok_X12_isName_12) (ok_lf pc ok_X12_isName_9))) (ok_bf (ok_bf (ok_bf (ok_lf pc ok_X12_isName_8) (ok_lf pc ok_X12_isName_5)) (ok_lf pc ok_X12_isName_4)) (ok_bf (ok_lf pc ok_X12_isName_1) (ok_lf pc ok_X12_isName_0))))))
theorem mo_X12_isName (pc : Nat) : mo_S (cd_X12_isName pc) :=
  (mo_bf (mo_bf (mo_bf (mo_bf (mo_bf (mo_bf (mo_bf mo_rr mo_no) (mo_bf mo_ld mo_no)) (mo_bf mo_go mo_no)) (mo_bf (mo_bf (mo_bf mo_inc mo_no) (mo_bf mo_st mo_no)) (mo_bf mo_push mo_no))) (mo_bf (mo_bf (mo_bf (mo_bf mo_go mo_no) (mo_bf mo_push mo_no)) (mo_bf mo_ic mo_no)) (mo_bf (mo_bf mo_cv mo_no) (mo_bf mo_ld mo_no)))) (mo_bf (mo_bf (mo_bf (mo_bf (mo_bf mo_ld mo_no) (mo_bf mo_iald mo_no)) (mo_bf mo_i2 mo_no)) (mo_bf (mo_bf (mo_bf mo_ld mo_no) (mo_bf mo_gi mo_no)) (mo_bf mo_ld mo_no))) (mo_bf (mo_bf (mo_bf (mo_bf mo_gr mo_no) (mo_bf mo_ld mo_no)) (mo_bf mo_if mo_no)) (mo_bf (mo_bf mo_ld mo_no) (mo_bf mo_ic mo_no))))) (mo_bf (mo_bf (mo_bf (mo_bf (mo_bf (mo_bf mo_cv mo_no) (mo_bf mo_ld mo_no)) (mo_bf mo_ld mo_no)) (mo_bf (mo_bf (mo_bf mo_st mo_no) (mo_bf mo_push mo_no)) (mo_bf mo_st mo_no))) (mo_bf (mo_bf (mo_bf (mo_bf mo_push mo_no) (mo_bf mo_go mo_no)) (mo_bf mo_push mo_no)) (mo_bf (mo_bf mo_ic mo_no) (mo_bf mo_cv mo_no)))) (mo_bf (mo_bf (mo_bf (mo_bf (mo_bf mo_ld mo_no) (mo_bf mo_i2 mo_no)) (mo_bf mo_gi mo_no)) (mo_bf (mo_bf mo_ld mo_no) (mo_bf mo_gi mo_no))) (mo_bf (mo_bf (mo_bf (mo_bf mo_ld mo_no) (mo_bf mo_ic mo_no)) (mo_bf mo_push mo_no)) (mo_bf (mo_bf mo_gi mo_no) (mo_bf mo_ld mo_no))))))
theorem ok_X12_takesByte_0 : ok_S 167 0 (sf_ld 2 0 1) := ok_aload_n (by decide +kernel : decode (mb_ 167) 0 = .ok (.aload_n 0, 1)) rfl
theorem ok_X12_takesByte_1 : ok_S 167 1 (sf_gi 13 13 8 4) := ok_gi fd_13_8 (by decide +kernel : decode (mb_ 167) 1 = .ok (.getfield 76, 3)) tw_1134 (Or.inl rfl) rfl
theorem ok_X12_takesByte_4 : ok_S 167 4 (sf_push (0, 3) 5) := ok_iconst (by decide +kernel : decode (mb_ 167) 4 = .ok (.iconst 3, 1)) ⟨by decide, by decide⟩
theorem ok_X12_takesByte_5 : ok_S 167 5 (sf_ld 0 1 6) := ok_iload_n (by decide +kernel : decode (mb_ 167) 5 = .ok (.iload_n 1, 1)) rfl
theorem ok_X12_takesByte_6 : ok_S 167 6 (sf_i2 mx_add 7) := ok_iadd (by decide +kernel : decode (mb_ 167) 6 = .ok (.iadd, 1))
theorem ok_X12_takesByte_7 : ok_S 167 7 (sf_ic 0 12 10) := ok_ic0 (by decide +kernel : decode (mb_ 167) 7 = .ok (.if_icmp .eq 5, 3)) (by decide)
theorem ok_X12_takesByte_10 : ok_S 167 10 (sf_push (0, 0) 11) := ok_iconst (by decide +kernel : decode (mb_ 167) 10 = .ok (.iconst 0, 1)) ⟨by decide, by decide⟩
theorem ok_X12_takesByte_11 : ok_S 167 11 (sf_rr 0 1) := ok_rr (by decide +kernel : decode (mb_ 167) 11 = .ok (.ireturn, 1)) rfl (so_nz .boolean rfl rfl)
theorem ok_X12_takesByte_12 : ok_S 167 12 (sf_ld 2 0 13) := ok_aload_n (by decide +kernel : decode (mb_ 167) 12 = .ok (.aload_n 0, 1)) rfl
theorem ok_X12_takesByte_13 : ok_S 167 13 (sf_cv 13 [2] 165 16) := ok_cv mt_165 cl_13 (by decide +kernel : decode (mb_ 167) 13 = .ok (.invokevirtual 92, 3)) tw_1221 tw_1223 ts_31 tw_7 rfl (by decide +kernel) (mh_ok rfl) (by decide) (by decide)
theorem ok_X12_takesByte_16 : ok_S 167 16 (sf_push (0, 1) 17) := ok_iconst (by decide +kernel : decode (mb_ 167) 16 = .ok (.iconst 1, 1)) ⟨by decide, by decide⟩
theorem ok_X12_takesByte_17 : ok_S 167 17 (sf_rr 0 1) := ok_rr (by decide +kernel : decode (mb_ 167) 17 = .ok (.ireturn, 1)) rfl (so_nz .boolean rfl rfl)
theorem ok_X12_takesByte (pc : Nat) : ok_S 167 pc (cd_X12_takesByte pc) :=
  (ok_bf (ok_bf (ok_bf (ok_bf (ok_lf pc ok_X12_takesByte_17) (ok_lf pc ok_X12_takesByte_16)) (ok_lf pc ok_X12_takesByte_13)) (ok_bf (ok_bf (ok_lf pc ok_X12_takesByte_12) (ok_lf pc ok_X12_takesByte_11)) (ok_lf pc ok_X12_takesByte_10))) (ok_bf (ok_bf (ok_bf (ok_lf pc ok_X12_takesByte_7) (ok_lf pc ok_X12_takesByte_6)) (ok_lf pc ok_X12_takesByte_5)) (ok_bf (ok_bf (ok_lf pc ok_X12_takesByte_4) (ok_lf pc ok_X12_takesByte_1)) (ok_lf pc ok_X12_takesByte_0))))
theorem mo_X12_takesByte (pc : Nat) : mo_S (cd_X12_takesByte pc) :=
  (mo_bf (mo_bf (mo_bf (mo_bf (mo_bf mo_rr mo_no) (mo_bf mo_push mo_no)) (mo_bf mo_cv mo_no)) (mo_bf (mo_bf (mo_bf mo_ld mo_no) (mo_bf mo_rr mo_no)) (mo_bf mo_push mo_no))) (mo_bf (mo_bf (mo_bf (mo_bf mo_ic mo_no) (mo_bf mo_i2 mo_no)) (mo_bf mo_ld mo_no)) (mo_bf (mo_bf (mo_bf mo_push mo_no) (mo_bf mo_gi mo_no)) (mo_bf mo_ld mo_no))))
theorem ok_X12_takesNumber_0 : ok_S 168 0 (sf_ld 2 0 1) := ok_aload_n (by decide +kernel : decode (mb_ 168) 0 = .ok (.aload_n 0, 1)) rfl
theorem ok_X12_takesNumber_1 : ok_S 168 1 (sf_gi 13 13 8 4) := ok_gi fd_13_8 (by decide +kernel : decode (mb_ 168) 1 = .ok (.getfield 76, 3)) tw_1134 (Or.inl rfl) rfl
theorem ok_X12_takesNumber_4 : ok_S 168 4 (sf_push (0, 2) 5) := ok_iconst (by decide +kernel : decode (mb_ 168) 4 = .ok (.iconst 2, 1)) ⟨by decide, by decide⟩
theorem ok_X12_takesNumber_5 : ok_S 168 5 (sf_ic 1 20 8) := ok_ic1 (by decide +kernel : decode (mb_ 168) 5 = .ok (.if_icmp .ne 15, 3)) (by decide)
theorem ok_X12_takesNumber_8 : ok_S 168 8 (sf_ld 2 0 9) := ok_aload_n (by decide +kernel : decode (mb_ 168) 8 = .ok (.aload_n 0, 1)) rfl
theorem ok_X12_takesNumber_9 : ok_S 168 9 (sf_gi 13 13 9 12) := ok_gi fd_13_9 (by decide +kernel : decode (mb_ 168) 9 = .ok (.getfield 79, 3)) tw_1135 (Or.inl rfl) rfl
theorem ok_X12_takesNumber_12 : ok_S 168 12 (sf_ld 0 1 13) := ok_iload_n (by decide +kernel : decode (mb_ 168) 12 = .ok (.iload_n 1, 1)) rfl
theorem ok_X12_takesNumber_13 : ok_S 168 13 (sf_ld 0 2 14) := ok_iload_n (by decide +kernel : decode (mb_ 168) 13 = .ok (.iload_n 2, 1)) rfl
theorem ok_X12_takesNumber_14 : ok_S 168 14 (sf_cs [0, 0, 0] 157 17) := ok_cs mt_157 (by decide +kernel : decode (mb_ 168) 14 = .ok (.invokestatic 56, 3)) tw_1206 tw_1207 tw_7 (by decide +kernel) (mh_ok rfl) (by decide) (by decide)
theorem ok_X12_takesNumber_17 : ok_S 168 17 (sf_if 1 22 20) := ok_if1 (by decide +kernel : decode (mb_ 168) 17 = .ok (.ifCond .ne 5, 3)) (by decide)
theorem ok_X12_takesNumber_20 : ok_S 168 20 (sf_push (0, 0) 21) := ok_iconst (by decide +kernel : decode (mb_ 168) 20 = .ok (.iconst 0, 1)) ⟨by decide, by decide⟩
theorem ok_X12_takesNumber_21 : ok_S 168 21 (sf_rr 0 1) := ok_rr (by decide +kernel : decode (mb_ 168) 21 = .ok (.ireturn, 1)) rfl (so_nz .boolean rfl rfl)
theorem ok_X12_takesNumber_22 : ok_S 168 22 (sf_ld 2 0 23) := ok_aload_n (by decide +kernel : decode (mb_ 168) 22 = .ok (.aload_n 0, 1)) rfl
theorem ok_X12_takesNumber_23 : ok_S 168 23 (sf_ld 2 0 24) := ok_aload_n (by decide +kernel : decode (mb_ 168) 23 = .ok (.aload_n 0, 1)) rfl
theorem ok_X12_takesNumber_24 : ok_S 168 24 (sf_gi 13 13 9 27) := ok_gi fd_13_9 (by decide +kernel : decode (mb_ 168) 24 = .ok (.getfield 79, 3)) tw_1135 (Or.inl rfl) rfl
theorem ok_X12_takesNumber_27 : ok_S 168 27 (sf_pi 13 13 10 30) := ok_pi fd_13_10 (by decide +kernel : decode (mb_ 168) 27 = .ok (.putfield 95, 3)) tw_1136 rfl (Or.inl ff_13_10) rfl
theorem ok_X12_takesNumber_30 : ok_S 168 30 (sf_ld 2 0 31) := ok_aload_n (by decide +kernel : decode (mb_ 168) 30 = .ok (.aload_n 0, 1)) rfl
theorem ok_X12_takesNumber_31 : ok_S 168 31 (sf_cv 13 [2] 165 34) := ok_cv mt_165 cl_13 (by decide +kernel : decode (mb_ 168) 31 = .ok (.invokevirtual 92, 3)) tw_1221 tw_1223 ts_31 tw_7 rfl (by decide +kernel) (mh_ok rfl) (by decide) (by decide)
theorem ok_X12_takesNumber_34 : ok_S 168 34 (sf_push (0, 1) 35) := ok_iconst (by decide +kernel : decode (mb_ 168) 34 = .ok (.iconst 1, 1)) ⟨by decide, by decide⟩
theorem ok_X12_takesNumber_35 : ok_S 168 35 (sf_rr 0 1) := ok_rr (by decide +kernel : decode (mb_ 168) 35 = .ok (.ireturn, 1)) rfl (so_nz .boolean rfl rfl)
theorem ok_X12_takesNumber (pc : Nat) : ok_S 168 pc (cd_X12_takesNumber pc) :=
  (ok_bf (ok_bf (ok_bf (ok_bf (ok_bf (ok_lf pc ok_X12_takesNumber_35) (ok_lf pc ok_X12_takesNumber_34)) (ok_lf pc ok_X12_takesNumber_31)) (ok_bf (ok_lf pc ok_X12_takesNumber_30) (ok_lf pc ok_X12_takesNumber_27))) (ok_bf (ok_bf (ok_bf (ok_lf pc ok_X12_takesNumber_24) (ok_lf pc ok_X12_takesNumber_23)) (ok_lf pc ok_X12_takesNumber_22)) (ok_bf (ok_lf pc ok_X12_takesNumber_21) (ok_lf pc ok_X12_takesNumber_20)))) (ok_bf (ok_bf (ok_bf (ok_bf (ok_lf pc ok_X12_takesNumber_17) (ok_lf pc ok_X12_takesNumber_14)) (ok_lf pc ok_X12_takesNumber_13)) (ok_bf (ok_lf pc ok_X12_takesNumber_12) (ok_lf pc ok_X12_takesNumber_9))) (ok_bf (ok_bf (ok_bf (ok_lf pc ok_X12_takesNumber_8) (ok_lf pc ok_X12_takesNumber_5)) (ok_lf pc ok_X12_takesNumber_4)) (ok_bf (ok_lf pc ok_X12_takesNumber_1) (ok_lf pc ok_X12_takesNumber_0)))))
theorem mo_X12_takesNumber (pc : Nat) : mo_S (cd_X12_takesNumber pc) :=
  (mo_bf (mo_bf (mo_bf (mo_bf (mo_bf (mo_bf mo_rr mo_no) (mo_bf mo_push mo_no)) (mo_bf mo_cv mo_no)) (mo_bf (mo_bf mo_ld mo_no) (mo_bf mo_pi mo_no))) (mo_bf (mo_bf (mo_bf (mo_bf mo_gi mo_no) (mo_bf mo_ld mo_no)) (mo_bf mo_ld mo_no)) (mo_bf (mo_bf mo_rr mo_no) (mo_bf mo_push mo_no)))) (mo_bf (mo_bf (mo_bf (mo_bf (mo_bf mo_if mo_no) (mo_bf mo_cs mo_no)) (mo_bf mo_ld mo_no)) (mo_bf (mo_bf mo_ld mo_no) (mo_bf mo_gi mo_no))) (mo_bf (mo_bf (mo_bf (mo_bf mo_ld mo_no) (mo_bf mo_ic mo_no)) (mo_bf mo_push mo_no)) (mo_bf (mo_bf mo_gi mo_no) (mo_bf mo_ld mo_no)))))
theorem ok_X12_kindNamed_0 : ok_S 169 0 (sf_ld 2 0 1) := ok_aload_n (by decide +kernel : decode (mb_ 169) 0 = .ok (.aload_n 0, 1)) rfl
theorem ok_X12_kindNamed_1 : ok_S 169 1 (sf_push (2, (-22)) 3) := ok_ldcs (tx := "note") (by decide +kernel : decode (mb_ 169) 1 = .ok (.ldc 98, 2)) (by decide) (List.mem_of_getElem? (i := 12) rfl)
theorem ok_X12_kindNamed_3 : ok_S 169 3 (sf_cv 13 [2, 2] 166 6) := ok_cv mt_166 cl_13 (by decide +kernel : decode (mb_ 169) 3 = .ok (.invokevirtual 100, 3)) tw_1234 tw_1236 ts_34 tw_7 rfl (by decide +kernel) (mh_ok rfl) (by decide) (by decide)
theorem ok_X12_kindNamed_6 : ok_S 169 6 (sf_if 0 13 9) := ok_if0 (by decide +kernel : decode (mb_ 169) 6 = .ok (.ifCond .eq 7, 3)) (by decide)
theorem ok_X12_kindNamed_9 : ok_S 169 9 (sf_push (0, 0) 10) := ok_iconst (by decide +kernel : decode (mb_ 169) 9 = .ok (.iconst 0, 1)) ⟨by decide, by decide⟩
theorem ok_X12_kindNamed_10 : ok_S 169 10 (sf_go 79) := ok_goto (by decide +kernel : decode (mb_ 169) 10 = .ok (.goto 69, 3)) (by decide)
theorem ok_X12_kindNamed_13 : ok_S 169 13 (sf_ld 2 0 14) := ok_aload_n (by decide +kernel : decode (mb_ 169) 13 = .ok (.aload_n 0, 1)) rfl
theorem ok_X12_kindNamed_14 : ok_S 169 14 (sf_push (2, (-23)) 16) := ok_ldcs (tx := "strokes") (by decide +kernel : decode (mb_ 169) 14 = .ok (.ldc 104, 2)) (by decide) (List.mem_of_getElem? (i := 13) rfl)
theorem ok_X12_kindNamed_16 : ok_S 169 16 (sf_cv 13 [2, 2] 166 19) := ok_cv mt_166 cl_13 (by decide +kernel : decode (mb_ 169) 16 = .ok (.invokevirtual 100, 3)) tw_1234 tw_1236 ts_34 tw_7 rfl (by decide +kernel) (mh_ok rfl) (by decide) (by decide)
theorem ok_X12_kindNamed_19 : ok_S 169 19 (sf_if 0 26 22) := ok_if0 (by decide +kernel : decode (mb_ 169) 19 = .ok (.ifCond .eq 7, 3)) (by decide)
theorem ok_X12_kindNamed_22 : ok_S 169 22 (sf_push (0, 1) 23) := ok_iconst (by decide +kernel : decode (mb_ 169) 22 = .ok (.iconst 1, 1)) ⟨by decide, by decide⟩
theorem ok_X12_kindNamed_23 : ok_S 169 23 (sf_go 79) := ok_goto (by decide +kernel : decode (mb_ 169) 23 = .ok (.goto 56, 3)) (by decide)
theorem ok_X12_kindNamed_26 : ok_S 169 26 (sf_ld 2 0 27) := ok_aload_n (by decide +kernel : decode (mb_ 169) 26 = .ok (.aload_n 0, 1)) rfl
theorem ok_X12_kindNamed_27 : ok_S 169 27 (sf_push (2, (-24)) 29) := ok_ldcs (tx := "broken") (by decide +kernel : decode (mb_ 169) 27 = .ok (.ldc 106, 2)) (by decide) (List.mem_of_getElem? (i := 14) rfl)
theorem ok_X12_kindNamed_29 : ok_S 169 29 (sf_cv 13 [2, 2] 166 32) := ok_cv mt_166 cl_13 (by decide +kernel : decode (mb_ 169) 29 = .ok (.invokevirtual 100, 3)) tw_1234 tw_1236 ts_34 tw_7 rfl (by decide +kernel) (mh_ok rfl) (by decide) (by decide)
theorem ok_X12_kindNamed_32 : ok_S 169 32 (sf_if 0 39 35) := ok_if0 (by decide +kernel : decode (mb_ 169) 32 = .ok (.ifCond .eq 7, 3)) (by decide)
theorem ok_X12_kindNamed_35 : ok_S 169 35 (sf_push (0, 2) 36) := ok_iconst (by decide +kernel : decode (mb_ 169) 35 = .ok (.iconst 2, 1)) ⟨by decide, by decide⟩
theorem ok_X12_kindNamed_36 : ok_S 169 36 (sf_go 79) := ok_goto (by decide +kernel : decode (mb_ 169) 36 = .ok (.goto 43, 3)) (by decide)
theorem ok_X12_kindNamed_39 : ok_S 169 39 (sf_ld 2 0 40) := ok_aload_n (by decide +kernel : decode (mb_ 169) 39 = .ok (.aload_n 0, 1)) rfl
theorem ok_X12_kindNamed_40 : ok_S 169 40 (sf_push (2, (-25)) 42) := ok_ldcs (tx := "left") (by decide +kernel : decode (mb_ 169) 40 = .ok (.ldc 108, 2)) (by decide) (List.mem_of_getElem? (i := 15) rfl)
theorem ok_X12_kindNamed_42 : ok_S 169 42 (sf_cv 13 [2, 2] 166 45) := ok_cv mt_166 cl_13 (by decide +kernel : decode (mb_ 169) 42 = .ok (.invokevirtual 100, 3)) tw_1234 tw_1236 ts_34 tw_7 rfl (by decide +kernel) (mh_ok rfl) (by decide) (by decide)
theorem ok_X12_kindNamed_45 : ok_S 169 45 (sf_if 0 52 48) := ok_if0 (by decide +kernel : decode (mb_ 169) 45 = .ok (.ifCond .eq 7, 3)) (by decide)
theorem ok_X12_kindNamed_48 : ok_S 169 48 (sf_push (0, 3) 49) := ok_iconst (by decide +kernel : decode (mb_ 169) 48 = .ok (.iconst 3, 1)) ⟨by decide, by decide⟩
theorem ok_X12_kindNamed_49 : ok_S 169 49 (sf_go 79) := ok_goto (by decide +kernel : decode (mb_ 169) 49 = .ok (.goto 30, 3)) (by decide)
theorem ok_X12_kindNamed_52 : ok_S 169 52 (sf_ld 2 0 53) := ok_aload_n (by decide +kernel : decode (mb_ 169) 52 = .ok (.aload_n 0, 1)) rfl
theorem ok_X12_kindNamed_53 : ok_S 169 53 (sf_push (2, (-26)) 55) := ok_ldcs (tx := "turned") (by decide +kernel : decode (mb_ 169) 53 = .ok (.ldc 110, 2)) (by decide) (List.mem_of_getElem? (i := 16) rfl)
theorem ok_X12_kindNamed_55 : ok_S 169 55 (sf_cv 13 [2, 2] 166 58) := ok_cv mt_166 cl_13 (by decide +kernel : decode (mb_ 169) 55 = .ok (.invokevirtual 100, 3)) tw_1234 tw_1236 ts_34 tw_7 rfl (by decide +kernel) (mh_ok rfl) (by decide) (by decide)
theorem ok_X12_kindNamed_58 : ok_S 169 58 (sf_if 0 65 61) := ok_if0 (by decide +kernel : decode (mb_ 169) 58 = .ok (.ifCond .eq 7, 3)) (by decide)
theorem ok_X12_kindNamed_61 : ok_S 169 61 (sf_push (0, 4) 62) := ok_iconst (by decide +kernel : decode (mb_ 169) 61 = .ok (.iconst 4, 1)) ⟨by decide, by decide⟩
theorem ok_X12_kindNamed_62 : ok_S 169 62 (sf_go 79) := ok_goto (by decide +kernel : decode (mb_ 169) 62 = .ok (.goto 17, 3)) (by decide)
theorem ok_X12_kindNamed_65 : ok_S 169 65 (sf_ld 2 0 66) := ok_aload_n (by decide +kernel : decode (mb_ 169) 65 = .ok (.aload_n 0, 1)) rfl
theorem ok_X12_kindNamed_66 : ok_S 169 66 (sf_push (2, (-27)) 68) := ok_ldcs (tx := "debt") (by decide +kernel : decode (mb_ 169) 66 = .ok (.ldc 112, 2)) (by decide) (List.mem_of_getElem? (i := 17) rfl)
theorem ok_X12_kindNamed_68 : ok_S 169 68 (sf_cv 13 [2, 2] 166 71) := ok_cv mt_166 cl_13 (by decide +kernel : decode (mb_ 169) 68 = .ok (.invokevirtual 100, 3)) tw_1234 tw_1236 ts_34 tw_7 rfl (by decide +kernel) (mh_ok rfl) (by decide) (by decide)
theorem ok_X12_kindNamed_71 : ok_S 169 71 (sf_if 0 78 74) := ok_if0 (by decide +kernel : decode (mb_ 169) 71 = .ok (.ifCond .eq 7, 3)) (by decide)
theorem ok_X12_kindNamed_74 : ok_S 169 74 (sf_push (0, 5) 75) := ok_iconst (by decide +kernel : decode (mb_ 169) 74 = .ok (.iconst 5, 1)) ⟨by decide, by decide⟩
theorem ok_X12_kindNamed_75 : ok_S 169 75 (sf_go 79) := ok_goto (by decide +kernel : decode (mb_ 169) 75 = .ok (.goto 4, 3)) (by decide)
theorem ok_X12_kindNamed_78 : ok_S 169 78 (sf_push (0, (-1)) 79) := ok_iconst (by decide +kernel : decode (mb_ 169) 78 = .ok (.iconst (-1), 1)) ⟨by decide, by decide⟩
theorem ok_X12_kindNamed_79 : ok_S 169 79 (sf_ret 0) := ok_ret0 (by decide +kernel : decode (mb_ 169) 79 = .ok (.ireturn, 1)) rfl
theorem ok_X12_kindNamed (pc : Nat) : ok_S 169 pc (cd_X12_kindNamed pc) :=
  (ok_bf (ok_bf (ok_bf (ok_bf (ok_bf (ok_bf (ok_lf pc ok_X12_kindNamed_79) (ok_lf pc ok_X12_kindNamed_78)) (ok_lf pc ok_X12_kindNamed_75)) (ok_bf (ok_lf pc ok_X12_kindNamed_74) (ok_lf pc ok_X12_kindNamed_71))) (ok_bf (ok_bf (ok_bf (ok_lf pc ok_X12_kindNamed_68) (ok_lf pc ok_X12_kindNamed_66)) (ok_lf pc ok_X12_kindNamed_65)) (ok_bf (ok_lf pc ok_X12_kindNamed_62) (ok_lf pc ok_X12_kindNamed_61)))) (ok_bf (ok_bf (ok_bf (ok_bf (ok_lf pc ok_X12_kindNamed_58) (ok_lf pc ok_X12_kindNamed_55)) (ok_lf pc ok_X12_kindNamed_53)) (ok_bf (ok_lf pc ok_X12_kindNamed_52) (ok_lf pc ok_X12_kindNamed_49))) (ok_bf (ok_bf (ok_lf pc ok_X12_kindNamed_48) (ok_lf pc ok_X12_kindNamed_45)) (ok_bf (ok_lf pc ok_X12_kindNamed_42) (ok_lf pc ok_X12_kindNamed_40))))) (ok_bf (ok_bf (ok_bf (ok_bf (ok_bf (ok_lf pc ok_X12_kindNamed_39) (ok_lf pc ok_X12_kindNamed_36)) (ok_lf pc ok_X12_kindNamed_35)) (ok_bf (ok_lf pc ok_X12_kindNamed_32) (ok_lf pc ok_X12_kindNamed_29))) (ok_bf (ok_bf (ok_bf (ok_lf pc ok_X12_kindNamed_27) (ok_lf pc ok_X12_kindNamed_26)) (ok_lf pc ok_X12_kindNamed_23)) (ok_bf (ok_lf pc ok_X12_kindNamed_22) (ok_lf pc ok_X12_kindNamed_19)))) (ok_bf (ok_bf (ok_bf (ok_bf (ok_lf pc ok_X12_kindNamed_16) (ok_lf pc ok_X12_kindNamed_14)) (ok_lf pc ok_X12_kindNamed_13)) (ok_bf (ok_lf pc ok_X12_kindNamed_10) (ok_lf pc ok_X12_kindNamed_9))) (ok_bf (ok_bf (ok_lf pc ok_X12_kindNamed_6) (ok_lf pc ok_X12_kindNamed_3)) (ok_bf (ok_lf pc ok_X12_kindNamed_1) (ok_lf pc ok_X12_kindNamed_0))))))
theorem mo_X12_kindNamed (pc : Nat) : mo_S (cd_X12_kindNamed pc) :=
  (mo_bf (mo_bf (mo_bf (mo_bf (mo_bf (mo_bf (mo_bf mo_ret mo_no) (mo_bf mo_push mo_no)) (mo_bf mo_go mo_no)) (mo_bf (mo_bf mo_push mo_no) (mo_bf mo_if mo_no))) (mo_bf (mo_bf (mo_bf (mo_bf mo_cv mo_no) (mo_bf mo_push mo_no)) (mo_bf mo_ld mo_no)) (mo_bf (mo_bf mo_go mo_no) (mo_bf mo_push mo_no)))) (mo_bf (mo_bf (mo_bf (mo_bf (mo_bf mo_if mo_no) (mo_bf mo_cv mo_no)) (mo_bf mo_push mo_no)) (mo_bf (mo_bf mo_ld mo_no) (mo_bf mo_go mo_no))) (mo_bf (mo_bf (mo_bf mo_push mo_no) (mo_bf mo_if mo_no)) (mo_bf (mo_bf mo_cv mo_no) (mo_bf mo_push mo_no))))) (mo_bf (mo_bf (mo_bf (mo_bf (mo_bf (mo_bf mo_ld mo_no) (mo_bf mo_go mo_no)) (mo_bf mo_push mo_no)) (mo_bf (mo_bf mo_if mo_no) (mo_bf mo_cv mo_no))) (mo_bf (mo_bf (mo_bf (mo_bf mo_push mo_no) (mo_bf mo_ld mo_no)) (mo_bf mo_go mo_no)) (mo_bf (mo_bf mo_push mo_no) (mo_bf mo_if mo_no)))) (mo_bf (mo_bf (mo_bf (mo_bf (mo_bf mo_cv mo_no) (mo_bf mo_push mo_no)) (mo_bf mo_ld mo_no)) (mo_bf (mo_bf mo_go mo_no) (mo_bf mo_push mo_no))) (mo_bf (mo_bf (mo_bf mo_if mo_no) (mo_bf mo_cv mo_no)) (mo_bf (mo_bf mo_push mo_no) (mo_bf mo_ld mo_no))))))
theorem ok_X12_takesNote_0 : ok_S 170 0 (sf_ld 2 0 1) := ok_aload_n (by decide +kernel : decode (mb_ 170) 0 = .ok (.aload_n 0, 1)) rfl
theorem ok_X12_takesNote_1 : ok_S 170 1 (sf_gr 13 13 0 4) := ok_gr fd_13_0 (by decide +kernel : decode (mb_ 170) 1 = .ok (.getfield 7, 3)) tw_1126 (Or.inl rfl) rfl
theorem ok_X12_takesNote_4 : ok_S 170 4 (sf_push (0, 0) 5) := ok_iconst (by decide +kernel : decode (mb_ 170) 4 = .ok (.iconst 0, 1)) ⟨by decide, by decide⟩
theorem ok_X12_takesNote_5 : ok_S 170 5 (sf_iald 6) := ok_iald (by decide +kernel : decode (mb_ 170) 5 = .ok (.iaload, 1))
theorem ok_X12_takesNote_6 : ok_S 170 6 (sf_push (0, 6) 8) := ok_bipush (by decide +kernel : decode (mb_ 170) 6 = .ok (.bipush 6, 2)) ⟨by decide, by decide⟩ (by decide +kernel)
theorem ok_X12_takesNote_8 : ok_S 170 8 (sf_ic 1 13 11) := ok_ic1 (by decide +kernel : decode (mb_ 170) 8 = .ok (.if_icmp .ne 5, 3)) (by decide)
theorem ok_X12_takesNote_11 : ok_S 170 11 (sf_push (0, 0) 12) := ok_iconst (by decide +kernel : decode (mb_ 170) 11 = .ok (.iconst 0, 1)) ⟨by decide, by decide⟩
theorem ok_X12_takesNote_12 : ok_S 170 12 (sf_rr 0 1) := ok_rr (by decide +kernel : decode (mb_ 170) 12 = .ok (.ireturn, 1)) rfl (so_nz .boolean rfl rfl)
theorem ok_X12_takesNote_13 : ok_S 170 13 (sf_ld 2 0 14) := ok_aload_n (by decide +kernel : decode (mb_ 170) 13 = .ok (.aload_n 0, 1)) rfl
theorem ok_X12_takesNote_14 : ok_S 170 14 (sf_cv 13 [2] 165 17) := ok_cv mt_165 cl_13 (by decide +kernel : decode (mb_ 170) 14 = .ok (.invokevirtual 92, 3)) tw_1221 tw_1223 ts_31 tw_7 rfl (by decide +kernel) (mh_ok rfl) (by decide) (by decide)
theorem ok_X12_takesNote_17 : ok_S 170 17 (sf_push (0, 9) 19) := ok_bipush (by decide +kernel : decode (mb_ 170) 17 = .ok (.bipush 9, 2)) ⟨by decide, by decide⟩ (by decide +kernel)
theorem ok_X12_takesNote_19 : ok_S 170 19 (sf_push (0, 10) 21) := ok_bipush (by decide +kernel : decode (mb_ 170) 19 = .ok (.bipush 10, 2)) ⟨by decide, by decide⟩ (by decide +kernel)
theorem ok_X12_takesNote_21 : ok_S 170 21 (sf_ld 2 0 22) := ok_aload_n (by decide +kernel : decode (mb_ 170) 21 = .ok (.aload_n 0, 1)) rfl
theorem ok_X12_takesNote_22 : ok_S 170 22 (sf_gr 13 13 0 25) := ok_gr fd_13_0 (by decide +kernel : decode (mb_ 170) 22 = .ok (.getfield 7, 3)) tw_1126 (Or.inl rfl) rfl
theorem ok_X12_takesNote_25 : ok_S 170 25 (sf_push (0, 0) 26) := ok_iconst (by decide +kernel : decode (mb_ 170) 25 = .ok (.iconst 0, 1)) ⟨by decide, by decide⟩
theorem ok_X12_takesNote_26 : ok_S 170 26 (sf_iald 27) := ok_iald (by decide +kernel : decode (mb_ 170) 26 = .ok (.iaload, 1))
theorem ok_X12_takesNote_27 : ok_S 170 27 (sf_i2 mx_mul 28) := ok_imul (by decide +kernel : decode (mb_ 170) 27 = .ok (.imul, 1))
theorem ok_X12_takesNote_28 : ok_S 170 28 (sf_i2 mx_add 29) := ok_iadd (by decide +kernel : decode (mb_ 170) 28 = .ok (.iadd, 1))
theorem ok_X12_takesNote_29 : ok_S 170 29 (sf_st 0 2 30) := ok_istore_n (by decide +kernel : decode (mb_ 170) 29 = .ok (.istore_n 2, 1)) rfl
theorem ok_X12_takesNote_30 : ok_S 170 30 (sf_ld 2 0 31) := ok_aload_n (by decide +kernel : decode (mb_ 170) 30 = .ok (.aload_n 0, 1)) rfl
theorem ok_X12_takesNote_31 : ok_S 170 31 (sf_push (0, 0) 32) := ok_iconst (by decide +kernel : decode (mb_ 170) 31 = .ok (.iconst 0, 1)) ⟨by decide, by decide⟩
theorem ok_X12_takesNote_32 : ok_S 170 32 (sf_push (0, 2) 33) := ok_iconst (by decide +kernel : decode (mb_ 170) 32 = .ok (.iconst 2, 1)) ⟨by decide, by decide⟩
theorem ok_X12_takesNote_33 : ok_S 170 33 (sf_cv 13 [2, 0, 0] 168 36) := ok_cv mt_168 cl_13 (by decide +kernel : decode (mb_ 170) 33 = .ok (.invokevirtual 114, 3)) tw_1253 tw_1255 ts_36 tw_7 rfl (by decide +kernel) (mh_ok rfl) (by decide) (by decide)
theorem ok_X12_takesNote_36 : ok_S 170 36 (sf_if 1 41 39) := ok_if1 (by decide +kernel : decode (mb_ 170) 36 = .ok (.ifCond .ne 5, 3)) (by decide)
theorem ok_X12_takesNote_39 : ok_S 170 39 (sf_push (0, 0) 40) := ok_iconst (by decide +kernel : decode (mb_ 170) 39 = .ok (.iconst 0, 1)) ⟨by decide, by decide⟩
theorem ok_X12_takesNote_40 : ok_S 170 40 (sf_rr 0 1) := ok_rr (by decide +kernel : decode (mb_ 170) 40 = .ok (.ireturn, 1)) rfl (so_nz .boolean rfl rfl)
theorem ok_X12_takesNote_41 : ok_S 170 41 (sf_ld 2 0 42) := ok_aload_n (by decide +kernel : decode (mb_ 170) 41 = .ok (.aload_n 0, 1)) rfl
theorem ok_X12_takesNote_42 : ok_S 170 42 (sf_gr 13 13 0 45) := ok_gr fd_13_0 (by decide +kernel : decode (mb_ 170) 42 = .ok (.getfield 7, 3)) tw_1126 (Or.inl rfl) rfl
theorem ok_X12_takesNote_45 : ok_S 170 45 (sf_ld 0 2 46) := ok_iload_n (by decide +kernel : decode (mb_ 170) 45 = .ok (.iload_n 2, 1)) rfl
theorem ok_X12_takesNote_46 : ok_S 170 46 (sf_push (0, 0) 47) := ok_iconst (by decide +kernel : decode (mb_ 170) 46 = .ok (.iconst 0, 1)) ⟨by decide, by decide⟩
theorem ok_X12_takesNote_47 : ok_S 170 47 (sf_i2 mx_add 48) := ok_iadd (by decide +kernel : decode (mb_ 170) 47 = .ok (.iadd, 1))
theorem ok_X12_takesNote_48 : ok_S 170 48 (sf_ld 0 1 49) := ok_iload_n (by decide +kernel : decode (mb_ 170) 48 = .ok (.iload_n 1, 1)) rfl
theorem ok_X12_takesNote_49 : ok_S 170 49 (sf_iast 50) := ok_iast (by decide +kernel : decode (mb_ 170) 49 = .ok (.iastore, 1))
theorem ok_X12_takesNote_50 : ok_S 170 50 (sf_ld 2 0 51) := ok_aload_n (by decide +kernel : decode (mb_ 170) 50 = .ok (.aload_n 0, 1)) rfl
theorem ok_X12_takesNote_51 : ok_S 170 51 (sf_gr 13 13 0 54) := ok_gr fd_13_0 (by decide +kernel : decode (mb_ 170) 51 = .ok (.getfield 7, 3)) tw_1126 (Or.inl rfl) rfl
theorem ok_X12_takesNote_54 : ok_S 170 54 (sf_ld 0 2 55) := ok_iload_n (by decide +kernel : decode (mb_ 170) 54 = .ok (.iload_n 2, 1)) rfl
theorem ok_X12_takesNote_55 : ok_S 170 55 (sf_push (0, 1) 56) := ok_iconst (by decide +kernel : decode (mb_ 170) 55 = .ok (.iconst 1, 1)) ⟨by decide, by decide⟩
theorem ok_X12_takesNote_56 : ok_S 170 56 (sf_i2 mx_add 57) := ok_iadd (by decide +kernel : decode (mb_ 170) 56 = .ok (.iadd, 1))
theorem ok_X12_takesNote_57 : ok_S 170 57 (sf_ld 2 0 58) := ok_aload_n (by decide +kernel : decode (mb_ 170) 57 = .ok (.aload_n 0, 1)) rfl
theorem ok_X12_takesNote_58 : ok_S 170 58 (sf_gi 13 13 10 61) := ok_gi fd_13_10 (by decide +kernel : decode (mb_ 170) 58 = .ok (.getfield 95, 3)) tw_1136 (Or.inl rfl) rfl
theorem ok_X12_takesNote_61 : ok_S 170 61 (sf_iast 62) := ok_iast (by decide +kernel : decode (mb_ 170) 61 = .ok (.iastore, 1))
theorem ok_X12_takesNote_62 : ok_S 170 62 (sf_ld 2 0 63) := ok_aload_n (by decide +kernel : decode (mb_ 170) 62 = .ok (.aload_n 0, 1)) rfl
theorem ok_X12_takesNote_63 : ok_S 170 63 (sf_gr 13 13 0 66) := ok_gr fd_13_0 (by decide +kernel : decode (mb_ 170) 63 = .ok (.getfield 7, 3)) tw_1126 (Or.inl rfl) rfl
theorem ok_X12_takesNote_66 : ok_S 170 66 (sf_ld 0 2 67) := ok_iload_n (by decide +kernel : decode (mb_ 170) 66 = .ok (.iload_n 2, 1)) rfl
theorem ok_X12_takesNote_67 : ok_S 170 67 (sf_push (0, 2) 68) := ok_iconst (by decide +kernel : decode (mb_ 170) 67 = .ok (.iconst 2, 1)) ⟨by decide, by decide⟩
theorem ok_X12_takesNote_68 : ok_S 170 68 (sf_i2 mx_add 69) := ok_iadd (by decide +kernel : decode (mb_ 170) 68 = .ok (.iadd, 1))
theorem ok_X12_takesNote_69 : ok_S 170 69 (sf_push (0, 0) 70) := ok_iconst (by decide +kernel : decode (mb_ 170) 69 = .ok (.iconst 0, 1)) ⟨by decide, by decide⟩
theorem ok_X12_takesNote_70 : ok_S 170 70 (sf_iast 71) := ok_iast (by decide +kernel : decode (mb_ 170) 70 = .ok (.iastore, 1))
theorem ok_X12_takesNote_71 : ok_S 170 71 (sf_ld 2 0 72) := ok_aload_n (by decide +kernel : decode (mb_ 170) 71 = .ok (.aload_n 0, 1)) rfl
theorem ok_X12_takesNote_72 : ok_S 170 72 (sf_push (2, (-28)) 74) := ok_ldcs (tx := "at") (by decide +kernel : decode (mb_ 170) 72 = .ok (.ldc 118, 2)) (by decide) (List.mem_of_getElem? (i := 18) rfl)
theorem ok_X12_takesNote_74 : ok_S 170 74 (sf_cv 13 [2, 2] 166 77) := ok_cv mt_166 cl_13 (by decide +kernel : decode (mb_ 170) 74 = .ok (.invokevirtual 100, 3)) tw_1234 tw_1236 ts_34 tw_7 rfl (by decide +kernel) (mh_ok rfl) (by decide) (by decide)
theorem ok_X12_takesNote_77 : ok_S 170 77 (sf_if 0 108 80) := ok_if0 (by decide +kernel : decode (mb_ 170) 77 = .ok (.ifCond .eq 31, 3)) (by decide)
theorem ok_X12_takesNote_80 : ok_S 170 80 (sf_ld 2 0 81) := ok_aload_n (by decide +kernel : decode (mb_ 170) 80 = .ok (.aload_n 0, 1)) rfl
theorem ok_X12_takesNote_81 : ok_S 170 81 (sf_cv 13 [2] 165 84) := ok_cv mt_165 cl_13 (by decide +kernel : decode (mb_ 170) 81 = .ok (.invokevirtual 92, 3)) tw_1221 tw_1223 ts_31 tw_7 rfl (by decide +kernel) (mh_ok rfl) (by decide) (by decide)
theorem ok_X12_takesNote_84 : ok_S 170 84 (sf_ld 2 0 85) := ok_aload_n (by decide +kernel : decode (mb_ 170) 84 = .ok (.aload_n 0, 1)) rfl
theorem ok_X12_takesNote_85 : ok_S 170 85 (sf_push (0, 0) 86) := ok_iconst (by decide +kernel : decode (mb_ 170) 85 = .ok (.iconst 0, 1)) ⟨by decide, by decide⟩
theorem ok_X12_takesNote_86 : ok_S 170 86 (sf_push (0, 6) 88) := ok_bipush (by decide +kernel : decode (mb_ 170) 86 = .ok (.bipush 6, 2)) ⟨by decide, by decide⟩ (by decide +kernel)
theorem ok_X12_takesNote_88 : ok_S 170 88 (sf_cv 13 [2, 0, 0] 168 91) := ok_cv mt_168 cl_13 (by decide +kernel : decode (mb_ 170) 88 = .ok (.invokevirtual 114, 3)) tw_1253 tw_1255 ts_36 tw_7 rfl (by decide +kernel) (mh_ok rfl) (by decide) (by decide)
theorem ok_X12_takesNote_91 : ok_S 170 91 (sf_if 1 96 94) := ok_if1 (by decide +kernel : decode (mb_ 170) 91 = .ok (.ifCond .ne 5, 3)) (by decide)
theorem ok_X12_takesNote_94 : ok_S 170 94 (sf_push (0, 0) 95) := ok_iconst (by decide +kernel : decode (mb_ 170) 94 = .ok (.iconst 0, 1)) ⟨by decide, by decide⟩
theorem ok_X12_takesNote_95 : ok_S 170 95 (sf_rr 0 1) := ok_rr (by decide +kernel : decode (mb_ 170) 95 = .ok (.ireturn, 1)) rfl (so_nz .boolean rfl rfl)
theorem ok_X12_takesNote_96 : ok_S 170 96 (sf_ld 2 0 97) := ok_aload_n (by decide +kernel : decode (mb_ 170) 96 = .ok (.aload_n 0, 1)) rfl
theorem ok_X12_takesNote_97 : ok_S 170 97 (sf_gr 13 13 0 100) := ok_gr fd_13_0 (by decide +kernel : decode (mb_ 170) 97 = .ok (.getfield 7, 3)) tw_1126 (Or.inl rfl) rfl
theorem ok_X12_takesNote_100 : ok_S 170 100 (sf_ld 0 2 101) := ok_iload_n (by decide +kernel : decode (mb_ 170) 100 = .ok (.iload_n 2, 1)) rfl
theorem ok_X12_takesNote_101 : ok_S 170 101 (sf_push (0, 2) 102) := ok_iconst (by decide +kernel : decode (mb_ 170) 101 = .ok (.iconst 2, 1)) ⟨by decide, by decide⟩
theorem ok_X12_takesNote_102 : ok_S 170 102 (sf_i2 mx_add 103) := ok_iadd (by decide +kernel : decode (mb_ 170) 102 = .ok (.iadd, 1))
theorem ok_X12_takesNote_103 : ok_S 170 103 (sf_ld 2 0 104) := ok_aload_n (by decide +kernel : decode (mb_ 170) 103 = .ok (.aload_n 0, 1)) rfl
theorem ok_X12_takesNote_104 : ok_S 170 104 (sf_gi 13 13 10 107) := ok_gi fd_13_10 (by decide +kernel : decode (mb_ 170) 104 = .ok (.getfield 95, 3)) tw_1136 (Or.inl rfl) rfl
theorem ok_X12_takesNote_107 : ok_S 170 107 (sf_iast 108) := ok_iast (by decide +kernel : decode (mb_ 170) 107 = .ok (.iastore, 1))
theorem ok_X12_takesNote_108 : ok_S 170 108 (sf_ld 2 0 109) := ok_aload_n (by decide +kernel : decode (mb_ 170) 108 = .ok (.aload_n 0, 1)) rfl
theorem ok_X12_takesNote_109 : ok_S 170 109 (sf_push (0, 58) 111) := ok_bipush (by decide +kernel : decode (mb_ 170) 109 = .ok (.bipush 58, 2)) ⟨by decide, by decide⟩ (by decide +kernel)
theorem ok_X12_takesNote_111 : ok_S 170 111 (sf_cv 13 [2, 0] 167 114) := ok_cv mt_167 cl_13 (by decide +kernel : decode (mb_ 170) 111 = .ok (.invokevirtual 119, 3)) tw_1258 tw_1260 ts_37 tw_7 rfl (by decide +kernel) (mh_ok rfl) (by decide) (by decide)
theorem ok_X12_takesNote_114 : ok_S 170 114 (sf_if 1 119 117) := ok_if1 (by decide +kernel : decode (mb_ 170) 114 = .ok (.ifCond .ne 5, 3)) (by decide)
theorem ok_X12_takesNote_117 : ok_S 170 117 (sf_push (0, 0) 118) := ok_iconst (by decide +kernel : decode (mb_ 170) 117 = .ok (.iconst 0, 1)) ⟨by decide, by decide⟩
theorem ok_X12_takesNote_118 : ok_S 170 118 (sf_rr 0 1) := ok_rr (by decide +kernel : decode (mb_ 170) 118 = .ok (.ireturn, 1)) rfl (so_nz .boolean rfl rfl)
theorem ok_X12_takesNote_119 : ok_S 170 119 (sf_push (0, 0) 120) := ok_iconst (by decide +kernel : decode (mb_ 170) 119 = .ok (.iconst 0, 1)) ⟨by decide, by decide⟩
theorem ok_X12_takesNote_120 : ok_S 170 120 (sf_st 0 3 121) := ok_istore_n (by decide +kernel : decode (mb_ 170) 120 = .ok (.istore_n 3, 1)) rfl
theorem ok_X12_takesNote_121 : ok_S 170 121 (sf_push (0, 1) 122) := ok_iconst (by decide +kernel : decode (mb_ 170) 121 = .ok (.iconst 1, 1)) ⟨by decide, by decide⟩
theorem ok_X12_takesNote_122 : ok_S 170 122 (sf_st 0 4 124) := ok_istore (by decide +kernel : decode (mb_ 170) 122 = .ok (.istore 4, 2))
theorem ok_X12_takesNote_124 : ok_S 170 124 (sf_ld 0 4 126) := ok_iload (by decide +kernel : decode (mb_ 170) 124 = .ok (.iload 4, 2))
theorem ok_X12_takesNote_126 : ok_S 170 126 (sf_if 0 175 129) := ok_if0 (by decide +kernel : decode (mb_ 170) 126 = .ok (.ifCond .eq 49, 3)) (by decide)
theorem ok_X12_takesNote_129 : ok_S 170 129 (sf_ld 0 3 130) := ok_iload_n (by decide +kernel : decode (mb_ 170) 129 = .ok (.iload_n 3, 1)) rfl
theorem ok_X12_takesNote_130 : ok_S 170 130 (sf_push (0, 6) 132) := ok_bipush (by decide +kernel : decode (mb_ 170) 130 = .ok (.bipush 6, 2)) ⟨by decide, by decide⟩ (by decide +kernel)
theorem ok_X12_takesNote_132 : ok_S 170 132 (sf_ic 0 145 135) := ok_ic0 (by decide +kernel : decode (mb_ 170) 132 = .ok (.if_icmp .eq 13, 3)) (by decide)
theorem ok_X12_takesNote_135 : ok_S 170 135 (sf_ld 2 0 136) := ok_aload_n (by decide +kernel : decode (mb_ 170) 135 = .ok (.aload_n 0, 1)) rfl
theorem ok_X12_takesNote_136 : ok_S 170 136 (sf_push (0, 0) 137) := ok_iconst (by decide +kernel : decode (mb_ 170) 136 = .ok (.iconst 0, 1)) ⟨by decide, by decide⟩
theorem ok_X12_takesNote_137 : ok_S 170 137 (sf_push (0, 15) 139) := ok_bipush (by decide +kernel : decode (mb_ 170) 137 = .ok (.bipush 15, 2)) ⟨by decide, by decide⟩ (by decide +kernel)
theorem ok_X12_takesNote_139 : ok_S 170 139 (sf_cv 13 [2, 0, 0] 168 142) := ok_cv mt_168 cl_13 (by decide +kernel : decode (mb_ 170) 139 = .ok (.invokevirtual 114, 3)) tw_1253 tw_1255 ts_36 tw_7 rfl (by decide +kernel) (mh_ok rfl) (by decide) (by decide)
theorem ok_X12_takesNote_142 : ok_S 170 142 (sf_if 1 147 145) := ok_if1 (by decide +kernel : decode (mb_ 170) 142 = .ok (.ifCond .ne 5, 3)) (by decide)
theorem ok_X12_takesNote_145 : ok_S 170 145 (sf_push (0, 0) 146) := ok_iconst (by decide +kernel : decode (mb_ 170) 145 = .ok (.iconst 0, 1)) ⟨by decide, by decide⟩
theorem ok_X12_takesNote_146 : ok_S 170 146 (sf_rr 0 1) := ok_rr (by decide +kernel : decode (mb_ 170) 146 = .ok (.ireturn, 1)) rfl (so_nz .boolean rfl rfl)
theorem ok_X12_takesNote_147 : ok_S 170 147 (sf_ld 2 0 148) := ok_aload_n (by decide +kernel : decode (mb_ 170) 147 = .ok (.aload_n 0, 1)) rfl
theorem ok_X12_takesNote_148 : ok_S 170 148 (sf_gr 13 13 0 151) := ok_gr fd_13_0 (by decide +kernel : decode (mb_ 170) 148 = .ok (.getfield 7, 3)) tw_1126 (Or.inl rfl) rfl
theorem ok_X12_takesNote_151 : ok_S 170 151 (sf_ld 0 2 152) := ok_iload_n (by decide +kernel : decode (mb_ 170) 151 = .ok (.iload_n 2, 1)) rfl
theorem ok_X12_takesNote_152 : ok_S 170 152 (sf_push (0, 4) 153) := ok_iconst (by decide +kernel : decode (mb_ 170) 152 = .ok (.iconst 4, 1)) ⟨by decide, by decide⟩
theorem ok_X12_takesNote_153 : ok_S 170 153 (sf_i2 mx_add 154) := ok_iadd (by decide +kernel : decode (mb_ 170) 153 = .ok (.iadd, 1))
theorem ok_X12_takesNote_154 : ok_S 170 154 (sf_ld 0 3 155) := ok_iload_n (by decide +kernel : decode (mb_ 170) 154 = .ok (.iload_n 3, 1)) rfl
theorem ok_X12_takesNote_155 : ok_S 170 155 (sf_i2 mx_add 156) := ok_iadd (by decide +kernel : decode (mb_ 170) 155 = .ok (.iadd, 1))
theorem ok_X12_takesNote_156 : ok_S 170 156 (sf_ld 2 0 157) := ok_aload_n (by decide +kernel : decode (mb_ 170) 156 = .ok (.aload_n 0, 1)) rfl
theorem ok_X12_takesNote_157 : ok_S 170 157 (sf_gi 13 13 10 160) := ok_gi fd_13_10 (by decide +kernel : decode (mb_ 170) 157 = .ok (.getfield 95, 3)) tw_1136 (Or.inl rfl) rfl
theorem ok_X12_takesNote_160 : ok_S 170 160 (sf_iast 161) := ok_iast (by decide +kernel : decode (mb_ 170) 160 = .ok (.iastore, 1))
theorem ok_X12_takesNote_161 : ok_S 170 161 (sf_inc 3 1 164) := ok_iinc (by decide +kernel : decode (mb_ 170) 161 = .ok (.iinc 3 1, 3))
theorem ok_X12_takesNote_164 : ok_S 170 164 (sf_ld 2 0 165) := ok_aload_n (by decide +kernel : decode (mb_ 170) 164 = .ok (.aload_n 0, 1)) rfl
theorem ok_X12_takesNote_165 : ok_S 170 165 (sf_push (0, 44) 167) := ok_bipush (by decide +kernel : decode (mb_ 170) 165 = .ok (.bipush 44, 2)) ⟨by decide, by decide⟩ (by decide +kernel)
theorem ok_X12_takesNote_167 : ok_S 170 167 (sf_cv 13 [2, 0] 167 170) := ok_cv mt_167 cl_13 (by decide +kernel : decode (mb_ 170) 167 = .ok (.invokevirtual 119, 3)) tw_1258 tw_1260 ts_37 tw_7 rfl (by decide +kernel) (mh_ok rfl) (by decide) (by decide)
theorem ok_X12_takesNote_170 : ok_S 170 170 (sf_st 0 4 172) := ok_istore (by decide +kernel : decode (mb_ 170) 170 = .ok (.istore 4, 2))
theorem ok_X12_takesNote_172 : ok_S 170 172 (sf_go 124) := ok_goto (by decide +kernel : decode (mb_ 170) 172 = .ok (.goto (-48), 3)) (by decide)
theorem ok_X12_takesNote_175 : ok_S 170 175 (sf_ld 2 0 176) := ok_aload_n (by decide +kernel : decode (mb_ 170) 175 = .ok (.aload_n 0, 1)) rfl
theorem ok_X12_takesNote_176 : ok_S 170 176 (sf_gr 13 13 0 179) := ok_gr fd_13_0 (by decide +kernel : decode (mb_ 170) 176 = .ok (.getfield 7, 3)) tw_1126 (Or.inl rfl) rfl
theorem ok_X12_takesNote_179 : ok_S 170 179 (sf_ld 0 2 180) := ok_iload_n (by decide +kernel : decode (mb_ 170) 179 = .ok (.iload_n 2, 1)) rfl
theorem ok_X12_takesNote_180 : ok_S 170 180 (sf_push (0, 3) 181) := ok_iconst (by decide +kernel : decode (mb_ 170) 180 = .ok (.iconst 3, 1)) ⟨by decide, by decide⟩
theorem ok_X12_takesNote_181 : ok_S 170 181 (sf_i2 mx_add 182) := ok_iadd (by decide +kernel : decode (mb_ 170) 181 = .ok (.iadd, 1))
theorem ok_X12_takesNote_182 : ok_S 170 182 (sf_ld 0 3 183) := ok_iload_n (by decide +kernel : decode (mb_ 170) 182 = .ok (.iload_n 3, 1)) rfl
theorem ok_X12_takesNote_183 : ok_S 170 183 (sf_iast 184) := ok_iast (by decide +kernel : decode (mb_ 170) 183 = .ok (.iastore, 1))
theorem ok_X12_takesNote_184 : ok_S 170 184 (sf_ld 2 0 185) := ok_aload_n (by decide +kernel : decode (mb_ 170) 184 = .ok (.aload_n 0, 1)) rfl
theorem ok_X12_takesNote_185 : ok_S 170 185 (sf_gr 13 13 0 188) := ok_gr fd_13_0 (by decide +kernel : decode (mb_ 170) 185 = .ok (.getfield 7, 3)) tw_1126 (Or.inl rfl) rfl
theorem ok_X12_takesNote_188 : ok_S 170 188 (sf_push (0, 0) 189) := ok_iconst (by decide +kernel : decode (mb_ 170) 188 = .ok (.iconst 0, 1)) ⟨by decide, by decide⟩
theorem ok_X12_takesNote_189 : ok_S 170 189 (sf_dup2 190) := ok_dup2 (by decide +kernel : decode (mb_ 170) 189 = .ok (.dup2, 1))
theorem ok_X12_takesNote_190 : ok_S 170 190 (sf_iald 191) := ok_iald (by decide +kernel : decode (mb_ 170) 190 = .ok (.iaload, 1))
theorem ok_X12_takesNote_191 : ok_S 170 191 (sf_push (0, 1) 192) := ok_iconst (by decide +kernel : decode (mb_ 170) 191 = .ok (.iconst 1, 1)) ⟨by decide, by decide⟩
theorem ok_X12_takesNote_192 : ok_S 170 192 (sf_i2 mx_add 193) := ok_iadd (by decide +kernel : decode (mb_ 170) 192 = .ok (.iadd, 1))
theorem ok_X12_takesNote_193 : ok_S 170 193 (sf_iast 194) := ok_iast (by decide +kernel : decode (mb_ 170) 193 = .ok (.iastore, 1))
theorem ok_X12_takesNote_194 : ok_S 170 194 (sf_ld 2 0 195) := ok_aload_n (by decide +kernel : decode (mb_ 170) 194 = .ok (.aload_n 0, 1)) rfl
theorem ok_X12_takesNote_195 : ok_S 170 195 (sf_push (0, 59) 197) := ok_bipush (by decide +kernel : decode (mb_ 170) 195 = .ok (.bipush 59, 2)) ⟨by decide, by decide⟩ (by decide +kernel)
theorem ok_X12_takesNote_197 : ok_S 170 197 (sf_cv 13 [2, 0] 167 200) := ok_cv mt_167 cl_13 (by decide +kernel : decode (mb_ 170) 197 = .ok (.invokevirtual 119, 3)) tw_1258 tw_1260 ts_37 tw_7 rfl (by decide +kernel) (mh_ok rfl) (by decide) (by decide)
theorem ok_X12_takesNote_200 : ok_S 170 200 (sf_rr 0 1) := ok_rr (by decide +kernel : decode (mb_ 170) 200 = .ok (.ireturn, 1)) rfl (so_nz .boolean rfl rfl)
theorem ok_X12_takesNote (pc : Nat) : ok_S 170 pc (cd_X12_takesNote pc) :=
  (ok_bf (ok_bf (ok_bf (ok_bf (ok_bf (ok_bf (ok_bf (ok_lf pc ok_X12_takesNote_200) (ok_lf pc ok_X12_takesNote_197)) (ok_bf (ok_lf pc ok_X12_takesNote_195) (ok_lf pc ok_X12_takesNote_194))) (ok_bf (ok_bf (ok_lf pc ok_X12_takesNote_193) (ok_lf pc ok_X12_takesNote_192)) (ok_bf (ok_lf pc ok_X12_takesNote_191) (ok_lf pc ok_X12_takesNote_190)))) (ok_bf (ok_bf (ok_bf (ok_lf pc ok_X12_takesNote_189) (ok_lf pc ok_X12_takesNote_188)) (ok_bf (ok_lf pc ok_X12_takesNote_185) (ok_lf pc ok_X12_takesNote_184))) (ok_bf (ok_bf (ok_lf pc ok_X12_takesNote_183) (ok_lf pc ok_X12_takesNote_182)) (ok_bf (ok_lf pc ok_X12_takesNote_181) (ok_lf pc ok_X12_takesNote_180))))) (ok_bf (ok_bf (ok_bf (ok_bf (ok_lf pc ok_X12_takesNote_179) (ok_lf pc ok_X12_takesNote_176)) (ok_bf (ok_lf pc ok_X12_takesNote_175) (ok_lf pc ok_X12_takesNote_172))) (ok_bf (ok_bf (ok_lf pc ok_X12_takesNote_170) (ok_lf pc ok_X12_takesNote_167)) (ok_bf (ok_lf pc ok_X12_takesNote_165) (ok_lf pc ok_X12_takesNote_164)))) (ok_bf (ok_bf (ok_bf (ok_lf pc ok_X12_takesNote_161) (ok_lf pc ok_X12_takesNote_160)) (ok_bf (ok_lf pc ok_X12_takesNote_157) (ok_lf pc ok_X12_takesNote_156))) (ok_bf (ok_bf (ok_lf pc ok_X12_takesNote_155) (ok_lf pc ok_X12_takesNote_154)) (ok_bf (ok_lf pc ok_X12_takesNote_153) (ok_lf pc ok_X12_takesNote_152)))))) (ok_bf (ok_bf (ok_bf (ok_bf (ok_bf (ok_lf pc ok_X12_takesNote_151) (ok_lf pc ok_X12_takesNote_148)) (ok_bf (ok_lf pc ok_X12_takesNote_147) (ok_lf pc ok_X12_takesNote_146))) (ok_bf (ok_bf (ok_lf pc ok_X12_takesNote_145) (ok_lf pc ok_X12_takesNote_142)) (ok_bf (ok_lf pc ok_X12_takesNote_139) (ok_lf pc ok_X12_takesNote_137)))) (ok_bf (ok_bf (ok_bf (ok_lf pc ok_X12_takesNote_136) (ok_lf pc ok_X12_takesNote_135)) (ok_bf (ok_lf pc ok_X12_takesNote_132) (ok_lf pc ok_X12_takesNote_130))) (ok_bf (ok_bf (ok_lf pc ok_X12_takesNote_129) (ok_lf pc ok_X12_takesNote_126)) (ok_bf (ok_lf pc ok_X12_takesNote_124) (ok_lf pc ok_X12_takesNote_122))))) (ok_bf (ok_bf (ok_bf (ok_bf (ok_lf pc ok_X12_takesNote_121) (ok_lf pc ok_X12_takesNote_120)) (ok_bf (ok_lf pc ok_X12_takesNote_119) (ok_lf pc ok_X12_takesNote_118))) (ok_bf (ok_bf (ok_lf pc ok_X12_takesNote_117) (ok_lf pc ok_X12_takesNote_114)) (ok_bf (ok_lf pc ok_X12_takesNote_111) (ok_lf pc ok_X12_takesNote_109)))) (ok_bf (ok_bf (ok_bf (ok_lf pc ok_X12_takesNote_108) (ok_lf pc ok_X12_takesNote_107)) (ok_bf (ok_lf pc ok_X12_takesNote_104) (ok_lf pc ok_X12_takesNote_103))) (ok_bf (ok_bf (ok_lf pc ok_X12_takesNote_102) (ok_lf pc ok_X12_takesNote_101)) (ok_lf pc ok_X12_takesNote_100)))))) (ok_bf (ok_bf (ok_bf (ok_bf (ok_bf (ok_bf (ok_lf pc ok_X12_takesNote_97) (ok_lf pc ok_X12_takesNote_96)) (ok_bf (ok_lf pc ok_X12_takesNote_95) (ok_lf pc ok_X12_takesNote_94))) (ok_bf (ok_bf (ok_lf pc ok_X12_takesNote_91) (ok_lf pc ok_X12_takesNote_88)) (ok_bf (ok_lf pc ok_X12_takesNote_86) (ok_lf pc ok_X12_takesNote_85)))) (ok_bf (ok_bf (ok_bf (ok_lf pc ok_X12_takesNote_84) (ok_lf pc ok_X12_takesNote_81)) (ok_bf (ok_lf pc ok_X12_takesNote_80) (ok_lf pc ok_X12_takesNote_77))) (ok_bf (ok_bf (ok_lf pc ok_X12_takesNote_74) (ok_lf pc ok_X12_takesNote_72)) (ok_bf (ok_lf pc ok_X12_takesNote_71) (ok_lf pc ok_X12_takesNote_70))))) (ok_bf (ok_bf (ok_bf (ok_bf (ok_lf pc ok_X12_takesNote_69) (ok_lf pc ok_X12_takesNote_68)) (ok_bf (ok_lf pc ok_X12_takesNote_67) (ok_lf pc ok_X12_takesNote_66))) (ok_bf (ok_bf (ok_lf pc ok_X12_takesNote_63) (ok_lf pc ok_X12_takesNote_62)) (ok_bf (ok_lf pc ok_X12_takesNote_61) (ok_lf pc ok_X12_takesNote_58)))) (ok_bf (ok_bf (ok_bf (ok_lf pc ok_X12_takesNote_57) (ok_lf pc ok_X12_takesNote_56)) (ok_bf (ok_lf pc ok_X12_takesNote_55) (ok_lf pc ok_X12_takesNote_54))) (ok_bf (ok_bf (ok_lf pc ok_X12_takesNote_51) (ok_lf pc ok_X12_takesNote_50)) (ok_bf (ok_lf pc ok_X12_takesNote_49) (ok_lf pc ok_X12_takesNote_48)))))) (ok_bf (ok_bf (ok_bf (ok_bf (ok_bf (ok_lf pc ok_X12_takesNote_47) (ok_lf pc ok_X12_takesNote_46)) (ok_bf (ok_lf pc ok_X12_takesNote_45) (ok_lf pc ok_X12_takesNote_42))) (ok_bf (ok_bf (ok_lf pc ok_X12_takesNote_41) (ok_lf pc ok_X12_takesNote_40)) (ok_bf (ok_lf pc ok_X12_takesNote_39) (ok_lf pc ok_X12_takesNote_36)))) (ok_bf (ok_bf (ok_bf (ok_lf pc ok_X12_takesNote_33) (ok_lf pc ok_X12_takesNote_32)) (ok_bf (ok_lf pc ok_X12_takesNote_31) (ok_lf pc ok_X12_takesNote_30))) (ok_bf (ok_bf (ok_lf pc ok_X12_takesNote_29) (ok_lf pc ok_X12_takesNote_28)) (ok_bf (ok_lf pc ok_X12_takesNote_27) (ok_lf pc ok_X12_takesNote_26))))) (ok_bf (ok_bf (ok_bf (ok_bf (ok_lf pc ok_X12_takesNote_25) (ok_lf pc ok_X12_takesNote_22)) (ok_bf (ok_lf pc ok_X12_takesNote_21) (ok_lf pc ok_X12_takesNote_19))) (ok_bf (ok_bf (ok_lf pc ok_X12_takesNote_17) (ok_lf pc ok_X12_takesNote_14)) (ok_bf (ok_lf pc ok_X12_takesNote_13) (ok_lf pc ok_X12_takesNote_12)))) (ok_bf (ok_bf (ok_bf (ok_lf pc ok_X12_takesNote_11) (ok_lf pc ok_X12_takesNote_8)) (ok_bf (ok_lf pc ok_X12_takesNote_6) (ok_lf pc ok_X12_takesNote_5))) (ok_bf (ok_bf (ok_lf pc ok_X12_takesNote_4) (ok_lf pc ok_X12_takesNote_1)) (ok_lf pc ok_X12_takesNote_0)))))))
theorem mo_X12_takesNote (pc : Nat) : mo_S (cd_X12_takesNote pc) :=
  (mo_bf (mo_bf (mo_bf (mo_bf (mo_bf (mo_bf (mo_bf (mo_bf mo_rr mo_no) (mo_bf mo_cv mo_no)) (mo_bf (mo_bf mo_push mo_no) (mo_bf mo_ld mo_no))) (mo_bf (mo_bf (mo_bf mo_iast mo_no) (mo_bf mo_i2 mo_no)) (mo_bf (mo_bf mo_push mo_no) (mo_bf mo_iald mo_no)))) (mo_bf (mo_bf (mo_bf (mo_bf mo_dup2 mo_no) (mo_bf mo_push mo_no)) (mo_bf (mo_bf mo_gr mo_no) (mo_bf mo_ld mo_no))) (mo_bf (mo_bf (mo_bf mo_iast mo_no) (mo_bf mo_ld mo_no)) (mo_bf (mo_bf mo_i2 mo_no) (mo_bf mo_push mo_no))))) (mo_bf (mo_bf (mo_bf (mo_bf (mo_bf mo_ld mo_no) (mo_bf mo_gr mo_no)) (mo_bf (mo_bf mo_ld mo_no) (mo_bf mo_go mo_no))) (mo_bf (mo_bf (mo_bf mo_st mo_no) (mo_bf mo_cv mo_no)) (mo_bf (mo_bf mo_push mo_no) (mo_bf mo_ld mo_no)))) (mo_bf (mo_bf (mo_bf (mo_bf mo_inc mo_no) (mo_bf mo_iast mo_no)) (mo_bf (mo_bf mo_gi mo_no) (mo_bf mo_ld mo_no))) (mo_bf (mo_bf (mo_bf mo_i2 mo_no) (mo_bf mo_ld mo_no)) (mo_bf (mo_bf mo_i2 mo_no) (mo_bf mo_push mo_no)))))) (mo_bf (mo_bf (mo_bf (mo_bf (mo_bf (mo_bf mo_ld mo_no) (mo_bf mo_gr mo_no)) (mo_bf (mo_bf mo_ld mo_no) (mo_bf mo_rr mo_no))) (mo_bf (mo_bf (mo_bf mo_push mo_no) (mo_bf mo_if mo_no)) (mo_bf (mo_bf mo_cv mo_no) (mo_bf mo_push mo_no)))) (mo_bf (mo_bf (mo_bf (mo_bf mo_push mo_no) (mo_bf mo_ld mo_no)) (mo_bf (mo_bf mo_ic mo_no) (mo_bf mo_push mo_no))) (mo_bf (mo_bf (mo_bf mo_ld mo_no) (mo_bf mo_if mo_no)) (mo_bf (mo_bf mo_ld mo_no) (mo_bf mo_st mo_no))))) (mo_bf (mo_bf (mo_bf (mo_bf (mo_bf mo_push mo_no) (mo_bf mo_st mo_no)) (mo_bf (mo_bf mo_push mo_no) (mo_bf mo_rr mo_no))) (mo_bf (mo_bf (mo_bf mo_push mo_no) (mo_bf mo_if mo_no)) (mo_bf (mo_bf mo_cv mo_no) (mo_bf mo_push mo_no)))) (mo_bf (mo_bf (mo_bf (mo_bf mo_ld mo_no) (mo_bf mo_iast mo_no)) (mo_bf (mo_bf mo_gi mo_no) (mo_bf mo_ld mo_no))) (mo_bf (mo_bf (mo_bf mo_i2 mo_no) (mo_bf mo_push mo_no)) (mo_bf mo_ld mo_no)))))) (mo_bf (mo_bf (mo_bf (mo_bf (mo_bf (mo_bf (mo_bf mo_gr mo_no) (mo_bf mo_ld mo_no)) (mo_bf (mo_bf mo_rr mo_no) (mo_bf mo_push mo_no))) (mo_bf (mo_bf (mo_bf mo_if mo_no) (mo_bf mo_cv mo_no)) (mo_bf (mo_bf mo_push mo_no) (mo_bf mo_push mo_no)))) (mo_bf (mo_bf (mo_bf (mo_bf mo_ld mo_no) (mo_bf mo_cv mo_no)) (mo_bf (mo_bf mo_ld mo_no) (mo_bf mo_if mo_no))) (mo_bf (mo_bf (mo_bf mo_cv mo_no) (mo_bf mo_push mo_no)) (mo_bf (mo_bf mo_ld mo_no) (mo_bf mo_iast mo_no))))) (mo_bf (mo_bf (mo_bf (mo_bf (mo_bf mo_push mo_no) (mo_bf mo_i2 mo_no)) (mo_bf (mo_bf mo_push mo_no) (mo_bf mo_ld mo_no))) (mo_bf (mo_bf (mo_bf mo_gr mo_no) (mo_bf mo_ld mo_no)) (mo_bf (mo_bf mo_iast mo_no) (mo_bf mo_gi mo_no)))) (mo_bf (mo_bf (mo_bf (mo_bf mo_ld mo_no) (mo_bf mo_i2 mo_no)) (mo_bf (mo_bf mo_push mo_no) (mo_bf mo_ld mo_no))) (mo_bf (mo_bf (mo_bf mo_gr mo_no) (mo_bf mo_ld mo_no)) (mo_bf (mo_bf mo_iast mo_no) (mo_bf mo_ld mo_no)))))) (mo_bf (mo_bf (mo_bf (mo_bf (mo_bf (mo_bf mo_i2 mo_no) (mo_bf mo_push mo_no)) (mo_bf (mo_bf mo_ld mo_no) (mo_bf mo_gr mo_no))) (mo_bf (mo_bf (mo_bf mo_ld mo_no) (mo_bf mo_rr mo_no)) (mo_bf (mo_bf mo_push mo_no) (mo_bf mo_if mo_no)))) (mo_bf (mo_bf (mo_bf (mo_bf mo_cv mo_no) (mo_bf mo_push mo_no)) (mo_bf (mo_bf mo_push mo_no) (mo_bf mo_ld mo_no))) (mo_bf (mo_bf (mo_bf mo_st mo_no) (mo_bf mo_i2 mo_no)) (mo_bf (mo_bf mo_i2 mo_no) (mo_bf mo_iald mo_no))))) (mo_bf (mo_bf (mo_bf (mo_bf (mo_bf mo_push mo_no) (mo_bf mo_gr mo_no)) (mo_bf (mo_bf mo_ld mo_no) (mo_bf mo_push mo_no))) (mo_bf (mo_bf (mo_bf mo_push mo_no) (mo_bf mo_cv mo_no)) (mo_bf (mo_bf mo_ld mo_no) (mo_bf mo_rr mo_no)))) (mo_bf (mo_bf (mo_bf (mo_bf mo_push mo_no) (mo_bf mo_ic mo_no)) (mo_bf (mo_bf mo_push mo_no) (mo_bf mo_iald mo_no))) (mo_bf (mo_bf (mo_bf mo_push mo_no) (mo_bf mo_gr mo_no)) (mo_bf mo_ld mo_no)))))))
theorem ok_X12_takesEvening_0 : ok_S 171 0 (sf_ld 2 0 1) := ok_aload_n (by decide +kernel : decode (mb_ 171) 0 = .ok (.aload_n 0, 1)) rfl
theorem ok_X12_takesEvening_1 : ok_S 171 1 (sf_cv 13 [2] 165 4) := ok_cv mt_165 cl_13 (by decide +kernel : decode (mb_ 171) 1 = .ok (.invokevirtual 92, 3)) tw_1221 tw_1223 ts_31 tw_7 rfl (by decide +kernel) (mh_ok rfl) (by decide) (by decide)
theorem ok_X12_takesEvening_4 : ok_S 171 4 (sf_ld 2 0 5) := ok_aload_n (by decide +kernel : decode (mb_ 171) 4 = .ok (.aload_n 0, 1)) rfl
theorem ok_X12_takesEvening_5 : ok_S 171 5 (sf_push (0, 0) 6) := ok_iconst (by decide +kernel : decode (mb_ 171) 5 = .ok (.iconst 0, 1)) ⟨by decide, by decide⟩
theorem ok_X12_takesEvening_6 : ok_S 171 6 (sf_push (0, 2) 7) := ok_iconst (by decide +kernel : decode (mb_ 171) 6 = .ok (.iconst 2, 1)) ⟨by decide, by decide⟩
theorem ok_X12_takesEvening_7 : ok_S 171 7 (sf_cv 13 [2, 0, 0] 168 10) := ok_cv mt_168 cl_13 (by decide +kernel : decode (mb_ 171) 7 = .ok (.invokevirtual 114, 3)) tw_1253 tw_1255 ts_36 tw_7 rfl (by decide +kernel) (mh_ok rfl) (by decide) (by decide)
theorem ok_X12_takesEvening_10 : ok_S 171 10 (sf_if 1 15 13) := ok_if1 (by decide +kernel : decode (mb_ 171) 10 = .ok (.ifCond .ne 5, 3)) (by decide)
theorem ok_X12_takesEvening_13 : ok_S 171 13 (sf_push (0, 0) 14) := ok_iconst (by decide +kernel : decode (mb_ 171) 13 = .ok (.iconst 0, 1)) ⟨by decide, by decide⟩
theorem ok_X12_takesEvening_14 : ok_S 171 14 (sf_rr 0 1) := ok_rr (by decide +kernel : decode (mb_ 171) 14 = .ok (.ireturn, 1)) rfl (so_nz .boolean rfl rfl)
theorem ok_X12_takesEvening_15 : ok_S 171 15 (sf_ld 2 0 16) := ok_aload_n (by decide +kernel : decode (mb_ 171) 15 = .ok (.aload_n 0, 1)) rfl
theorem ok_X12_takesEvening_16 : ok_S 171 16 (sf_gi 13 13 10 19) := ok_gi fd_13_10 (by decide +kernel : decode (mb_ 171) 16 = .ok (.getfield 95, 3)) tw_1136 (Or.inl rfl) rfl
theorem ok_X12_takesEvening_19 : ok_S 171 19 (sf_st 0 1 20) := ok_istore_n (by decide +kernel : decode (mb_ 171) 19 = .ok (.istore_n 1, 1)) rfl
theorem ok_X12_takesEvening_20 : ok_S 171 20 (sf_ld 2 0 21) := ok_aload_n (by decide +kernel : decode (mb_ 171) 20 = .ok (.aload_n 0, 1)) rfl
theorem ok_X12_takesEvening_21 : ok_S 171 21 (sf_push (0, 2) 22) := ok_iconst (by decide +kernel : decode (mb_ 171) 21 = .ok (.iconst 2, 1)) ⟨by decide, by decide⟩
theorem ok_X12_takesEvening_22 : ok_S 171 22 (sf_push (0, 16) 24) := ok_bipush (by decide +kernel : decode (mb_ 171) 22 = .ok (.bipush 16, 2)) ⟨by decide, by decide⟩ (by decide +kernel)
theorem ok_X12_takesEvening_24 : ok_S 171 24 (sf_cv 13 [2, 0, 0] 168 27) := ok_cv mt_168 cl_13 (by decide +kernel : decode (mb_ 171) 24 = .ok (.invokevirtual 114, 3)) tw_1253 tw_1255 ts_36 tw_7 rfl (by decide +kernel) (mh_ok rfl) (by decide) (by decide)
theorem ok_X12_takesEvening_27 : ok_S 171 27 (sf_if 1 32 30) := ok_if1 (by decide +kernel : decode (mb_ 171) 27 = .ok (.ifCond .ne 5, 3)) (by decide)
theorem ok_X12_takesEvening_30 : ok_S 171 30 (sf_push (0, 0) 31) := ok_iconst (by decide +kernel : decode (mb_ 171) 30 = .ok (.iconst 0, 1)) ⟨by decide, by decide⟩
theorem ok_X12_takesEvening_31 : ok_S 171 31 (sf_rr 0 1) := ok_rr (by decide +kernel : decode (mb_ 171) 31 = .ok (.ireturn, 1)) rfl (so_nz .boolean rfl rfl)
theorem ok_X12_takesEvening_32 : ok_S 171 32 (sf_ld 2 0 33) := ok_aload_n (by decide +kernel : decode (mb_ 171) 32 = .ok (.aload_n 0, 1)) rfl
theorem ok_X12_takesEvening_33 : ok_S 171 33 (sf_gi 13 13 10 36) := ok_gi fd_13_10 (by decide +kernel : decode (mb_ 171) 33 = .ok (.getfield 95, 3)) tw_1136 (Or.inl rfl) rfl
theorem ok_X12_takesEvening_36 : ok_S 171 36 (sf_st 0 2 37) := ok_istore_n (by decide +kernel : decode (mb_ 171) 36 = .ok (.istore_n 2, 1)) rfl
theorem ok_X12_takesEvening_37 : ok_S 171 37 (sf_ld 2 0 38) := ok_aload_n (by decide +kernel : decode (mb_ 171) 37 = .ok (.aload_n 0, 1)) rfl
theorem ok_X12_takesEvening_38 : ok_S 171 38 (sf_ld 0 2 39) := ok_iload_n (by decide +kernel : decode (mb_ 171) 38 = .ok (.iload_n 2, 1)) rfl
theorem ok_X12_takesEvening_39 : ok_S 171 39 (sf_push (0, 16) 41) := ok_bipush (by decide +kernel : decode (mb_ 171) 39 = .ok (.bipush 16, 2)) ⟨by decide, by decide⟩ (by decide +kernel)
theorem ok_X12_takesEvening_41 : ok_S 171 41 (sf_cv 13 [2, 0, 0] 168 44) := ok_cv mt_168 cl_13 (by decide +kernel : decode (mb_ 171) 41 = .ok (.invokevirtual 114, 3)) tw_1253 tw_1255 ts_36 tw_7 rfl (by decide +kernel) (mh_ok rfl) (by decide) (by decide)
theorem ok_X12_takesEvening_44 : ok_S 171 44 (sf_if 1 49 47) := ok_if1 (by decide +kernel : decode (mb_ 171) 44 = .ok (.ifCond .ne 5, 3)) (by decide)
theorem ok_X12_takesEvening_47 : ok_S 171 47 (sf_push (0, 0) 48) := ok_iconst (by decide +kernel : decode (mb_ 171) 47 = .ok (.iconst 0, 1)) ⟨by decide, by decide⟩
theorem ok_X12_takesEvening_48 : ok_S 171 48 (sf_rr 0 1) := ok_rr (by decide +kernel : decode (mb_ 171) 48 = .ok (.ireturn, 1)) rfl (so_nz .boolean rfl rfl)
theorem ok_X12_takesEvening_49 : ok_S 171 49 (sf_ld 2 0 50) := ok_aload_n (by decide +kernel : decode (mb_ 171) 49 = .ok (.aload_n 0, 1)) rfl
theorem ok_X12_takesEvening_50 : ok_S 171 50 (sf_gr 13 13 0 53) := ok_gr fd_13_0 (by decide +kernel : decode (mb_ 171) 50 = .ok (.getfield 7, 3)) tw_1126 (Or.inl rfl) rfl
theorem ok_X12_takesEvening_53 : ok_S 171 53 (sf_push (0, 3) 54) := ok_iconst (by decide +kernel : decode (mb_ 171) 53 = .ok (.iconst 3, 1)) ⟨by decide, by decide⟩
theorem ok_X12_takesEvening_54 : ok_S 171 54 (sf_push (0, 2) 55) := ok_iconst (by decide +kernel : decode (mb_ 171) 54 = .ok (.iconst 2, 1)) ⟨by decide, by decide⟩
theorem ok_X12_takesEvening_55 : ok_S 171 55 (sf_ld 0 1 56) := ok_iload_n (by decide +kernel : decode (mb_ 171) 55 = .ok (.iload_n 1, 1)) rfl
theorem ok_X12_takesEvening_56 : ok_S 171 56 (sf_i2 mx_mul 57) := ok_imul (by decide +kernel : decode (mb_ 171) 56 = .ok (.imul, 1))
theorem ok_X12_takesEvening_57 : ok_S 171 57 (sf_i2 mx_add 58) := ok_iadd (by decide +kernel : decode (mb_ 171) 57 = .ok (.iadd, 1))
theorem ok_X12_takesEvening_58 : ok_S 171 58 (sf_ld 0 2 59) := ok_iload_n (by decide +kernel : decode (mb_ 171) 58 = .ok (.iload_n 2, 1)) rfl
theorem ok_X12_takesEvening_59 : ok_S 171 59 (sf_iast 60) := ok_iast (by decide +kernel : decode (mb_ 171) 59 = .ok (.iastore, 1))
theorem ok_X12_takesEvening_60 : ok_S 171 60 (sf_ld 2 0 61) := ok_aload_n (by decide +kernel : decode (mb_ 171) 60 = .ok (.aload_n 0, 1)) rfl
theorem ok_X12_takesEvening_61 : ok_S 171 61 (sf_gr 13 13 0 64) := ok_gr fd_13_0 (by decide +kernel : decode (mb_ 171) 61 = .ok (.getfield 7, 3)) tw_1126 (Or.inl rfl) rfl
theorem ok_X12_takesEvening_64 : ok_S 171 64 (sf_push (0, 3) 65) := ok_iconst (by decide +kernel : decode (mb_ 171) 64 = .ok (.iconst 3, 1)) ⟨by decide, by decide⟩
theorem ok_X12_takesEvening_65 : ok_S 171 65 (sf_push (0, 2) 66) := ok_iconst (by decide +kernel : decode (mb_ 171) 65 = .ok (.iconst 2, 1)) ⟨by decide, by decide⟩
theorem ok_X12_takesEvening_66 : ok_S 171 66 (sf_ld 0 1 67) := ok_iload_n (by decide +kernel : decode (mb_ 171) 66 = .ok (.iload_n 1, 1)) rfl
theorem ok_X12_takesEvening_67 : ok_S 171 67 (sf_i2 mx_mul 68) := ok_imul (by decide +kernel : decode (mb_ 171) 67 = .ok (.imul, 1))
theorem ok_X12_takesEvening_68 : ok_S 171 68 (sf_i2 mx_add 69) := ok_iadd (by decide +kernel : decode (mb_ 171) 68 = .ok (.iadd, 1))
theorem ok_X12_takesEvening_69 : ok_S 171 69 (sf_push (0, 1) 70) := ok_iconst (by decide +kernel : decode (mb_ 171) 69 = .ok (.iconst 1, 1)) ⟨by decide, by decide⟩
theorem ok_X12_takesEvening_70 : ok_S 171 70 (sf_i2 mx_add 71) := ok_iadd (by decide +kernel : decode (mb_ 171) 70 = .ok (.iadd, 1))
theorem ok_X12_takesEvening_71 : ok_S 171 71 (sf_ld 2 0 72) := ok_aload_n (by decide +kernel : decode (mb_ 171) 71 = .ok (.aload_n 0, 1)) rfl
theorem ok_X12_takesEvening_72 : ok_S 171 72 (sf_gi 13 13 10 75) := ok_gi fd_13_10 (by decide +kernel : decode (mb_ 171) 72 = .ok (.getfield 95, 3)) tw_1136 (Or.inl rfl) rfl
theorem ok_X12_takesEvening_75 : ok_S 171 75 (sf_iast 76) := ok_iast (by decide +kernel : decode (mb_ 171) 75 = .ok (.iastore, 1))
theorem ok_X12_takesEvening_76 : ok_S 171 76 (sf_ld 2 0 77) := ok_aload_n (by decide +kernel : decode (mb_ 171) 76 = .ok (.aload_n 0, 1)) rfl
theorem ok_X12_takesEvening_77 : ok_S 171 77 (sf_push (0, 59) 79) := ok_bipush (by decide +kernel : decode (mb_ 171) 77 = .ok (.bipush 59, 2)) ⟨by decide, by decide⟩ (by decide +kernel)
theorem ok_X12_takesEvening_79 : ok_S 171 79 (sf_cv 13 [2, 0] 167 82) := ok_cv mt_167 cl_13 (by decide +kernel : decode (mb_ 171) 79 = .ok (.invokevirtual 119, 3)) tw_1258 tw_1260 ts_37 tw_7 rfl (by decide +kernel) (mh_ok rfl) (by decide) (by decide)
theorem ok_X12_takesEvening_82 : ok_S 171 82 (sf_rr 0 1) := ok_rr (by decide +kernel : decode (mb_ 171) 82 = .ok (.ireturn, 1)) rfl (so_nz .boolean rfl rfl)
theorem ok_X12_takesEvening (pc : Nat) : ok_S 171 pc (cd_X12_takesEvening pc) :=
  (ok_bf (ok_bf (ok_bf (ok_bf (ok_bf (ok_bf (ok_lf pc ok_X12_takesEvening_82) (ok_lf pc ok_X12_takesEvening_79)) (ok_bf (ok_lf pc ok_X12_takesEvening_77) (ok_lf pc ok_X12_takesEvening_76))) (ok_bf (ok_bf (ok_lf pc ok_X12_takesEvening_75) (ok_lf pc ok_X12_takesEvening_72)) (ok_lf pc ok_X12_takesEvening_71))) (ok_bf (ok_bf (ok_bf (ok_lf pc ok_X12_takesEvening_70) (ok_lf pc ok_X12_takesEvening_69)) (ok_bf (ok_lf pc ok_X12_takesEvening_68) (ok_lf pc ok_X12_takesEvening_67))) (ok_bf (ok_bf (ok_lf pc ok_X12_takesEvening_66) (ok_lf pc ok_X12_takesEvening_65)) (ok_lf pc ok_X12_takesEvening_64)))) (ok_bf (ok_bf (ok_bf (ok_bf (ok_lf pc ok_X12_takesEvening_61) (ok_lf pc ok_X12_takesEvening_60)) (ok_bf (ok_lf pc ok_X12_takesEvening_59) (ok_lf pc ok_X12_takesEvening_58))) (ok_bf (ok_bf (ok_lf pc ok_X12_takesEvening_57) (ok_lf pc ok_X12_takesEvening_56)) (ok_lf pc ok_X12_takesEvening_55))) (ok_bf (ok_bf (ok_bf (ok_lf pc ok_X12_takesEvening_54) (ok_lf pc ok_X12_takesEvening_53)) (ok_lf pc ok_X12_takesEvening_50)) (ok_bf (ok_bf (ok_lf pc ok_X12_takesEvening_49) (ok_lf pc ok_X12_takesEvening_48)) (ok_lf pc ok_X12_takesEvening_47))))) (ok_bf (ok_bf (ok_bf (ok_bf (ok_bf (ok_lf pc ok_X12_takesEvening_44) (ok_lf pc ok_X12_takesEvening_41)) (ok_bf (ok_lf pc ok_X12_takesEvening_39) (ok_lf pc ok_X12_takesEvening_38))) (ok_bf (ok_bf (ok_lf pc ok_X12_takesEvening_37) (ok_lf pc ok_X12_takesEvening_36)) (ok_lf pc ok_X12_takesEvening_33))) (ok_bf (ok_bf (ok_bf (ok_lf pc ok_X12_takesEvening_32) (ok_lf pc ok_X12_takesEvening_31)) (ok_bf (ok_lf pc ok_X12_takesEvening_30) (ok_lf pc ok_X12_takesEvening_27))) (ok_bf (ok_bf (ok_lf pc ok_X12_takesEvening_24) (ok_lf pc ok_X12_takesEvening_22)) (ok_lf pc ok_X12_takesEvening_21)))) (ok_bf (ok_bf (ok_bf (ok_bf (ok_lf pc ok_X12_takesEvening_20) (ok_lf pc ok_X12_takesEvening_19)) (ok_bf (ok_lf pc ok_X12_takesEvening_16) (ok_lf pc ok_X12_takesEvening_15))) (ok_bf (ok_bf (ok_lf pc ok_X12_takesEvening_14) (ok_lf pc ok_X12_takesEvening_13)) (ok_lf pc ok_X12_takesEvening_10))) (ok_bf (ok_bf (ok_bf (ok_lf pc ok_X12_takesEvening_7) (ok_lf pc ok_X12_takesEvening_6)) (ok_lf pc ok_X12_takesEvening_5)) (ok_bf (ok_bf (ok_lf pc ok_X12_takesEvening_4) (ok_lf pc ok_X12_takesEvening_1)) (ok_lf pc ok_X12_takesEvening_0))))))
theorem mo_X12_takesEvening (pc : Nat) : mo_S (cd_X12_takesEvening pc) :=
  (mo_bf (mo_bf (mo_bf (mo_bf (mo_bf (mo_bf (mo_bf mo_rr mo_no) (mo_bf mo_cv mo_no)) (mo_bf (mo_bf mo_push mo_no) (mo_bf mo_ld mo_no))) (mo_bf (mo_bf (mo_bf mo_iast mo_no) (mo_bf mo_gi mo_no)) (mo_bf mo_ld mo_no))) (mo_bf (mo_bf (mo_bf (mo_bf mo_i2 mo_no) (mo_bf mo_push mo_no)) (mo_bf (mo_bf mo_i2 mo_no) (mo_bf mo_i2 mo_no))) (mo_bf (mo_bf (mo_bf mo_ld mo_no) (mo_bf mo_push mo_no)) (mo_bf mo_push mo_no)))) (mo_bf (mo_bf (mo_bf (mo_bf (mo_bf mo_gr mo_no) (mo_bf mo_ld mo_no)) (mo_bf (mo_bf mo_iast mo_no) (mo_bf mo_ld mo_no))) (mo_bf (mo_bf (mo_bf mo_i2 mo_no) (mo_bf mo_i2 mo_no)) (mo_bf mo_ld mo_no))) (mo_bf (mo_bf (mo_bf (mo_bf mo_push mo_no) (mo_bf mo_push mo_no)) (mo_bf mo_gr mo_no)) (mo_bf (mo_bf (mo_bf mo_ld mo_no) (mo_bf mo_rr mo_no)) (mo_bf mo_push mo_no))))) (mo_bf (mo_bf (mo_bf (mo_bf (mo_bf (mo_bf mo_if mo_no) (mo_bf mo_cv mo_no)) (mo_bf (mo_bf mo_push mo_no) (mo_bf mo_ld mo_no))) (mo_bf (mo_bf (mo_bf mo_ld mo_no) (mo_bf mo_st mo_no)) (mo_bf mo_gi mo_no))) (mo_bf (mo_bf (mo_bf (mo_bf mo_ld mo_no) (mo_bf mo_rr mo_no)) (mo_bf (mo_bf mo_push mo_no) (mo_bf mo_if mo_no))) (mo_bf (mo_bf (mo_bf mo_cv mo_no) (mo_bf mo_push mo_no)) (mo_bf mo_push mo_no)))) (mo_bf (mo_bf (mo_bf (mo_bf (mo_bf mo_ld mo_no) (mo_bf mo_st mo_no)) (mo_bf (mo_bf mo_gi mo_no) (mo_bf mo_ld mo_no))) (mo_bf (mo_bf (mo_bf mo_rr mo_no) (mo_bf mo_push mo_no)) (mo_bf mo_if mo_no))) (mo_bf (mo_bf (mo_bf (mo_bf mo_cv mo_no) (mo_bf mo_push mo_no)) (mo_bf mo_push mo_no)) (mo_bf (mo_bf (mo_bf mo_ld mo_no) (mo_bf mo_cv mo_no)) (mo_bf mo_ld mo_no))))))
theorem ok_X12_takesLine_0 : ok_S 172 0 (sf_ld 2 0 1) := ok_aload_n (by decide +kernel : decode (mb_ 172) 0 = .ok (.aload_n 0, 1)) rfl
theorem ok_X12_takesLine_1 : ok_S 172 1 (sf_gr 13 13 0 4) := ok_gr fd_13_0 (by decide +kernel : decode (mb_ 172) 1 = .ok (.getfield 7, 3)) tw_1126 (Or.inl rfl) rfl
theorem ok_X12_takesLine_4 : ok_S 172 4 (sf_push (0, 1) 5) := ok_iconst (by decide +kernel : decode (mb_ 172) 4 = .ok (.iconst 1, 1)) ⟨by decide, by decide⟩
theorem ok_X12_takesLine_5 : ok_S 172 5 (sf_iald 6) := ok_iald (by decide +kernel : decode (mb_ 172) 5 = .ok (.iaload, 1))
theorem ok_X12_takesLine_6 : ok_S 172 6 (sf_push (0, 6) 8) := ok_bipush (by decide +kernel : decode (mb_ 172) 6 = .ok (.bipush 6, 2)) ⟨by decide, by decide⟩ (by decide +kernel)
theorem ok_X12_takesLine_8 : ok_S 172 8 (sf_ic 1 13 11) := ok_ic1 (by decide +kernel : decode (mb_ 172) 8 = .ok (.if_icmp .ne 5, 3)) (by decide)
theorem ok_X12_takesLine_11 : ok_S 172 11 (sf_push (0, 0) 12) := ok_iconst (by decide +kernel : decode (mb_ 172) 11 = .ok (.iconst 0, 1)) ⟨by decide, by decide⟩
theorem ok_X12_takesLine_12 : ok_S 172 12 (sf_rr 0 1) := ok_rr (by decide +kernel : decode (mb_ 172) 12 = .ok (.ireturn, 1)) rfl (so_nz .boolean rfl rfl)
theorem ok_X12_takesLine_13 : ok_S 172 13 (sf_ld 2 0 14) := ok_aload_n (by decide +kernel : decode (mb_ 172) 13 = .ok (.aload_n 0, 1)) rfl
theorem ok_X12_takesLine_14 : ok_S 172 14 (sf_cv 13 [2] 165 17) := ok_cv mt_165 cl_13 (by decide +kernel : decode (mb_ 172) 14 = .ok (.invokevirtual 92, 3)) tw_1221 tw_1223 ts_31 tw_7 rfl (by decide +kernel) (mh_ok rfl) (by decide) (by decide)
theorem ok_X12_takesLine_17 : ok_S 172 17 (sf_ld 2 0 18) := ok_aload_n (by decide +kernel : decode (mb_ 172) 17 = .ok (.aload_n 0, 1)) rfl
theorem ok_X12_takesLine_18 : ok_S 172 18 (sf_gr 13 13 0 21) := ok_gr fd_13_0 (by decide +kernel : decode (mb_ 172) 18 = .ok (.getfield 7, 3)) tw_1126 (Or.inl rfl) rfl
theorem ok_X12_takesLine_21 : ok_S 172 21 (sf_push (0, 0) 22) := ok_iconst (by decide +kernel : decode (mb_ 172) 21 = .ok (.iconst 0, 1)) ⟨by decide, by decide⟩
theorem ok_X12_takesLine_22 : ok_S 172 22 (sf_iald 23) := ok_iald (by decide +kernel : decode (mb_ 172) 22 = .ok (.iaload, 1))
theorem ok_X12_takesLine_23 : ok_S 172 23 (sf_push (0, 1) 24) := ok_iconst (by decide +kernel : decode (mb_ 172) 23 = .ok (.iconst 1, 1)) ⟨by decide, by decide⟩
theorem ok_X12_takesLine_24 : ok_S 172 24 (sf_i2 mx_sub 25) := ok_isub (by decide +kernel : decode (mb_ 172) 24 = .ok (.isub, 1))
theorem ok_X12_takesLine_25 : ok_S 172 25 (sf_st 0 2 26) := ok_istore_n (by decide +kernel : decode (mb_ 172) 25 = .ok (.istore_n 2, 1)) rfl
theorem ok_X12_takesLine_26 : ok_S 172 26 (sf_push (0, 69) 28) := ok_bipush (by decide +kernel : decode (mb_ 172) 26 = .ok (.bipush 69, 2)) ⟨by decide, by decide⟩ (by decide +kernel)
theorem ok_X12_takesLine_28 : ok_S 172 28 (sf_push (0, 4) 29) := ok_iconst (by decide +kernel : decode (mb_ 172) 28 = .ok (.iconst 4, 1)) ⟨by decide, by decide⟩
theorem ok_X12_takesLine_29 : ok_S 172 29 (sf_ld 2 0 30) := ok_aload_n (by decide +kernel : decode (mb_ 172) 29 = .ok (.aload_n 0, 1)) rfl
theorem ok_X12_takesLine_30 : ok_S 172 30 (sf_gr 13 13 0 33) := ok_gr fd_13_0 (by decide +kernel : decode (mb_ 172) 30 = .ok (.getfield 7, 3)) tw_1126 (Or.inl rfl) rfl
theorem ok_X12_takesLine_33 : ok_S 172 33 (sf_push (0, 1) 34) := ok_iconst (by decide +kernel : decode (mb_ 172) 33 = .ok (.iconst 1, 1)) ⟨by decide, by decide⟩
theorem ok_X12_takesLine_34 : ok_S 172 34 (sf_iald 35) := ok_iald (by decide +kernel : decode (mb_ 172) 34 = .ok (.iaload, 1))
theorem ok_X12_takesLine_35 : ok_S 172 35 (sf_i2 mx_mul 36) := ok_imul (by decide +kernel : decode (mb_ 172) 35 = .ok (.imul, 1))
theorem ok_X12_takesLine_36 : ok_S 172 36 (sf_i2 mx_add 37) := ok_iadd (by decide +kernel : decode (mb_ 172) 36 = .ok (.iadd, 1))
theorem ok_X12_takesLine_37 : ok_S 172 37 (sf_st 0 3 38) := ok_istore_n (by decide +kernel : decode (mb_ 172) 37 = .ok (.istore_n 3, 1)) rfl
theorem ok_X12_takesLine_38 : ok_S 172 38 (sf_ld 2 0 39) := ok_aload_n (by decide +kernel : decode (mb_ 172) 38 = .ok (.aload_n 0, 1)) rfl
theorem ok_X12_takesLine_39 : ok_S 172 39 (sf_push (0, 0) 40) := ok_iconst (by decide +kernel : decode (mb_ 172) 39 = .ok (.iconst 0, 1)) ⟨by decide, by decide⟩
theorem ok_X12_takesLine_40 : ok_S 172 40 (sf_ld 0 2 41) := ok_iload_n (by decide +kernel : decode (mb_ 172) 40 = .ok (.iload_n 2, 1)) rfl
theorem ok_X12_takesLine_41 : ok_S 172 41 (sf_cv 13 [2, 0, 0] 168 44) := ok_cv mt_168 cl_13 (by decide +kernel : decode (mb_ 172) 41 = .ok (.invokevirtual 114, 3)) tw_1253 tw_1255 ts_36 tw_7 rfl (by decide +kernel) (mh_ok rfl) (by decide) (by decide)
theorem ok_X12_takesLine_44 : ok_S 172 44 (sf_if 1 49 47) := ok_if1 (by decide +kernel : decode (mb_ 172) 44 = .ok (.ifCond .ne 5, 3)) (by decide)
theorem ok_X12_takesLine_47 : ok_S 172 47 (sf_push (0, 0) 48) := ok_iconst (by decide +kernel : decode (mb_ 172) 47 = .ok (.iconst 0, 1)) ⟨by decide, by decide⟩
theorem ok_X12_takesLine_48 : ok_S 172 48 (sf_rr 0 1) := ok_rr (by decide +kernel : decode (mb_ 172) 48 = .ok (.ireturn, 1)) rfl (so_nz .boolean rfl rfl)
theorem ok_X12_takesLine_49 : ok_S 172 49 (sf_ld 2 0 50) := ok_aload_n (by decide +kernel : decode (mb_ 172) 49 = .ok (.aload_n 0, 1)) rfl
theorem ok_X12_takesLine_50 : ok_S 172 50 (sf_gr 13 13 0 53) := ok_gr fd_13_0 (by decide +kernel : decode (mb_ 172) 50 = .ok (.getfield 7, 3)) tw_1126 (Or.inl rfl) rfl
theorem ok_X12_takesLine_53 : ok_S 172 53 (sf_ld 0 3 54) := ok_iload_n (by decide +kernel : decode (mb_ 172) 53 = .ok (.iload_n 3, 1)) rfl
theorem ok_X12_takesLine_54 : ok_S 172 54 (sf_ld 0 1 55) := ok_iload_n (by decide +kernel : decode (mb_ 172) 54 = .ok (.iload_n 1, 1)) rfl
theorem ok_X12_takesLine_55 : ok_S 172 55 (sf_iast 56) := ok_iast (by decide +kernel : decode (mb_ 172) 55 = .ok (.iastore, 1))
theorem ok_X12_takesLine_56 : ok_S 172 56 (sf_ld 2 0 57) := ok_aload_n (by decide +kernel : decode (mb_ 172) 56 = .ok (.aload_n 0, 1)) rfl
theorem ok_X12_takesLine_57 : ok_S 172 57 (sf_gr 13 13 0 60) := ok_gr fd_13_0 (by decide +kernel : decode (mb_ 172) 57 = .ok (.getfield 7, 3)) tw_1126 (Or.inl rfl) rfl
theorem ok_X12_takesLine_60 : ok_S 172 60 (sf_ld 0 3 61) := ok_iload_n (by decide +kernel : decode (mb_ 172) 60 = .ok (.iload_n 3, 1)) rfl
theorem ok_X12_takesLine_61 : ok_S 172 61 (sf_push (0, 1) 62) := ok_iconst (by decide +kernel : decode (mb_ 172) 61 = .ok (.iconst 1, 1)) ⟨by decide, by decide⟩
theorem ok_X12_takesLine_62 : ok_S 172 62 (sf_i2 mx_add 63) := ok_iadd (by decide +kernel : decode (mb_ 172) 62 = .ok (.iadd, 1))
theorem ok_X12_takesLine_63 : ok_S 172 63 (sf_ld 2 0 64) := ok_aload_n (by decide +kernel : decode (mb_ 172) 63 = .ok (.aload_n 0, 1)) rfl
theorem ok_X12_takesLine_64 : ok_S 172 64 (sf_gi 13 13 10 67) := ok_gi fd_13_10 (by decide +kernel : decode (mb_ 172) 64 = .ok (.getfield 95, 3)) tw_1136 (Or.inl rfl) rfl
theorem ok_X12_takesLine_67 : ok_S 172 67 (sf_iast 68) := ok_iast (by decide +kernel : decode (mb_ 172) 67 = .ok (.iastore, 1))
theorem ok_X12_takesLine_68 : ok_S 172 68 (sf_ld 2 0 69) := ok_aload_n (by decide +kernel : decode (mb_ 172) 68 = .ok (.aload_n 0, 1)) rfl
theorem ok_X12_takesLine_69 : ok_S 172 69 (sf_gr 13 13 0 72) := ok_gr fd_13_0 (by decide +kernel : decode (mb_ 172) 69 = .ok (.getfield 7, 3)) tw_1126 (Or.inl rfl) rfl
theorem ok_X12_takesLine_72 : ok_S 172 72 (sf_ld 0 3 73) := ok_iload_n (by decide +kernel : decode (mb_ 172) 72 = .ok (.iload_n 3, 1)) rfl
theorem ok_X12_takesLine_73 : ok_S 172 73 (sf_push (0, 2) 74) := ok_iconst (by decide +kernel : decode (mb_ 172) 73 = .ok (.iconst 2, 1)) ⟨by decide, by decide⟩
theorem ok_X12_takesLine_74 : ok_S 172 74 (sf_i2 mx_add 75) := ok_iadd (by decide +kernel : decode (mb_ 172) 74 = .ok (.iadd, 1))
theorem ok_X12_takesLine_75 : ok_S 172 75 (sf_push (0, 0) 76) := ok_iconst (by decide +kernel : decode (mb_ 172) 75 = .ok (.iconst 0, 1)) ⟨by decide, by decide⟩
theorem ok_X12_takesLine_76 : ok_S 172 76 (sf_iast 77) := ok_iast (by decide +kernel : decode (mb_ 172) 76 = .ok (.iastore, 1))
theorem ok_X12_takesLine_77 : ok_S 172 77 (sf_ld 2 0 78) := ok_aload_n (by decide +kernel : decode (mb_ 172) 77 = .ok (.aload_n 0, 1)) rfl
theorem ok_X12_takesLine_78 : ok_S 172 78 (sf_gr 13 13 0 81) := ok_gr fd_13_0 (by decide +kernel : decode (mb_ 172) 78 = .ok (.getfield 7, 3)) tw_1126 (Or.inl rfl) rfl
theorem ok_X12_takesLine_81 : ok_S 172 81 (sf_ld 0 3 82) := ok_iload_n (by decide +kernel : decode (mb_ 172) 81 = .ok (.iload_n 3, 1)) rfl
theorem ok_X12_takesLine_82 : ok_S 172 82 (sf_push (0, 3) 83) := ok_iconst (by decide +kernel : decode (mb_ 172) 82 = .ok (.iconst 3, 1)) ⟨by decide, by decide⟩
theorem ok_X12_takesLine_83 : ok_S 172 83 (sf_i2 mx_add 84) := ok_iadd (by decide +kernel : decode (mb_ 172) 83 = .ok (.iadd, 1))
theorem ok_X12_takesLine_84 : ok_S 172 84 (sf_push (0, 0) 85) := ok_iconst (by decide +kernel : decode (mb_ 172) 84 = .ok (.iconst 0, 1)) ⟨by decide, by decide⟩
theorem ok_X12_takesLine_85 : ok_S 172 85 (sf_iast 86) := ok_iast (by decide +kernel : decode (mb_ 172) 85 = .ok (.iastore, 1))
theorem ok_X12_takesLine_86 : ok_S 172 86 (sf_ld 0 1 87) := ok_iload_n (by decide +kernel : decode (mb_ 172) 86 = .ok (.iload_n 1, 1)) rfl
theorem ok_X12_takesLine_87 : ok_S 172 87 (sf_push (0, 3) 88) := ok_iconst (by decide +kernel : decode (mb_ 172) 87 = .ok (.iconst 3, 1)) ⟨by decide, by decide⟩
theorem ok_X12_takesLine_88 : ok_S 172 88 (sf_ic 0 114 91) := ok_ic0 (by decide +kernel : decode (mb_ 172) 88 = .ok (.if_icmp .eq 26, 3)) (by decide)
theorem ok_X12_takesLine_91 : ok_S 172 91 (sf_ld 2 0 92) := ok_aload_n (by decide +kernel : decode (mb_ 172) 91 = .ok (.aload_n 0, 1)) rfl
theorem ok_X12_takesLine_92 : ok_S 172 92 (sf_push (0, 0) 93) := ok_iconst (by decide +kernel : decode (mb_ 172) 92 = .ok (.iconst 0, 1)) ⟨by decide, by decide⟩
theorem ok_X12_takesLine_93 : ok_S 172 93 (sf_ld 0 2 94) := ok_iload_n (by decide +kernel : decode (mb_ 172) 93 = .ok (.iload_n 2, 1)) rfl
theorem ok_X12_takesLine_94 : ok_S 172 94 (sf_cv 13 [2, 0, 0] 168 97) := ok_cv mt_168 cl_13 (by decide +kernel : decode (mb_ 172) 94 = .ok (.invokevirtual 114, 3)) tw_1253 tw_1255 ts_36 tw_7 rfl (by decide +kernel) (mh_ok rfl) (by decide) (by decide)
theorem ok_X12_takesLine_97 : ok_S 172 97 (sf_if 1 102 100) := ok_if1 (by decide +kernel : decode (mb_ 172) 97 = .ok (.ifCond .ne 5, 3)) (by decide)
theorem ok_X12_takesLine_100 : ok_S 172 100 (sf_push (0, 0) 101) := ok_iconst (by decide +kernel : decode (mb_ 172) 100 = .ok (.iconst 0, 1)) ⟨by decide, by decide⟩
theorem ok_X12_takesLine_101 : ok_S 172 101 (sf_rr 0 1) := ok_rr (by decide +kernel : decode (mb_ 172) 101 = .ok (.ireturn, 1)) rfl (so_nz .boolean rfl rfl)
theorem ok_X12_takesLine_102 : ok_S 172 102 (sf_ld 2 0 103) := ok_aload_n (by decide +kernel : decode (mb_ 172) 102 = .ok (.aload_n 0, 1)) rfl
theorem ok_X12_takesLine_103 : ok_S 172 103 (sf_gr 13 13 0 106) := ok_gr fd_13_0 (by decide +kernel : decode (mb_ 172) 103 = .ok (.getfield 7, 3)) tw_1126 (Or.inl rfl) rfl
theorem ok_X12_takesLine_106 : ok_S 172 106 (sf_ld 0 3 107) := ok_iload_n (by decide +kernel : decode (mb_ 172) 106 = .ok (.iload_n 3, 1)) rfl
theorem ok_X12_takesLine_107 : ok_S 172 107 (sf_push (0, 2) 108) := ok_iconst (by decide +kernel : decode (mb_ 172) 107 = .ok (.iconst 2, 1)) ⟨by decide, by decide⟩
theorem ok_X12_takesLine_108 : ok_S 172 108 (sf_i2 mx_add 109) := ok_iadd (by decide +kernel : decode (mb_ 172) 108 = .ok (.iadd, 1))
theorem ok_X12_takesLine_109 : ok_S 172 109 (sf_ld 2 0 110) := ok_aload_n (by decide +kernel : decode (mb_ 172) 109 = .ok (.aload_n 0, 1)) rfl
theorem ok_X12_takesLine_110 : ok_S 172 110 (sf_gi 13 13 10 113) := ok_gi fd_13_10 (by decide +kernel : decode (mb_ 172) 110 = .ok (.getfield 95, 3)) tw_1136 (Or.inl rfl) rfl
theorem ok_X12_takesLine_113 : ok_S 172 113 (sf_iast 114) := ok_iast (by decide +kernel : decode (mb_ 172) 113 = .ok (.iastore, 1))
theorem ok_X12_takesLine_114 : ok_S 172 114 (sf_ld 0 1 115) := ok_iload_n (by decide +kernel : decode (mb_ 172) 114 = .ok (.iload_n 1, 1)) rfl
theorem ok_X12_takesLine_115 : ok_S 172 115 (sf_push (0, 2) 116) := ok_iconst (by decide +kernel : decode (mb_ 172) 115 = .ok (.iconst 2, 1)) ⟨by decide, by decide⟩
theorem ok_X12_takesLine_116 : ok_S 172 116 (sf_ic 0 124 119) := ok_ic0 (by decide +kernel : decode (mb_ 172) 116 = .ok (.if_icmp .eq 8, 3)) (by decide)
theorem ok_X12_takesLine_119 : ok_S 172 119 (sf_ld 0 1 120) := ok_iload_n (by decide +kernel : decode (mb_ 172) 119 = .ok (.iload_n 1, 1)) rfl
theorem ok_X12_takesLine_120 : ok_S 172 120 (sf_push (0, 3) 121) := ok_iconst (by decide +kernel : decode (mb_ 172) 120 = .ok (.iconst 3, 1)) ⟨by decide, by decide⟩
theorem ok_X12_takesLine_121 : ok_S 172 121 (sf_ic 1 166 124) := ok_ic1 (by decide +kernel : decode (mb_ 172) 121 = .ok (.if_icmp .ne 45, 3)) (by decide)
theorem ok_X12_takesLine_124 : ok_S 172 124 (sf_ld 2 0 125) := ok_aload_n (by decide +kernel : decode (mb_ 172) 124 = .ok (.aload_n 0, 1)) rfl
theorem ok_X12_takesLine_125 : ok_S 172 125 (sf_ld 0 1 126) := ok_iload_n (by decide +kernel : decode (mb_ 172) 125 = .ok (.iload_n 1, 1)) rfl
theorem ok_X12_takesLine_126 : ok_S 172 126 (sf_push (0, 2) 127) := ok_iconst (by decide +kernel : decode (mb_ 172) 126 = .ok (.iconst 2, 1)) ⟨by decide, by decide⟩
theorem ok_X12_takesLine_127 : ok_S 172 127 (sf_ic 1 134 130) := ok_ic1 (by decide +kernel : decode (mb_ 172) 127 = .ok (.if_icmp .ne 7, 3)) (by decide)
theorem ok_X12_takesLine_130 : ok_S 172 130 (sf_push (0, 0) 131) := ok_iconst (by decide +kernel : decode (mb_ 172) 130 = .ok (.iconst 0, 1)) ⟨by decide, by decide⟩
theorem ok_X12_takesLine_131 : ok_S 172 131 (sf_go 135) := ok_goto (by decide +kernel : decode (mb_ 172) 131 = .ok (.goto 4, 3)) (by decide)
theorem ok_X12_takesLine_134 : ok_S 172 134 (sf_push (0, 1) 135) := ok_iconst (by decide +kernel : decode (mb_ 172) 134 = .ok (.iconst 1, 1)) ⟨by decide, by decide⟩
theorem ok_X12_takesLine_135 : ok_S 172 135 (sf_ld 0 1 136) := ok_iload_n (by decide +kernel : decode (mb_ 172) 135 = .ok (.iload_n 1, 1)) rfl
theorem ok_X12_takesLine_136 : ok_S 172 136 (sf_push (0, 2) 137) := ok_iconst (by decide +kernel : decode (mb_ 172) 136 = .ok (.iconst 2, 1)) ⟨by decide, by decide⟩
theorem ok_X12_takesLine_137 : ok_S 172 137 (sf_ic 1 144 140) := ok_ic1 (by decide +kernel : decode (mb_ 172) 137 = .ok (.if_icmp .ne 7, 3)) (by decide)
theorem ok_X12_takesLine_140 : ok_S 172 140 (sf_ld 0 2 141) := ok_iload_n (by decide +kernel : decode (mb_ 172) 140 = .ok (.iload_n 2, 1)) rfl
theorem ok_X12_takesLine_141 : ok_S 172 141 (sf_go 146) := ok_goto (by decide +kernel : decode (mb_ 172) 141 = .ok (.goto 5, 3)) (by decide)
theorem ok_X12_takesLine_144 : ok_S 172 144 (sf_push (0, 99) 146) := ok_bipush (by decide +kernel : decode (mb_ 172) 144 = .ok (.bipush 99, 2)) ⟨by decide, by decide⟩ (by decide +kernel)
theorem ok_X12_takesLine_146 : ok_S 172 146 (sf_cv 13 [2, 0, 0] 168 149) := ok_cv mt_168 cl_13 (by decide +kernel : decode (mb_ 172) 146 = .ok (.invokevirtual 114, 3)) tw_1253 tw_1255 ts_36 tw_7 rfl (by decide +kernel) (mh_ok rfl) (by decide) (by decide)
theorem ok_X12_takesLine_149 : ok_S 172 149 (sf_if 1 154 152) := ok_if1 (by decide +kernel : decode (mb_ 172) 149 = .ok (.ifCond .ne 5, 3)) (by decide)
theorem ok_X12_takesLine_152 : ok_S 172 152 (sf_push (0, 0) 153) := ok_iconst (by decide +kernel : decode (mb_ 172) 152 = .ok (.iconst 0, 1)) ⟨by decide, by decide⟩
theorem ok_X12_takesLine_153 : ok_S 172 153 (sf_rr 0 1) := ok_rr (by decide +kernel : decode (mb_ 172) 153 = .ok (.ireturn, 1)) rfl (so_nz .boolean rfl rfl)
theorem ok_X12_takesLine_154 : ok_S 172 154 (sf_ld 2 0 155) := ok_aload_n (by decide +kernel : decode (mb_ 172) 154 = .ok (.aload_n 0, 1)) rfl
theorem ok_X12_takesLine_155 : ok_S 172 155 (sf_gr 13 13 0 158) := ok_gr fd_13_0 (by decide +kernel : decode (mb_ 172) 155 = .ok (.getfield 7, 3)) tw_1126 (Or.inl rfl) rfl
theorem ok_X12_takesLine_158 : ok_S 172 158 (sf_ld 0 3 159) := ok_iload_n (by decide +kernel : decode (mb_ 172) 158 = .ok (.iload_n 3, 1)) rfl
theorem ok_X12_takesLine_159 : ok_S 172 159 (sf_push (0, 3) 160) := ok_iconst (by decide +kernel : decode (mb_ 172) 159 = .ok (.iconst 3, 1)) ⟨by decide, by decide⟩
theorem ok_X12_takesLine_160 : ok_S 172 160 (sf_i2 mx_add 161) := ok_iadd (by decide +kernel : decode (mb_ 172) 160 = .ok (.iadd, 1))
theorem ok_X12_takesLine_161 : ok_S 172 161 (sf_ld 2 0 162) := ok_aload_n (by decide +kernel : decode (mb_ 172) 161 = .ok (.aload_n 0, 1)) rfl
theorem ok_X12_takesLine_162 : ok_S 172 162 (sf_gi 13 13 10 165) := ok_gi fd_13_10 (by decide +kernel : decode (mb_ 172) 162 = .ok (.getfield 95, 3)) tw_1136 (Or.inl rfl) rfl
theorem ok_X12_takesLine_165 : ok_S 172 165 (sf_iast 166) := ok_iast (by decide +kernel : decode (mb_ 172) 165 = .ok (.iastore, 1))
theorem ok_X12_takesLine_166 : ok_S 172 166 (sf_ld 2 0 167) := ok_aload_n (by decide +kernel : decode (mb_ 172) 166 = .ok (.aload_n 0, 1)) rfl
theorem ok_X12_takesLine_167 : ok_S 172 167 (sf_gr 13 13 0 170) := ok_gr fd_13_0 (by decide +kernel : decode (mb_ 172) 167 = .ok (.getfield 7, 3)) tw_1126 (Or.inl rfl) rfl
theorem ok_X12_takesLine_170 : ok_S 172 170 (sf_push (0, 1) 171) := ok_iconst (by decide +kernel : decode (mb_ 172) 170 = .ok (.iconst 1, 1)) ⟨by decide, by decide⟩
theorem ok_X12_takesLine_171 : ok_S 172 171 (sf_dup2 172) := ok_dup2 (by decide +kernel : decode (mb_ 172) 171 = .ok (.dup2, 1))
theorem ok_X12_takesLine_172 : ok_S 172 172 (sf_iald 173) := ok_iald (by decide +kernel : decode (mb_ 172) 172 = .ok (.iaload, 1))
theorem ok_X12_takesLine_173 : ok_S 172 173 (sf_push (0, 1) 174) := ok_iconst (by decide +kernel : decode (mb_ 172) 173 = .ok (.iconst 1, 1)) ⟨by decide, by decide⟩
theorem ok_X12_takesLine_174 : ok_S 172 174 (sf_i2 mx_add 175) := ok_iadd (by decide +kernel : decode (mb_ 172) 174 = .ok (.iadd, 1))
theorem ok_X12_takesLine_175 : ok_S 172 175 (sf_iast 176) := ok_iast (by decide +kernel : decode (mb_ 172) 175 = .ok (.iastore, 1))
theorem ok_X12_takesLine_176 : ok_S 172 176 (sf_ld 2 0 177) := ok_aload_n (by decide +kernel : decode (mb_ 172) 176 = .ok (.aload_n 0, 1)) rfl
theorem ok_X12_takesLine_177 : ok_S 172 177 (sf_push (0, 59) 179) := ok_bipush (by decide +kernel : decode (mb_ 172) 177 = .ok (.bipush 59, 2)) ⟨by decide, by decide⟩ (by decide +kernel)
theorem ok_X12_takesLine_179 : ok_S 172 179 (sf_cv 13 [2, 0] 167 182) := ok_cv mt_167 cl_13 (by decide +kernel : decode (mb_ 172) 179 = .ok (.invokevirtual 119, 3)) tw_1258 tw_1260 ts_37 tw_7 rfl (by decide +kernel) (mh_ok rfl) (by decide) (by decide)
theorem ok_X12_takesLine_182 : ok_S 172 182 (sf_rr 0 1) := ok_rr (by decide +kernel : decode (mb_ 172) 182 = .ok (.ireturn, 1)) rfl (so_nz .boolean rfl rfl)
theorem ok_X12_takesLine (pc : Nat) : ok_S 172 pc (cd_X12_takesLine pc) :=
  (ok_bf (ok_bf (ok_bf (ok_bf (ok_bf (ok_bf (ok_bf (ok_lf pc ok_X12_takesLine_182) (ok_lf pc ok_X12_takesLine_179)) (ok_bf (ok_lf pc ok_X12_takesLine_177) (ok_lf pc ok_X12_takesLine_176))) (ok_bf (ok_bf (ok_lf pc ok_X12_takesLine_175) (ok_lf pc ok_X12_takesLine_174)) (ok_bf (ok_lf pc ok_X12_takesLine_173) (ok_lf pc ok_X12_takesLine_172)))) (ok_bf (ok_bf (ok_bf (ok_lf pc ok_X12_takesLine_171) (ok_lf pc ok_X12_takesLine_170)) (ok_bf (ok_lf pc ok_X12_takesLine_167) (ok_lf pc ok_X12_takesLine_166))) (ok_bf (ok_bf (ok_lf pc ok_X12_takesLine_165) (ok_lf pc ok_X12_takesLine_162)) (ok_bf (ok_lf pc ok_X12_takesLine_161) (ok_lf pc ok_X12_takesLine_160))))) (ok_bf (ok_bf (ok_bf (ok_bf (ok_lf pc ok_X12_takesLine_159) (ok_lf pc ok_X12_takesLine_158)) (ok_bf (ok_lf pc ok_X12_takesLine_155) (ok_lf pc ok_X12_takesLine_154))) (ok_bf (ok_bf (ok_lf pc ok_X12_takesLine_153) (ok_lf pc ok_X12_takesLine_152)) (ok_bf (ok_lf pc ok_X12_takesLine_149) (ok_lf pc ok_X12_takesLine_146)))) (ok_bf (ok_bf (ok_bf (ok_lf pc ok_X12_takesLine_144) (ok_lf pc ok_X12_takesLine_141)) (ok_bf (ok_lf pc ok_X12_takesLine_140) (ok_lf pc ok_X12_takesLine_137))) (ok_bf (ok_bf (ok_lf pc ok_X12_takesLine_136) (ok_lf pc ok_X12_takesLine_135)) (ok_lf pc ok_X12_takesLine_134))))) (ok_bf (ok_bf (ok_bf (ok_bf (ok_bf (ok_lf pc ok_X12_takesLine_131) (ok_lf pc ok_X12_takesLine_130)) (ok_bf (ok_lf pc ok_X12_takesLine_127) (ok_lf pc ok_X12_takesLine_126))) (ok_bf (ok_bf (ok_lf pc ok_X12_takesLine_125) (ok_lf pc ok_X12_takesLine_124)) (ok_bf (ok_lf pc ok_X12_takesLine_121) (ok_lf pc ok_X12_takesLine_120)))) (ok_bf (ok_bf (ok_bf (ok_lf pc ok_X12_takesLine_119) (ok_lf pc ok_X12_takesLine_116)) (ok_bf (ok_lf pc ok_X12_takesLine_115) (ok_lf pc ok_X12_takesLine_114))) (ok_bf (ok_bf (ok_lf pc ok_X12_takesLine_113) (ok_lf pc ok_X12_takesLine_110)) (ok_lf pc ok_X12_takesLine_109)))) (ok_bf (ok_bf (ok_bf (ok_bf (ok_lf pc ok_X12_takesLine_108) (ok_lf pc ok_X12_takesLine_107)) (ok_bf (ok_lf pc ok_X12_takesLine_106) (ok_lf pc ok_X12_takesLine_103))) (ok_bf (ok_bf (ok_lf pc ok_X12_takesLine_102) (ok_lf pc ok_X12_takesLine_101)) (ok_bf (ok_lf pc ok_X12_takesLine_100) (ok_lf pc ok_X12_takesLine_97)))) (ok_bf (ok_bf (ok_bf (ok_lf pc ok_X12_takesLine_94) (ok_lf pc ok_X12_takesLine_93)) (ok_bf (ok_lf pc ok_X12_takesLine_92) (ok_lf pc ok_X12_takesLine_91))) (ok_bf (ok_bf (ok_lf pc ok_X12_takesLine_88) (ok_lf pc ok_X12_takesLine_87)) (ok_lf pc ok_X12_takesLine_86)))))) (ok_bf (ok_bf (ok_bf (ok_bf (ok_bf (ok_bf (ok_lf pc ok_X12_takesLine_85) (ok_lf pc ok_X12_takesLine_84)) (ok_bf (ok_lf pc ok_X12_takesLine_83) (ok_lf pc ok_X12_takesLine_82))) (ok_bf (ok_bf (ok_lf pc ok_X12_takesLine_81) (ok_lf pc ok_X12_takesLine_78)) (ok_bf (ok_lf pc ok_X12_takesLine_77) (ok_lf pc ok_X12_takesLine_76)))) (ok_bf (ok_bf (ok_bf (ok_lf pc ok_X12_takesLine_75) (ok_lf pc ok_X12_takesLine_74)) (ok_bf (ok_lf pc ok_X12_takesLine_73) (ok_lf pc ok_X12_takesLine_72))) (ok_bf (ok_bf (ok_lf pc ok_X12_takesLine_69) (ok_lf pc ok_X12_takesLine_68)) (ok_lf pc ok_X12_takesLine_67)))) (ok_bf (ok_bf (ok_bf (ok_bf (ok_lf pc ok_X12_takesLine_64) (ok_lf pc ok_X12_takesLine_63)) (ok_bf (ok_lf pc ok_X12_takesLine_62) (ok_lf pc ok_X12_takesLine_61))) (ok_bf (ok_bf (ok_lf pc ok_X12_takesLine_60) (ok_lf pc ok_X12_takesLine_57)) (ok_bf (ok_lf pc ok_X12_takesLine_56) (ok_lf pc ok_X12_takesLine_55)))) (ok_bf (ok_bf (ok_bf (ok_lf pc ok_X12_takesLine_54) (ok_lf pc ok_X12_takesLine_53)) (ok_bf (ok_lf pc ok_X12_takesLine_50) (ok_lf pc ok_X12_takesLine_49))) (ok_bf (ok_bf (ok_lf pc ok_X12_takesLine_48) (ok_lf pc ok_X12_takesLine_47)) (ok_lf pc ok_X12_takesLine_44))))) (ok_bf (ok_bf (ok_bf (ok_bf (ok_bf (ok_lf pc ok_X12_takesLine_41) (ok_lf pc ok_X12_takesLine_40)) (ok_bf (ok_lf pc ok_X12_takesLine_39) (ok_lf pc ok_X12_takesLine_38))) (ok_bf (ok_bf (ok_lf pc ok_X12_takesLine_37) (ok_lf pc ok_X12_takesLine_36)) (ok_bf (ok_lf pc ok_X12_takesLine_35) (ok_lf pc ok_X12_takesLine_34)))) (ok_bf (ok_bf (ok_bf (ok_lf pc ok_X12_takesLine_33) (ok_lf pc ok_X12_takesLine_30)) (ok_bf (ok_lf pc ok_X12_takesLine_29) (ok_lf pc ok_X12_takesLine_28))) (ok_bf (ok_bf (ok_lf pc ok_X12_takesLine_26) (ok_lf pc ok_X12_takesLine_25)) (ok_lf pc ok_X12_takesLine_24)))) (ok_bf (ok_bf (ok_bf (ok_bf (ok_lf pc ok_X12_takesLine_23) (ok_lf pc ok_X12_takesLine_22)) (ok_bf (ok_lf pc ok_X12_takesLine_21) (ok_lf pc ok_X12_takesLine_18))) (ok_bf (ok_bf (ok_lf pc ok_X12_takesLine_17) (ok_lf pc ok_X12_takesLine_14)) (ok_bf (ok_lf pc ok_X12_takesLine_13) (ok_lf pc ok_X12_takesLine_12)))) (ok_bf (ok_bf (ok_bf (ok_lf pc ok_X12_takesLine_11) (ok_lf pc ok_X12_takesLine_8)) (ok_bf (ok_lf pc ok_X12_takesLine_6) (ok_lf pc ok_X12_takesLine_5))) (ok_bf (ok_bf (ok_lf pc ok_X12_takesLine_4) (ok_lf pc ok_X12_takesLine_1)) (ok_lf pc ok_X12_takesLine_0)))))))
theorem mo_X12_takesLine (pc : Nat) : mo_S (cd_X12_takesLine pc) :=
  (mo_bf (mo_bf (mo_bf (mo_bf (mo_bf (mo_bf (mo_bf (mo_bf mo_rr mo_no) (mo_bf mo_cv mo_no)) (mo_bf (mo_bf mo_push mo_no) (mo_bf mo_ld mo_no))) (mo_bf (mo_bf (mo_bf mo_iast mo_no) (mo_bf mo_i2 mo_no)) (mo_bf (mo_bf mo_push mo_no) (mo_bf mo_iald mo_no)))) (mo_bf (mo_bf (mo_bf (mo_bf mo_dup2 mo_no) (mo_bf mo_push mo_no)) (mo_bf (mo_bf mo_gr mo_no) (mo_bf mo_ld mo_no))) (mo_bf (mo_bf (mo_bf mo_iast mo_no) (mo_bf mo_gi mo_no)) (mo_bf (mo_bf mo_ld mo_no) (mo_bf mo_i2 mo_no))))) (mo_bf (mo_bf (mo_bf (mo_bf (mo_bf mo_push mo_no) (mo_bf mo_ld mo_no)) (mo_bf (mo_bf mo_gr mo_no) (mo_bf mo_ld mo_no))) (mo_bf (mo_bf (mo_bf mo_rr mo_no) (mo_bf mo_push mo_no)) (mo_bf (mo_bf mo_if mo_no) (mo_bf mo_cv mo_no)))) (mo_bf (mo_bf (mo_bf (mo_bf mo_push mo_no) (mo_bf mo_go mo_no)) (mo_bf (mo_bf mo_ld mo_no) (mo_bf mo_ic mo_no))) (mo_bf (mo_bf (mo_bf mo_push mo_no) (mo_bf mo_ld mo_no)) (mo_bf mo_push mo_no))))) (mo_bf (mo_bf (mo_bf (mo_bf (mo_bf (mo_bf mo_go mo_no) (mo_bf mo_push mo_no)) (mo_bf (mo_bf mo_ic mo_no) (mo_bf mo_push mo_no))) (mo_bf (mo_bf (mo_bf mo_ld mo_no) (mo_bf mo_ld mo_no)) (mo_bf (mo_bf mo_ic mo_no) (mo_bf mo_push mo_no)))) (mo_bf (mo_bf (mo_bf (mo_bf mo_ld mo_no) (mo_bf mo_ic mo_no)) (mo_bf (mo_bf mo_push mo_no) (mo_bf mo_ld mo_no))) (mo_bf (mo_bf (mo_bf mo_iast mo_no) (mo_bf mo_gi mo_no)) (mo_bf mo_ld mo_no)))) (mo_bf (mo_bf (mo_bf (mo_bf (mo_bf mo_i2 mo_no) (mo_bf mo_push mo_no)) (mo_bf (mo_bf mo_ld mo_no) (mo_bf mo_gr mo_no))) (mo_bf (mo_bf (mo_bf mo_ld mo_no) (mo_bf mo_rr mo_no)) (mo_bf (mo_bf mo_push mo_no) (mo_bf mo_if mo_no)))) (mo_bf (mo_bf (mo_bf (mo_bf mo_cv mo_no) (mo_bf mo_ld mo_no)) (mo_bf (mo_bf mo_push mo_no) (mo_bf mo_ld mo_no))) (mo_bf (mo_bf (mo_bf mo_ic mo_no) (mo_bf mo_push mo_no)) (mo_bf mo_ld mo_no)))))) (mo_bf (mo_bf (mo_bf (mo_bf (mo_bf (mo_bf (mo_bf mo_iast mo_no) (mo_bf mo_push mo_no)) (mo_bf (mo_bf mo_i2 mo_no) (mo_bf mo_push mo_no))) (mo_bf (mo_bf (mo_bf mo_ld mo_no) (mo_bf mo_gr mo_no)) (mo_bf (mo_bf mo_ld mo_no) (mo_bf mo_iast mo_no)))) (mo_bf (mo_bf (mo_bf (mo_bf mo_push mo_no) (mo_bf mo_i2 mo_no)) (mo_bf (mo_bf mo_push mo_no) (mo_bf mo_ld mo_no))) (mo_bf (mo_bf (mo_bf mo_gr mo_no) (mo_bf mo_ld mo_no)) (mo_bf mo_iast mo_no)))) (mo_bf (mo_bf (mo_bf (mo_bf (mo_bf mo_gi mo_no) (mo_bf mo_ld mo_no)) (mo_bf (mo_bf mo_i2 mo_no) (mo_bf mo_push mo_no))) (mo_bf (mo_bf (mo_bf mo_ld mo_no) (mo_bf mo_gr mo_no)) (mo_bf (mo_bf mo_ld mo_no) (mo_bf mo_iast mo_no)))) (mo_bf (mo_bf (mo_bf (mo_bf mo_ld mo_no) (mo_bf mo_ld mo_no)) (mo_bf (mo_bf mo_gr mo_no) (mo_bf mo_ld mo_no))) (mo_bf (mo_bf (mo_bf mo_rr mo_no) (mo_bf mo_push mo_no)) (mo_bf mo_if mo_no))))) (mo_bf (mo_bf (mo_bf (mo_bf (mo_bf (mo_bf mo_cv mo_no) (mo_bf mo_ld mo_no)) (mo_bf (mo_bf mo_push mo_no) (mo_bf mo_ld mo_no))) (mo_bf (mo_bf (mo_bf mo_st mo_no) (mo_bf mo_i2 mo_no)) (mo_bf (mo_bf mo_i2 mo_no) (mo_bf mo_iald mo_no)))) (mo_bf (mo_bf (mo_bf (mo_bf mo_push mo_no) (mo_bf mo_gr mo_no)) (mo_bf (mo_bf mo_ld mo_no) (mo_bf mo_push mo_no))) (mo_bf (mo_bf (mo_bf mo_push mo_no) (mo_bf mo_st mo_no)) (mo_bf mo_i2 mo_no)))) (mo_bf (mo_bf (mo_bf (mo_bf (mo_bf mo_push mo_no) (mo_bf mo_iald mo_no)) (mo_bf (mo_bf mo_push mo_no) (mo_bf mo_gr mo_no))) (mo_bf (mo_bf (mo_bf mo_ld mo_no) (mo_bf mo_cv mo_no)) (mo_bf (mo_bf mo_ld mo_no) (mo_bf mo_rr mo_no)))) (mo_bf (mo_bf (mo_bf (mo_bf mo_push mo_no) (mo_bf mo_ic mo_no)) (mo_bf (mo_bf mo_push mo_no) (mo_bf mo_iald mo_no))) (mo_bf (mo_bf (mo_bf mo_push mo_no) (mo_bf mo_gr mo_no)) (mo_bf mo_ld mo_no)))))))
theorem ok_X12_takesAll_0 : ok_S 173 0 (sf_ld 2 0 1) := ok_aload_n (by decide +kernel : decode (mb_ 173) 0 = .ok (.aload_n 0, 1)) rfl
theorem ok_X12_takesAll_1 : ok_S 173 1 (sf_push (0, 0) 2) := ok_iconst (by decide +kernel : decode (mb_ 173) 1 = .ok (.iconst 0, 1)) ⟨by decide, by decide⟩
theorem ok_X12_takesAll_2 : ok_S 173 2 (sf_pi 13 13 6 5) := ok_pi fd_13_6 (by decide +kernel : decode (mb_ 173) 2 = .ok (.putfield 66, 3)) tw_1132 rfl (Or.inl ff_13_6) rfl
theorem ok_X12_takesAll_5 : ok_S 173 5 (sf_ld 2 0 6) := ok_aload_n (by decide +kernel : decode (mb_ 173) 5 = .ok (.aload_n 0, 1)) rfl
theorem ok_X12_takesAll_6 : ok_S 173 6 (sf_cv 13 [2] 165 9) := ok_cv mt_165 cl_13 (by decide +kernel : decode (mb_ 173) 6 = .ok (.invokevirtual 92, 3)) tw_1221 tw_1223 ts_31 tw_7 rfl (by decide +kernel) (mh_ok rfl) (by decide) (by decide)
theorem ok_X12_takesAll_9 : ok_S 173 9 (sf_ld 2 0 10) := ok_aload_n (by decide +kernel : decode (mb_ 173) 9 = .ok (.aload_n 0, 1)) rfl
theorem ok_X12_takesAll_10 : ok_S 173 10 (sf_gi 13 13 8 13) := ok_gi fd_13_8 (by decide +kernel : decode (mb_ 173) 10 = .ok (.getfield 76, 3)) tw_1134 (Or.inl rfl) rfl
theorem ok_X12_takesAll_13 : ok_S 173 13 (sf_push (0, 1) 14) := ok_iconst (by decide +kernel : decode (mb_ 173) 13 = .ok (.iconst 1, 1)) ⟨by decide, by decide⟩
theorem ok_X12_takesAll_14 : ok_S 173 14 (sf_ic 1 131 17) := ok_ic1 (by decide +kernel : decode (mb_ 173) 14 = .ok (.if_icmp .ne 117, 3)) (by decide)
theorem ok_X12_takesAll_17 : ok_S 173 17 (sf_ld 2 0 18) := ok_aload_n (by decide +kernel : decode (mb_ 173) 17 = .ok (.aload_n 0, 1)) rfl
theorem ok_X12_takesAll_18 : ok_S 173 18 (sf_cv 13 [2] 169 21) := ok_cv mt_169 cl_13 (by decide +kernel : decode (mb_ 173) 18 = .ok (.invokevirtual 123, 3)) tw_1229 tw_1231 ts_33 tw_7 rfl (by decide +kernel) (mh_ok rfl) (by decide) (by decide)
theorem ok_X12_takesAll_21 : ok_S 173 21 (sf_st 0 1 22) := ok_istore_n (by decide +kernel : decode (mb_ 173) 21 = .ok (.istore_n 1, 1)) rfl
theorem ok_X12_takesAll_22 : ok_S 173 22 (sf_ld 2 0 23) := ok_aload_n (by decide +kernel : decode (mb_ 173) 22 = .ok (.aload_n 0, 1)) rfl
theorem ok_X12_takesAll_23 : ok_S 173 23 (sf_push (2, (-29)) 25) := ok_ldcs (tx := "same") (by decide +kernel : decode (mb_ 173) 23 = .ok (.ldc 126, 2)) (by decide) (List.mem_of_getElem? (i := 19) rfl)
theorem ok_X12_takesAll_25 : ok_S 173 25 (sf_cv 13 [2, 2] 166 28) := ok_cv mt_166 cl_13 (by decide +kernel : decode (mb_ 173) 25 = .ok (.invokevirtual 100, 3)) tw_1234 tw_1236 ts_34 tw_7 rfl (by decide +kernel) (mh_ok rfl) (by decide) (by decide)
theorem ok_X12_takesAll_28 : ok_S 173 28 (sf_if 0 35 31) := ok_if0 (by decide +kernel : decode (mb_ 173) 28 = .ok (.ifCond .eq 7, 3)) (by decide)
theorem ok_X12_takesAll_31 : ok_S 173 31 (sf_push (0, 0) 32) := ok_iconst (by decide +kernel : decode (mb_ 173) 31 = .ok (.iconst 0, 1)) ⟨by decide, by decide⟩
theorem ok_X12_takesAll_32 : ok_S 173 32 (sf_go 75) := ok_goto (by decide +kernel : decode (mb_ 173) 32 = .ok (.goto 43, 3)) (by decide)
theorem ok_X12_takesAll_35 : ok_S 173 35 (sf_ld 2 0 36) := ok_aload_n (by decide +kernel : decode (mb_ 173) 35 = .ok (.aload_n 0, 1)) rfl
theorem ok_X12_takesAll_36 : ok_S 173 36 (sf_push (2, (-30)) 38) := ok_ldcs (tx := "more") (by decide +kernel : decode (mb_ 173) 36 = .ok (.ldc 128, 2)) (by decide) (List.mem_of_getElem? (i := 20) rfl)
theorem ok_X12_takesAll_38 : ok_S 173 38 (sf_cv 13 [2, 2] 166 41) := ok_cv mt_166 cl_13 (by decide +kernel : decode (mb_ 173) 38 = .ok (.invokevirtual 100, 3)) tw_1234 tw_1236 ts_34 tw_7 rfl (by decide +kernel) (mh_ok rfl) (by decide) (by decide)
theorem ok_X12_takesAll_41 : ok_S 173 41 (sf_if 0 48 44) := ok_if0 (by decide +kernel : decode (mb_ 173) 41 = .ok (.ifCond .eq 7, 3)) (by decide)
theorem ok_X12_takesAll_44 : ok_S 173 44 (sf_push (0, 1) 45) := ok_iconst (by decide +kernel : decode (mb_ 173) 44 = .ok (.iconst 1, 1)) ⟨by decide, by decide⟩
theorem ok_X12_takesAll_45 : ok_S 173 45 (sf_go 75) := ok_goto (by decide +kernel : decode (mb_ 173) 45 = .ok (.goto 30, 3)) (by decide)
theorem ok_X12_takesAll_48 : ok_S 173 48 (sf_ld 2 0 49) := ok_aload_n (by decide +kernel : decode (mb_ 173) 48 = .ok (.aload_n 0, 1)) rfl
theorem ok_X12_takesAll_49 : ok_S 173 49 (sf_push (2, (-31)) 51) := ok_ldcs (tx := "sum") (by decide +kernel : decode (mb_ 173) 49 = .ok (.ldc 130, 2)) (by decide) (List.mem_of_getElem? (i := 21) rfl)
theorem ok_X12_takesAll_51 : ok_S 173 51 (sf_cv 13 [2, 2] 166 54) := ok_cv mt_166 cl_13 (by decide +kernel : decode (mb_ 173) 51 = .ok (.invokevirtual 100, 3)) tw_1234 tw_1236 ts_34 tw_7 rfl (by decide +kernel) (mh_ok rfl) (by decide) (by decide)
theorem ok_X12_takesAll_54 : ok_S 173 54 (sf_if 0 61 57) := ok_if0 (by decide +kernel : decode (mb_ 173) 54 = .ok (.ifCond .eq 7, 3)) (by decide)
theorem ok_X12_takesAll_57 : ok_S 173 57 (sf_push (0, 2) 58) := ok_iconst (by decide +kernel : decode (mb_ 173) 57 = .ok (.iconst 2, 1)) ⟨by decide, by decide⟩
theorem ok_X12_takesAll_58 : ok_S 173 58 (sf_go 75) := ok_goto (by decide +kernel : decode (mb_ 173) 58 = .ok (.goto 17, 3)) (by decide)
theorem ok_X12_takesAll_61 : ok_S 173 61 (sf_ld 2 0 62) := ok_aload_n (by decide +kernel : decode (mb_ 173) 61 = .ok (.aload_n 0, 1)) rfl
theorem ok_X12_takesAll_62 : ok_S 173 62 (sf_push (2, (-32)) 64) := ok_ldcs (tx := "whole") (by decide +kernel : decode (mb_ 173) 62 = .ok (.ldc 132, 2)) (by decide) (List.mem_of_getElem? (i := 22) rfl)
theorem ok_X12_takesAll_64 : ok_S 173 64 (sf_cv 13 [2, 2] 166 67) := ok_cv mt_166 cl_13 (by decide +kernel : decode (mb_ 173) 64 = .ok (.invokevirtual 100, 3)) tw_1234 tw_1236 ts_34 tw_7 rfl (by decide +kernel) (mh_ok rfl) (by decide) (by decide)
theorem ok_X12_takesAll_67 : ok_S 173 67 (sf_if 0 74 70) := ok_if0 (by decide +kernel : decode (mb_ 173) 67 = .ok (.ifCond .eq 7, 3)) (by decide)
theorem ok_X12_takesAll_70 : ok_S 173 70 (sf_push (0, 3) 71) := ok_iconst (by decide +kernel : decode (mb_ 173) 70 = .ok (.iconst 3, 1)) ⟨by decide, by decide⟩
theorem ok_X12_takesAll_71 : ok_S 173 71 (sf_go 75) := ok_goto (by decide +kernel : decode (mb_ 173) 71 = .ok (.goto 4, 3)) (by decide)
theorem ok_X12_takesAll_74 : ok_S 173 74 (sf_push (0, (-1)) 75) := ok_iconst (by decide +kernel : decode (mb_ 173) 74 = .ok (.iconst (-1), 1)) ⟨by decide, by decide⟩
theorem ok_X12_takesAll_75 : ok_S 173 75 (sf_st 0 2 76) := ok_istore_n (by decide +kernel : decode (mb_ 173) 75 = .ok (.istore_n 2, 1)) rfl
theorem ok_X12_takesAll_76 : ok_S 173 76 (sf_ld 0 1 77) := ok_iload_n (by decide +kernel : decode (mb_ 173) 76 = .ok (.iload_n 1, 1)) rfl
theorem ok_X12_takesAll_77 : ok_S 173 77 (sf_if 2 88 80) := ok_if2 (by decide +kernel : decode (mb_ 173) 77 = .ok (.ifCond .lt 11, 3)) (by decide)
theorem ok_X12_takesAll_80 : ok_S 173 80 (sf_ld 2 0 81) := ok_aload_n (by decide +kernel : decode (mb_ 173) 80 = .ok (.aload_n 0, 1)) rfl
theorem ok_X12_takesAll_81 : ok_S 173 81 (sf_ld 0 1 82) := ok_iload_n (by decide +kernel : decode (mb_ 173) 81 = .ok (.iload_n 1, 1)) rfl
theorem ok_X12_takesAll_82 : ok_S 173 82 (sf_cv 13 [2, 0] 170 85) := ok_cv mt_170 cl_13 (by decide +kernel : decode (mb_ 173) 82 = .ok (.invokevirtual 134, 3)) tw_1249 tw_1251 ts_35 tw_7 rfl (by decide +kernel) (mh_ok rfl) (by decide) (by decide)
theorem ok_X12_takesAll_85 : ok_S 173 85 (sf_go 121) := ok_goto (by decide +kernel : decode (mb_ 173) 85 = .ok (.goto 36, 3)) (by decide)
theorem ok_X12_takesAll_88 : ok_S 173 88 (sf_ld 0 2 89) := ok_iload_n (by decide +kernel : decode (mb_ 173) 88 = .ok (.iload_n 2, 1)) rfl
theorem ok_X12_takesAll_89 : ok_S 173 89 (sf_if 2 100 92) := ok_if2 (by decide +kernel : decode (mb_ 173) 89 = .ok (.ifCond .lt 11, 3)) (by decide)
theorem ok_X12_takesAll_92 : ok_S 173 92 (sf_ld 2 0 93) := ok_aload_n (by decide +kernel : decode (mb_ 173) 92 = .ok (.aload_n 0, 1)) rfl
theorem ok_X12_takesAll_93 : ok_S 173 93 (sf_ld 0 2 94) := ok_iload_n (by decide +kernel : decode (mb_ 173) 93 = .ok (.iload_n 2, 1)) rfl
theorem ok_X12_takesAll_94 : ok_S 173 94 (sf_cv 13 [2, 0] 172 97) := ok_cv mt_172 cl_13 (by decide +kernel : decode (mb_ 173) 94 = .ok (.invokevirtual 137, 3)) tw_1262 tw_1264 ts_38 tw_7 rfl (by decide +kernel) (mh_ok rfl) (by decide) (by decide)
theorem ok_X12_takesAll_97 : ok_S 173 97 (sf_go 121) := ok_goto (by decide +kernel : decode (mb_ 173) 97 = .ok (.goto 24, 3)) (by decide)
theorem ok_X12_takesAll_100 : ok_S 173 100 (sf_ld 2 0 101) := ok_aload_n (by decide +kernel : decode (mb_ 173) 100 = .ok (.aload_n 0, 1)) rfl
theorem ok_X12_takesAll_101 : ok_S 173 101 (sf_push (2, (-33)) 103) := ok_ldcs (tx := "evening") (by decide +kernel : decode (mb_ 173) 101 = .ok (.ldc 140, 2)) (by decide) (List.mem_of_getElem? (i := 23) rfl)
theorem ok_X12_takesAll_103 : ok_S 173 103 (sf_cv 13 [2, 2] 166 106) := ok_cv mt_166 cl_13 (by decide +kernel : decode (mb_ 173) 103 = .ok (.invokevirtual 100, 3)) tw_1234 tw_1236 ts_34 tw_7 rfl (by decide +kernel) (mh_ok rfl) (by decide) (by decide)
theorem ok_X12_takesAll_106 : ok_S 173 106 (sf_if 0 120 109) := ok_if0 (by decide +kernel : decode (mb_ 173) 106 = .ok (.ifCond .eq 14, 3)) (by decide)
theorem ok_X12_takesAll_109 : ok_S 173 109 (sf_ld 2 0 110) := ok_aload_n (by decide +kernel : decode (mb_ 173) 109 = .ok (.aload_n 0, 1)) rfl
theorem ok_X12_takesAll_110 : ok_S 173 110 (sf_cv 13 [2] 171 113) := ok_cv mt_171 cl_13 (by decide +kernel : decode (mb_ 173) 110 = .ok (.invokevirtual 142, 3)) tw_1267 tw_1269 ts_39 tw_7 rfl (by decide +kernel) (mh_ok rfl) (by decide) (by decide)
theorem ok_X12_takesAll_113 : ok_S 173 113 (sf_if 0 120 116) := ok_if0 (by decide +kernel : decode (mb_ 173) 113 = .ok (.ifCond .eq 7, 3)) (by decide)
theorem ok_X12_takesAll_116 : ok_S 173 116 (sf_push (0, 1) 117) := ok_iconst (by decide +kernel : decode (mb_ 173) 116 = .ok (.iconst 1, 1)) ⟨by decide, by decide⟩
theorem ok_X12_takesAll_117 : ok_S 173 117 (sf_go 121) := ok_goto (by decide +kernel : decode (mb_ 173) 117 = .ok (.goto 4, 3)) (by decide)
theorem ok_X12_takesAll_120 : ok_S 173 120 (sf_push (0, 0) 121) := ok_iconst (by decide +kernel : decode (mb_ 173) 120 = .ok (.iconst 0, 1)) ⟨by decide, by decide⟩
theorem ok_X12_takesAll_121 : ok_S 173 121 (sf_st 0 3 122) := ok_istore_n (by decide +kernel : decode (mb_ 173) 121 = .ok (.istore_n 3, 1)) rfl
theorem ok_X12_takesAll_122 : ok_S 173 122 (sf_ld 0 3 123) := ok_iload_n (by decide +kernel : decode (mb_ 173) 122 = .ok (.iload_n 3, 1)) rfl
theorem ok_X12_takesAll_123 : ok_S 173 123 (sf_if 1 128 126) := ok_if1 (by decide +kernel : decode (mb_ 173) 123 = .ok (.ifCond .ne 5, 3)) (by decide)
theorem ok_X12_takesAll_126 : ok_S 173 126 (sf_push (0, 0) 127) := ok_iconst (by decide +kernel : decode (mb_ 173) 126 = .ok (.iconst 0, 1)) ⟨by decide, by decide⟩
theorem ok_X12_takesAll_127 : ok_S 173 127 (sf_rr 0 1) := ok_rr (by decide +kernel : decode (mb_ 173) 127 = .ok (.ireturn, 1)) rfl (so_nz .boolean rfl rfl)
theorem ok_X12_takesAll_128 : ok_S 173 128 (sf_go 9) := ok_goto (by decide +kernel : decode (mb_ 173) 128 = .ok (.goto (-119), 3)) (by decide)
theorem ok_X12_takesAll_131 : ok_S 173 131 (sf_ld 2 0 132) := ok_aload_n (by decide +kernel : decode (mb_ 173) 131 = .ok (.aload_n 0, 1)) rfl
theorem ok_X12_takesAll_132 : ok_S 173 132 (sf_gi 13 13 8 135) := ok_gi fd_13_8 (by decide +kernel : decode (mb_ 173) 132 = .ok (.getfield 76, 3)) tw_1134 (Or.inl rfl) rfl
theorem ok_X12_takesAll_135 : ok_S 173 135 (sf_if 1 142 138) := ok_if1 (by decide +kernel : decode (mb_ 173) 135 = .ok (.ifCond .ne 7, 3)) (by decide)
theorem ok_X12_takesAll_138 : ok_S 173 138 (sf_push (0, 1) 139) := ok_iconst (by decide +kernel : decode (mb_ 173) 138 = .ok (.iconst 1, 1)) ⟨by decide, by decide⟩
theorem ok_X12_takesAll_139 : ok_S 173 139 (sf_go 143) := ok_goto (by decide +kernel : decode (mb_ 173) 139 = .ok (.goto 4, 3)) (by decide)
theorem ok_X12_takesAll_142 : ok_S 173 142 (sf_push (0, 0) 143) := ok_iconst (by decide +kernel : decode (mb_ 173) 142 = .ok (.iconst 0, 1)) ⟨by decide, by decide⟩
theorem ok_X12_takesAll_143 : ok_S 173 143 (sf_rr 0 1) := ok_rr (by decide +kernel : decode (mb_ 173) 143 = .ok (.ireturn, 1)) rfl (so_nz .boolean rfl rfl)
theorem ok_X12_takesAll (pc : Nat) : ok_S 173 pc (cd_X12_takesAll pc) :=
  (ok_bf (ok_bf (ok_bf (ok_bf (ok_bf (ok_bf (ok_bf (ok_lf pc ok_X12_takesAll_143) (ok_lf pc ok_X12_takesAll_142)) (ok_lf pc ok_X12_takesAll_139)) (ok_bf (ok_lf pc ok_X12_takesAll_138) (ok_lf pc ok_X12_takesAll_135))) (ok_bf (ok_bf (ok_bf (ok_lf pc ok_X12_takesAll_132) (ok_lf pc ok_X12_takesAll_131)) (ok_lf pc ok_X12_takesAll_128)) (ok_bf (ok_lf pc ok_X12_takesAll_127) (ok_lf pc ok_X12_takesAll_126)))) (ok_bf (ok_bf (ok_bf (ok_bf (ok_lf pc ok_X12_takesAll_123) (ok_lf pc ok_X12_takesAll_122)) (ok_lf pc ok_X12_takesAll_121)) (ok_bf (ok_lf pc ok_X12_takesAll_120) (ok_lf pc ok_X12_takesAll_117))) (ok_bf (ok_bf (ok_lf pc ok_X12_takesAll_116) (ok_lf pc ok_X12_takesAll_113)) (ok_bf (ok_lf pc ok_X12_takesAll_110) (ok_lf pc ok_X12_takesAll_109))))) (ok_bf (ok_bf (ok_bf (ok_bf (ok_bf (ok_lf pc ok_X12_takesAll_106) (ok_lf pc ok_X12_takesAll_103)) (ok_lf pc ok_X12_takesAll_101)) (ok_bf (ok_lf pc ok_X12_takesAll_100) (ok_lf pc ok_X12_takesAll_97))) (ok_bf (ok_bf (ok_lf pc ok_X12_takesAll_94) (ok_lf pc ok_X12_takesAll_93)) (ok_bf (ok_lf pc ok_X12_takesAll_92) (ok_lf pc ok_X12_takesAll_89)))) (ok_bf (ok_bf (ok_bf (ok_bf (ok_lf pc ok_X12_takesAll_88) (ok_lf pc ok_X12_takesAll_85)) (ok_lf pc ok_X12_takesAll_82)) (ok_bf (ok_lf pc ok_X12_takesAll_81) (ok_lf pc ok_X12_takesAll_80))) (ok_bf (ok_bf (ok_lf pc ok_X12_takesAll_77) (ok_lf pc ok_X12_takesAll_76)) (ok_bf (ok_lf pc ok_X12_takesAll_75) (ok_lf pc ok_X12_takesAll_74)))))) (ok_bf (ok_bf (ok_bf (ok_bf (ok_bf (ok_bf (ok_lf pc ok_X12_takesAll_71) (ok_lf pc ok_X12_takesAll_70)) (ok_lf pc ok_X12_takesAll_67)) (ok_bf (ok_lf pc ok_X12_takesAll_64) (ok_lf pc ok_X12_takesAll_62))) (ok_bf (ok_bf (ok_lf pc ok_X12_takesAll_61) (ok_lf pc ok_X12_takesAll_58)) (ok_bf (ok_lf pc ok_X12_takesAll_57) (ok_lf pc ok_X12_takesAll_54)))) (ok_bf (ok_bf (ok_bf (ok_bf (ok_lf pc ok_X12_takesAll_51) (ok_lf pc ok_X12_takesAll_49)) (ok_lf pc ok_X12_takesAll_48)) (ok_bf (ok_lf pc ok_X12_takesAll_45) (ok_lf pc ok_X12_takesAll_44))) (ok_bf (ok_bf (ok_lf pc ok_X12_takesAll_41) (ok_lf pc ok_X12_takesAll_38)) (ok_bf (ok_lf pc ok_X12_takesAll_36) (ok_lf pc ok_X12_takesAll_35))))) (ok_bf (ok_bf (ok_bf (ok_bf (ok_bf (ok_lf pc ok_X12_takesAll_32) (ok_lf pc ok_X12_takesAll_31)) (ok_lf pc ok_X12_takesAll_28)) (ok_bf (ok_lf pc ok_X12_takesAll_25) (ok_lf pc ok_X12_takesAll_23))) (ok_bf (ok_bf (ok_lf pc ok_X12_takesAll_22) (ok_lf pc ok_X12_takesAll_21)) (ok_bf (ok_lf pc ok_X12_takesAll_18) (ok_lf pc ok_X12_takesAll_17)))) (ok_bf (ok_bf (ok_bf (ok_bf (ok_lf pc ok_X12_takesAll_14) (ok_lf pc ok_X12_takesAll_13)) (ok_lf pc ok_X12_takesAll_10)) (ok_bf (ok_lf pc ok_X12_takesAll_9) (ok_lf pc ok_X12_takesAll_6))) (ok_bf (ok_bf (ok_lf pc ok_X12_takesAll_5) (ok_lf pc ok_X12_takesAll_2)) (ok_bf (ok_lf pc ok_X12_takesAll_1) (ok_lf pc ok_X12_takesAll_0)))))))
theorem mo_X12_takesAll (pc : Nat) : mo_S (cd_X12_takesAll pc) :=
  (mo_bf (mo_bf (mo_bf (mo_bf (mo_bf (mo_bf (mo_bf (mo_bf mo_rr mo_no) (mo_bf mo_push mo_no)) (mo_bf mo_go mo_no)) (mo_bf (mo_bf mo_push mo_no) (mo_bf mo_if mo_no))) (mo_bf (mo_bf (mo_bf (mo_bf mo_gi mo_no) (mo_bf mo_ld mo_no)) (mo_bf mo_go mo_no)) (mo_bf (mo_bf mo_rr mo_no) (mo_bf mo_push mo_no)))) (mo_bf (mo_bf (mo_bf (mo_bf (mo_bf mo_if mo_no) (mo_bf mo_ld mo_no)) (mo_bf mo_st mo_no)) (mo_bf (mo_bf mo_push mo_no) (mo_bf mo_go mo_no))) (mo_bf (mo_bf (mo_bf mo_push mo_no) (mo_bf mo_if mo_no)) (mo_bf (mo_bf mo_cv mo_no) (mo_bf mo_ld mo_no))))) (mo_bf (mo_bf (mo_bf (mo_bf (mo_bf (mo_bf mo_if mo_no) (mo_bf mo_cv mo_no)) (mo_bf mo_push mo_no)) (mo_bf (mo_bf mo_ld mo_no) (mo_bf mo_go mo_no))) (mo_bf (mo_bf (mo_bf mo_cv mo_no) (mo_bf mo_ld mo_no)) (mo_bf (mo_bf mo_ld mo_no) (mo_bf mo_if mo_no)))) (mo_bf (mo_bf (mo_bf (mo_bf (mo_bf mo_ld mo_no) (mo_bf mo_go mo_no)) (mo_bf mo_cv mo_no)) (mo_bf (mo_bf mo_ld mo_no) (mo_bf mo_ld mo_no))) (mo_bf (mo_bf (mo_bf mo_if mo_no) (mo_bf mo_ld mo_no)) (mo_bf (mo_bf mo_st mo_no) (mo_bf mo_push mo_no)))))) (mo_bf (mo_bf (mo_bf (mo_bf (mo_bf (mo_bf (mo_bf mo_go mo_no) (mo_bf mo_push mo_no)) (mo_bf mo_if mo_no)) (mo_bf (mo_bf mo_cv mo_no) (mo_bf mo_push mo_no))) (mo_bf (mo_bf (mo_bf mo_ld mo_no) (mo_bf mo_go mo_no)) (mo_bf (mo_bf mo_push mo_no) (mo_bf mo_if mo_no)))) (mo_bf (mo_bf (mo_bf (mo_bf (mo_bf mo_cv mo_no) (mo_bf mo_push mo_no)) (mo_bf mo_ld mo_no)) (mo_bf (mo_bf mo_go mo_no) (mo_bf mo_push mo_no))) (mo_bf (mo_bf (mo_bf mo_if mo_no) (mo_bf mo_cv mo_no)) (mo_bf (mo_bf mo_push mo_no) (mo_bf mo_ld mo_no))))) (mo_bf (mo_bf (mo_bf (mo_bf (mo_bf (mo_bf mo_go mo_no) (mo_bf mo_push mo_no)) (mo_bf mo_if mo_no)) (mo_bf (mo_bf mo_cv mo_no) (mo_bf mo_push mo_no))) (mo_bf (mo_bf (mo_bf mo_ld mo_no) (mo_bf mo_st mo_no)) (mo_bf (mo_bf mo_cv mo_no) (mo_bf mo_ld mo_no)))) (mo_bf (mo_bf (mo_bf (mo_bf (mo_bf mo_ic mo_no) (mo_bf mo_push mo_no)) (mo_bf mo_gi mo_no)) (mo_bf (mo_bf mo_ld mo_no) (mo_bf mo_cv mo_no))) (mo_bf (mo_bf (mo_bf mo_ld mo_no) (mo_bf mo_pi mo_no)) (mo_bf (mo_bf mo_push mo_no) (mo_bf mo_ld mo_no)))))))
theorem ok_X12_valley_0 : ok_S 174 0 (sf_ld 2 0 1) := ok_aload_n (by decide +kernel : decode (mb_ 174) 0 = .ok (.aload_n 0, 1)) rfl
theorem ok_X12_valley_1 : ok_S 174 1 (sf_gr 13 13 0 4) := ok_gr fd_13_0 (by decide +kernel : decode (mb_ 174) 1 = .ok (.getfield 7, 3)) tw_1126 (Or.inl rfl) rfl
theorem ok_X12_valley_4 : ok_S 174 4 (sf_ld 2 0 5) := ok_aload_n (by decide +kernel : decode (mb_ 174) 4 = .ok (.aload_n 0, 1)) rfl
theorem ok_X12_valley_5 : ok_S 174 5 (sf_gr 13 13 2 8) := ok_gr fd_13_2 (by decide +kernel : decode (mb_ 174) 5 = .ok (.getfield 16, 3)) tw_1128 (Or.inl rfl) rfl
theorem ok_X12_valley_8 : ok_S 174 8 (sf_cs [2, 2] 155 11) := ok_cs mt_155 (by decide +kernel : decode (mb_ 174) 8 = .ok (.invokestatic 146, 3)) tw_1214 tw_1215 tw_7 (by decide +kernel) (mh_ok rfl) (by decide) (by decide)
theorem ok_X12_valley_11 : ok_S 174 11 (sf_ld 2 0 12) := ok_aload_n (by decide +kernel : decode (mb_ 174) 11 = .ok (.aload_n 0, 1)) rfl
theorem ok_X12_valley_12 : ok_S 174 12 (sf_cv 13 [2] 156 15) := ok_cv mt_156 cl_13 (by decide +kernel : decode (mb_ 174) 12 = .ok (.invokevirtual 53, 3)) tw_1122 tw_1124 ts_29 tw_7 rfl (by decide +kernel) (mh_ok rfl) (by decide) (by decide)
theorem ok_X12_valley_15 : ok_S 174 15 (sf_ld 2 0 16) := ok_aload_n (by decide +kernel : decode (mb_ 174) 15 = .ok (.aload_n 0, 1)) rfl
theorem ok_X12_valley_16 : ok_S 174 16 (sf_cv 13 [2] 173 19) := ok_cv mt_173 cl_13 (by decide +kernel : decode (mb_ 174) 16 = .ok (.invokevirtual 150, 3)) tw_1217 tw_1219 ts_30 tw_7 rfl (by decide +kernel) (mh_ok rfl) (by decide) (by decide)
theorem ok_X12_valley_19 : ok_S 174 19 (sf_st 0 1 20) := ok_istore_n (by decide +kernel : decode (mb_ 174) 19 = .ok (.istore_n 1, 1)) rfl
theorem ok_X12_valley_20 : ok_S 174 20 (sf_ld 2 0 21) := ok_aload_n (by decide +kernel : decode (mb_ 174) 20 = .ok (.aload_n 0, 1)) rfl
theorem ok_X12_valley_21 : ok_S 174 21 (sf_push (0, 0) 22) := ok_iconst (by decide +kernel : decode (mb_ 174) 21 = .ok (.iconst 0, 1)) ⟨by decide, by decide⟩
theorem ok_X12_valley_22 : ok_S 174 22 (sf_pi 13 13 5 25) := ok_pi fd_13_5 (by decide +kernel : decode (mb_ 174) 22 = .ok (.putfield 60, 3)) tw_1131 rfl (Or.inl ff_13_5) rfl
theorem ok_X12_valley_25 : ok_S 174 25 (sf_ld 0 1 26) := ok_iload_n (by decide +kernel : decode (mb_ 174) 25 = .ok (.iload_n 1, 1)) rfl
theorem ok_X12_valley_26 : ok_S 174 26 (sf_if 1 48 29) := ok_if1 (by decide +kernel : decode (mb_ 174) 26 = .ok (.ifCond .ne 22, 3)) (by decide)
theorem ok_X12_valley_29 : ok_S 174 29 (sf_ld 2 0 30) := ok_aload_n (by decide +kernel : decode (mb_ 174) 29 = .ok (.aload_n 0, 1)) rfl
theorem ok_X12_valley_30 : ok_S 174 30 (sf_gr 13 13 2 33) := ok_gr fd_13_2 (by decide +kernel : decode (mb_ 174) 30 = .ok (.getfield 16, 3)) tw_1128 (Or.inl rfl) rfl
theorem ok_X12_valley_33 : ok_S 174 33 (sf_ld 2 0 34) := ok_aload_n (by decide +kernel : decode (mb_ 174) 33 = .ok (.aload_n 0, 1)) rfl
theorem ok_X12_valley_34 : ok_S 174 34 (sf_gr 13 13 0 37) := ok_gr fd_13_0 (by decide +kernel : decode (mb_ 174) 34 = .ok (.getfield 7, 3)) tw_1126 (Or.inl rfl) rfl
theorem ok_X12_valley_37 : ok_S 174 37 (sf_cs [2, 2] 155 40) := ok_cs mt_155 (by decide +kernel : decode (mb_ 174) 37 = .ok (.invokestatic 146, 3)) tw_1214 tw_1215 tw_7 (by decide +kernel) (mh_ok rfl) (by decide) (by decide)
theorem ok_X12_valley_40 : ok_S 174 40 (sf_push (0, (-100)) 42) := ok_bipush (by decide +kernel : decode (mb_ 174) 40 = .ok (.bipush (-100), 2)) ⟨by decide, by decide⟩ (by decide +kernel)
theorem ok_X12_valley_42 : ok_S 174 42 (sf_ld 2 0 43) := ok_aload_n (by decide +kernel : decode (mb_ 174) 42 = .ok (.aload_n 0, 1)) rfl
theorem ok_X12_valley_43 : ok_S 174 43 (sf_gi 13 13 7 46) := ok_gi fd_13_7 (by decide +kernel : decode (mb_ 174) 43 = .ok (.getfield 73, 3)) tw_1133 (Or.inl rfl) rfl
theorem ok_X12_valley_46 : ok_S 174 46 (sf_i2 mx_sub 47) := ok_isub (by decide +kernel : decode (mb_ 174) 46 = .ok (.isub, 1))
theorem ok_X12_valley_47 : ok_S 174 47 (sf_ret 0) := ok_ret0 (by decide +kernel : decode (mb_ 174) 47 = .ok (.ireturn, 1)) rfl
theorem ok_X12_valley_48 : ok_S 174 48 (sf_ld 2 0 49) := ok_aload_n (by decide +kernel : decode (mb_ 174) 48 = .ok (.aload_n 0, 1)) rfl
theorem ok_X12_valley_49 : ok_S 174 49 (sf_push (0, 0) 50) := ok_iconst (by decide +kernel : decode (mb_ 174) 49 = .ok (.iconst 0, 1)) ⟨by decide, by decide⟩
theorem ok_X12_valley_50 : ok_S 174 50 (sf_pi 13 13 15 53) := ok_pi fd_13_15 (by decide +kernel : decode (mb_ 174) 50 = .ok (.putfield 153, 3)) tw_1141 rfl (Or.inl ff_13_15) rfl
theorem ok_X12_valley_53 : ok_S 174 53 (sf_ld 2 0 54) := ok_aload_n (by decide +kernel : decode (mb_ 174) 53 = .ok (.aload_n 0, 1)) rfl
theorem ok_X12_valley_54 : ok_S 174 54 (sf_gr 13 13 0 57) := ok_gr fd_13_0 (by decide +kernel : decode (mb_ 174) 54 = .ok (.getfield 7, 3)) tw_1126 (Or.inl rfl) rfl
theorem ok_X12_valley_57 : ok_S 174 57 (sf_push (0, 0) 58) := ok_iconst (by decide +kernel : decode (mb_ 174) 57 = .ok (.iconst 0, 1)) ⟨by decide, by decide⟩
theorem ok_X12_valley_58 : ok_S 174 58 (sf_iald 59) := ok_iald (by decide +kernel : decode (mb_ 174) 58 = .ok (.iaload, 1))
theorem ok_X12_valley_59 : ok_S 174 59 (sf_ret 0) := ok_ret0 (by decide +kernel : decode (mb_ 174) 59 = .ok (.ireturn, 1)) rfl
theorem ok_X12_valley (pc : Nat) : ok_S 174 pc (cd_X12_valley pc) :=
  (ok_bf (ok_bf (ok_bf (ok_bf (ok_bf (ok_bf (ok_lf pc ok_X12_valley_59) (ok_lf pc ok_X12_valley_58)) (ok_lf pc ok_X12_valley_57)) (ok_bf (ok_lf pc ok_X12_valley_54) (ok_lf pc ok_X12_valley_53))) (ok_bf (ok_bf (ok_lf pc ok_X12_valley_50) (ok_lf pc ok_X12_valley_49)) (ok_bf (ok_lf pc ok_X12_valley_48) (ok_lf pc ok_X12_valley_47)))) (ok_bf (ok_bf (ok_bf (ok_lf pc ok_X12_valley_46) (ok_lf pc ok_X12_valley_43)) (ok_bf (ok_lf pc ok_X12_valley_42) (ok_lf pc ok_X12_valley_40))) (ok_bf (ok_bf (ok_lf pc ok_X12_valley_37) (ok_lf pc ok_X12_valley_34)) (ok_bf (ok_lf pc ok_X12_valley_33) (ok_lf pc ok_X12_valley_30))))) (ok_bf (ok_bf (ok_bf (ok_bf (ok_lf pc ok_X12_valley_29) (ok_lf pc ok_X12_valley_26)) (ok_bf (ok_lf pc ok_X12_valley_25) (ok_lf pc ok_X12_valley_22))) (ok_bf (ok_bf (ok_lf pc ok_X12_valley_21) (ok_lf pc ok_X12_valley_20)) (ok_bf (ok_lf pc ok_X12_valley_19) (ok_lf pc ok_X12_valley_16)))) (ok_bf (ok_bf (ok_bf (ok_lf pc ok_X12_valley_15) (ok_lf pc ok_X12_valley_12)) (ok_bf (ok_lf pc ok_X12_valley_11) (ok_lf pc ok_X12_valley_8))) (ok_bf (ok_bf (ok_lf pc ok_X12_valley_5) (ok_lf pc ok_X12_valley_4)) (ok_bf (ok_lf pc ok_X12_valley_1) (ok_lf pc ok_X12_valley_0))))))
theorem mo_X12_valley (pc : Nat) : mo_S (cd_X12_valley pc) :=
  (mo_bf (mo_bf (mo_bf (mo_bf (mo_bf (mo_bf (mo_bf mo_ret mo_no) (mo_bf mo_iald mo_no)) (mo_bf mo_push mo_no)) (mo_bf (mo_bf mo_gr mo_no) (mo_bf mo_ld mo_no))) (mo_bf (mo_bf (mo_bf mo_pi mo_no) (mo_bf mo_push mo_no)) (mo_bf (mo_bf mo_ld mo_no) (mo_bf mo_ret mo_no)))) (mo_bf (mo_bf (mo_bf (mo_bf mo_i2 mo_no) (mo_bf mo_gi mo_no)) (mo_bf (mo_bf mo_ld mo_no) (mo_bf mo_push mo_no))) (mo_bf (mo_bf (mo_bf mo_cs mo_no) (mo_bf mo_gr mo_no)) (mo_bf (mo_bf mo_ld mo_no) (mo_bf mo_gr mo_no))))) (mo_bf (mo_bf (mo_bf (mo_bf (mo_bf mo_ld mo_no) (mo_bf mo_if mo_no)) (mo_bf (mo_bf mo_ld mo_no) (mo_bf mo_pi mo_no))) (mo_bf (mo_bf (mo_bf mo_push mo_no) (mo_bf mo_ld mo_no)) (mo_bf (mo_bf mo_st mo_no) (mo_bf mo_cv mo_no)))) (mo_bf (mo_bf (mo_bf (mo_bf mo_ld mo_no) (mo_bf mo_cv mo_no)) (mo_bf (mo_bf mo_ld mo_no) (mo_bf mo_cs mo_no))) (mo_bf (mo_bf (mo_bf mo_gr mo_no) (mo_bf mo_ld mo_no)) (mo_bf (mo_bf mo_gr mo_no) (mo_bf mo_ld mo_no))))))
theorem ok_X12_evening_0 : ok_S 175 0 (sf_ld 0 1 1) := ok_iload_n (by decide +kernel : decode (mb_ 175) 0 = .ok (.iload_n 1, 1)) rfl
theorem ok_X12_evening_1 : ok_S 175 1 (sf_cs [0] 159 4) := ok_cs mt_159 (by decide +kernel : decode (mb_ 175) 1 = .ok (.invokestatic 156, 3)) tw_1275 tw_1276 tw_7 (by decide +kernel) (mh_ok rfl) (by decide) (by decide)
theorem ok_X12_evening_4 : ok_S 175 4 (sf_if 0 26 7) := ok_if0 (by decide +kernel : decode (mb_ 175) 4 = .ok (.ifCond .eq 22, 3)) (by decide)
theorem ok_X12_evening_7 : ok_S 175 7 (sf_ld 0 2 8) := ok_iload_n (by decide +kernel : decode (mb_ 175) 7 = .ok (.iload_n 2, 1)) rfl
theorem ok_X12_evening_8 : ok_S 175 8 (sf_cs [0] 160 11) := ok_cs mt_160 (by decide +kernel : decode (mb_ 175) 8 = .ok (.invokestatic 159, 3)) tw_1278 tw_1279 tw_7 (by decide +kernel) (mh_ok rfl) (by decide) (by decide)
theorem ok_X12_evening_11 : ok_S 175 11 (sf_if 0 26 14) := ok_if0 (by decide +kernel : decode (mb_ 175) 11 = .ok (.ifCond .eq 15, 3)) (by decide)
theorem ok_X12_evening_14 : ok_S 175 14 (sf_ld 0 3 15) := ok_iload_n (by decide +kernel : decode (mb_ 175) 14 = .ok (.iload_n 3, 1)) rfl
theorem ok_X12_evening_15 : ok_S 175 15 (sf_cs [0] 160 18) := ok_cs mt_160 (by decide +kernel : decode (mb_ 175) 15 = .ok (.invokestatic 159, 3)) tw_1278 tw_1279 tw_7 (by decide +kernel) (mh_ok rfl) (by decide) (by decide)
theorem ok_X12_evening_18 : ok_S 175 18 (sf_if 0 26 21) := ok_if0 (by decide +kernel : decode (mb_ 175) 18 = .ok (.ifCond .eq 8, 3)) (by decide)
theorem ok_X12_evening_21 : ok_S 175 21 (sf_ld 0 3 22) := ok_iload_n (by decide +kernel : decode (mb_ 175) 21 = .ok (.iload_n 3, 1)) rfl
theorem ok_X12_evening_22 : ok_S 175 22 (sf_ld 0 2 23) := ok_iload_n (by decide +kernel : decode (mb_ 175) 22 = .ok (.iload_n 2, 1)) rfl
theorem ok_X12_evening_23 : ok_S 175 23 (sf_ic 3 28 26) := ok_ic3 (by decide +kernel : decode (mb_ 175) 23 = .ok (.if_icmp .ge 5, 3)) (by decide)
theorem ok_X12_evening_26 : ok_S 175 26 (sf_push (0, (-1)) 27) := ok_iconst (by decide +kernel : decode (mb_ 175) 26 = .ok (.iconst (-1), 1)) ⟨by decide, by decide⟩
theorem ok_X12_evening_27 : ok_S 175 27 (sf_ret 0) := ok_ret0 (by decide +kernel : decode (mb_ 175) 27 = .ok (.ireturn, 1)) rfl
theorem ok_X12_evening_28 : ok_S 175 28 (sf_ld 2 0 29) := ok_aload_n (by decide +kernel : decode (mb_ 175) 28 = .ok (.aload_n 0, 1)) rfl
theorem ok_X12_evening_29 : ok_S 175 29 (sf_gr 13 13 0 32) := ok_gr fd_13_0 (by decide +kernel : decode (mb_ 175) 29 = .ok (.getfield 7, 3)) tw_1126 (Or.inl rfl) rfl
theorem ok_X12_evening_32 : ok_S 175 32 (sf_push (0, 3) 33) := ok_iconst (by decide +kernel : decode (mb_ 175) 32 = .ok (.iconst 3, 1)) ⟨by decide, by decide⟩
theorem ok_X12_evening_33 : ok_S 175 33 (sf_push (0, 2) 34) := ok_iconst (by decide +kernel : decode (mb_ 175) 33 = .ok (.iconst 2, 1)) ⟨by decide, by decide⟩
theorem ok_X12_evening_34 : ok_S 175 34 (sf_ld 0 1 35) := ok_iload_n (by decide +kernel : decode (mb_ 175) 34 = .ok (.iload_n 1, 1)) rfl
theorem ok_X12_evening_35 : ok_S 175 35 (sf_i2 mx_mul 36) := ok_imul (by decide +kernel : decode (mb_ 175) 35 = .ok (.imul, 1))
theorem ok_X12_evening_36 : ok_S 175 36 (sf_i2 mx_add 37) := ok_iadd (by decide +kernel : decode (mb_ 175) 36 = .ok (.iadd, 1))
theorem ok_X12_evening_37 : ok_S 175 37 (sf_ld 0 2 38) := ok_iload_n (by decide +kernel : decode (mb_ 175) 37 = .ok (.iload_n 2, 1)) rfl
theorem ok_X12_evening_38 : ok_S 175 38 (sf_iast 39) := ok_iast (by decide +kernel : decode (mb_ 175) 38 = .ok (.iastore, 1))
theorem ok_X12_evening_39 : ok_S 175 39 (sf_ld 2 0 40) := ok_aload_n (by decide +kernel : decode (mb_ 175) 39 = .ok (.aload_n 0, 1)) rfl
theorem ok_X12_evening_40 : ok_S 175 40 (sf_gr 13 13 0 43) := ok_gr fd_13_0 (by decide +kernel : decode (mb_ 175) 40 = .ok (.getfield 7, 3)) tw_1126 (Or.inl rfl) rfl
theorem ok_X12_evening_43 : ok_S 175 43 (sf_push (0, 3) 44) := ok_iconst (by decide +kernel : decode (mb_ 175) 43 = .ok (.iconst 3, 1)) ⟨by decide, by decide⟩
theorem ok_X12_evening_44 : ok_S 175 44 (sf_push (0, 2) 45) := ok_iconst (by decide +kernel : decode (mb_ 175) 44 = .ok (.iconst 2, 1)) ⟨by decide, by decide⟩
theorem ok_X12_evening_45 : ok_S 175 45 (sf_ld 0 1 46) := ok_iload_n (by decide +kernel : decode (mb_ 175) 45 = .ok (.iload_n 1, 1)) rfl
theorem ok_X12_evening_46 : ok_S 175 46 (sf_i2 mx_mul 47) := ok_imul (by decide +kernel : decode (mb_ 175) 46 = .ok (.imul, 1))
theorem ok_X12_evening_47 : ok_S 175 47 (sf_i2 mx_add 48) := ok_iadd (by decide +kernel : decode (mb_ 175) 47 = .ok (.iadd, 1))
theorem ok_X12_evening_48 : ok_S 175 48 (sf_push (0, 1) 49) := ok_iconst (by decide +kernel : decode (mb_ 175) 48 = .ok (.iconst 1, 1)) ⟨by decide, by decide⟩
theorem ok_X12_evening_49 : ok_S 175 49 (sf_i2 mx_add 50) := ok_iadd (by decide +kernel : decode (mb_ 175) 49 = .ok (.iadd, 1))
theorem ok_X12_evening_50 : ok_S 175 50 (sf_ld 0 3 51) := ok_iload_n (by decide +kernel : decode (mb_ 175) 50 = .ok (.iload_n 3, 1)) rfl
theorem ok_X12_evening_51 : ok_S 175 51 (sf_iast 52) := ok_iast (by decide +kernel : decode (mb_ 175) 51 = .ok (.iastore, 1))
theorem ok_X12_evening_52 : ok_S 175 52 (sf_push (0, 1) 53) := ok_iconst (by decide +kernel : decode (mb_ 175) 52 = .ok (.iconst 1, 1)) ⟨by decide, by decide⟩
theorem ok_X12_evening_53 : ok_S 175 53 (sf_ret 0) := ok_ret0 (by decide +kernel : decode (mb_ 175) 53 = .ok (.ireturn, 1)) rfl
theorem ok_X12_evening (pc : Nat) : ok_S 175 pc (cd_X12_evening pc) :=
  (ok_bf (ok_bf (ok_bf (ok_bf (ok_bf (ok_bf (ok_lf pc ok_X12_evening_53) (ok_lf pc ok_X12_evening_52)) (ok_lf pc ok_X12_evening_51)) (ok_bf (ok_lf pc ok_X12_evening_50) (ok_lf pc ok_X12_evening_49))) (ok_bf (ok_bf (ok_lf pc ok_X12_evening_48) (ok_lf pc ok_X12_evening_47)) (ok_bf (ok_lf pc ok_X12_evening_46) (ok_lf pc ok_X12_evening_45)))) (ok_bf (ok_bf (ok_bf (ok_bf (ok_lf pc ok_X12_evening_44) (ok_lf pc ok_X12_evening_43)) (ok_lf pc ok_X12_evening_40)) (ok_bf (ok_lf pc ok_X12_evening_39) (ok_lf pc ok_X12_evening_38))) (ok_bf (ok_bf (ok_lf pc ok_X12_evening_37) (ok_lf pc ok_X12_evening_36)) (ok_bf (ok_lf pc ok_X12_evening_35) (ok_lf pc ok_X12_evening_34))))) (ok_bf (ok_bf (ok_bf (ok_bf (ok_bf (ok_lf pc ok_X12_evening_33) (ok_lf pc ok_X12_evening_32)) (ok_lf pc ok_X12_evening_29)) (ok_bf (ok_lf pc ok_X12_evening_28) (ok_lf pc ok_X12_evening_27))) (ok_bf (ok_bf (ok_lf pc ok_X12_evening_26) (ok_lf pc ok_X12_evening_23)) (ok_bf (ok_lf pc ok_X12_evening_22) (ok_lf pc ok_X12_evening_21)))) (ok_bf (ok_bf (ok_bf (ok_bf (ok_lf pc ok_X12_evening_18) (ok_lf pc ok_X12_evening_15)) (ok_lf pc ok_X12_evening_14)) (ok_bf (ok_lf pc ok_X12_evening_11) (ok_lf pc ok_X12_evening_8))) (ok_bf (ok_bf (ok_lf pc ok_X12_evening_7) (ok_lf pc ok_X12_evening_4)) (ok_bf (ok_lf pc ok_X12_evening_1) (ok_lf pc ok_X12_evening_0))))))
theorem mo_X12_evening (pc : Nat) : mo_S (cd_X12_evening pc) :=
  (mo_bf (mo_bf (mo_bf (mo_bf (mo_bf (mo_bf (mo_bf mo_ret mo_no) (mo_bf mo_push mo_no)) (mo_bf mo_iast mo_no)) (mo_bf (mo_bf mo_ld mo_no) (mo_bf mo_i2 mo_no))) (mo_bf (mo_bf (mo_bf mo_push mo_no) (mo_bf mo_i2 mo_no)) (mo_bf (mo_bf mo_i2 mo_no) (mo_bf mo_ld mo_no)))) (mo_bf (mo_bf (mo_bf (mo_bf (mo_bf mo_push mo_no) (mo_bf mo_push mo_no)) (mo_bf mo_gr mo_no)) (mo_bf (mo_bf mo_ld mo_no) (mo_bf mo_iast mo_no))) (mo_bf (mo_bf (mo_bf mo_ld mo_no) (mo_bf mo_i2 mo_no)) (mo_bf (mo_bf mo_i2 mo_no) (mo_bf mo_ld mo_no))))) (mo_bf (mo_bf (mo_bf (mo_bf (mo_bf (mo_bf mo_push mo_no) (mo_bf mo_push mo_no)) (mo_bf mo_gr mo_no)) (mo_bf (mo_bf mo_ld mo_no) (mo_bf mo_ret mo_no))) (mo_bf (mo_bf (mo_bf mo_push mo_no) (mo_bf mo_ic mo_no)) (mo_bf (mo_bf mo_ld mo_no) (mo_bf mo_ld mo_no)))) (mo_bf (mo_bf (mo_bf (mo_bf (mo_bf mo_if mo_no) (mo_bf mo_cs mo_no)) (mo_bf mo_ld mo_no)) (mo_bf (mo_bf mo_if mo_no) (mo_bf mo_cs mo_no))) (mo_bf (mo_bf (mo_bf mo_ld mo_no) (mo_bf mo_if mo_no)) (mo_bf (mo_bf mo_cs mo_no) (mo_bf mo_ld mo_no))))))
theorem ok_X12_eveningOf_0 : ok_S 176 0 (sf_ld 0 1 1) := ok_iload_n (by decide +kernel : decode (mb_ 176) 0 = .ok (.iload_n 1, 1)) rfl
theorem ok_X12_eveningOf_1 : ok_S 176 1 (sf_cs [0] 159 4) := ok_cs mt_159 (by decide +kernel : decode (mb_ 176) 1 = .ok (.invokestatic 156, 3)) tw_1275 tw_1276 tw_7 (by decide +kernel) (mh_ok rfl) (by decide) (by decide)
theorem ok_X12_eveningOf_4 : ok_S 176 4 (sf_if 0 16 7) := ok_if0 (by decide +kernel : decode (mb_ 176) 4 = .ok (.ifCond .eq 12, 3)) (by decide)
theorem ok_X12_eveningOf_7 : ok_S 176 7 (sf_ld 0 2 8) := ok_iload_n (by decide +kernel : decode (mb_ 176) 7 = .ok (.iload_n 2, 1)) rfl
theorem ok_X12_eveningOf_8 : ok_S 176 8 (sf_push (0, 0) 9) := ok_iconst (by decide +kernel : decode (mb_ 176) 8 = .ok (.iconst 0, 1)) ⟨by decide, by decide⟩
theorem ok_X12_eveningOf_9 : ok_S 176 9 (sf_push (0, 2) 10) := ok_iconst (by decide +kernel : decode (mb_ 176) 9 = .ok (.iconst 2, 1)) ⟨by decide, by decide⟩
theorem ok_X12_eveningOf_10 : ok_S 176 10 (sf_cs [0, 0, 0] 157 13) := ok_cs mt_157 (by decide +kernel : decode (mb_ 176) 10 = .ok (.invokestatic 56, 3)) tw_1206 tw_1207 tw_7 (by decide +kernel) (mh_ok rfl) (by decide) (by decide)
theorem ok_X12_eveningOf_13 : ok_S 176 13 (sf_if 1 18 16) := ok_if1 (by decide +kernel : decode (mb_ 176) 13 = .ok (.ifCond .ne 5, 3)) (by decide)
theorem ok_X12_eveningOf_16 : ok_S 176 16 (sf_push (0, (-1)) 17) := ok_iconst (by decide +kernel : decode (mb_ 176) 16 = .ok (.iconst (-1), 1)) ⟨by decide, by decide⟩
theorem ok_X12_eveningOf_17 : ok_S 176 17 (sf_ret 0) := ok_ret0 (by decide +kernel : decode (mb_ 176) 17 = .ok (.ireturn, 1)) rfl
theorem ok_X12_eveningOf_18 : ok_S 176 18 (sf_ld 0 2 19) := ok_iload_n (by decide +kernel : decode (mb_ 176) 18 = .ok (.iload_n 2, 1)) rfl
theorem ok_X12_eveningOf_19 : ok_S 176 19 (sf_push (0, 2) 20) := ok_iconst (by decide +kernel : decode (mb_ 176) 19 = .ok (.iconst 2, 1)) ⟨by decide, by decide⟩
theorem ok_X12_eveningOf_20 : ok_S 176 20 (sf_ic 3 36 23) := ok_ic3 (by decide +kernel : decode (mb_ 176) 20 = .ok (.if_icmp .ge 16, 3)) (by decide)
theorem ok_X12_eveningOf_23 : ok_S 176 23 (sf_ld 2 0 24) := ok_aload_n (by decide +kernel : decode (mb_ 176) 23 = .ok (.aload_n 0, 1)) rfl
theorem ok_X12_eveningOf_24 : ok_S 176 24 (sf_gr 13 13 0 27) := ok_gr fd_13_0 (by decide +kernel : decode (mb_ 176) 24 = .ok (.getfield 7, 3)) tw_1126 (Or.inl rfl) rfl
theorem ok_X12_eveningOf_27 : ok_S 176 27 (sf_push (0, 3) 28) := ok_iconst (by decide +kernel : decode (mb_ 176) 27 = .ok (.iconst 3, 1)) ⟨by decide, by decide⟩
theorem ok_X12_eveningOf_28 : ok_S 176 28 (sf_push (0, 2) 29) := ok_iconst (by decide +kernel : decode (mb_ 176) 28 = .ok (.iconst 2, 1)) ⟨by decide, by decide⟩
theorem ok_X12_eveningOf_29 : ok_S 176 29 (sf_ld 0 1 30) := ok_iload_n (by decide +kernel : decode (mb_ 176) 29 = .ok (.iload_n 1, 1)) rfl
theorem ok_X12_eveningOf_30 : ok_S 176 30 (sf_i2 mx_mul 31) := ok_imul (by decide +kernel : decode (mb_ 176) 30 = .ok (.imul, 1))
theorem ok_X12_eveningOf_31 : ok_S 176 31 (sf_i2 mx_add 32) := ok_iadd (by decide +kernel : decode (mb_ 176) 31 = .ok (.iadd, 1))
theorem ok_X12_eveningOf_32 : ok_S 176 32 (sf_ld 0 2 33) := ok_iload_n (by decide +kernel : decode (mb_ 176) 32 = .ok (.iload_n 2, 1)) rfl
theorem ok_X12_eveningOf_33 : ok_S 176 33 (sf_i2 mx_add 34) := ok_iadd (by decide +kernel : decode (mb_ 176) 33 = .ok (.iadd, 1))
theorem ok_X12_eveningOf_34 : ok_S 176 34 (sf_iald 35) := ok_iald (by decide +kernel : decode (mb_ 176) 34 = .ok (.iaload, 1))
theorem ok_X12_eveningOf_35 : ok_S 176 35 (sf_ret 0) := ok_ret0 (by decide +kernel : decode (mb_ 176) 35 = .ok (.ireturn, 1)) rfl
theorem ok_X12_eveningOf_36 : ok_S 176 36 (sf_push (0, 0) 37) := ok_iconst (by decide +kernel : decode (mb_ 176) 36 = .ok (.iconst 0, 1)) ⟨by decide, by decide⟩
theorem ok_X12_eveningOf_37 : ok_S 176 37 (sf_st 0 3 38) := ok_istore_n (by decide +kernel : decode (mb_ 176) 37 = .ok (.istore_n 3, 1)) rfl
theorem ok_X12_eveningOf_38 : ok_S 176 38 (sf_push (0, 0) 39) := ok_iconst (by decide +kernel : decode (mb_ 176) 38 = .ok (.iconst 0, 1)) ⟨by decide, by decide⟩
theorem ok_X12_eveningOf_39 : ok_S 176 39 (sf_st 0 4 41) := ok_istore (by decide +kernel : decode (mb_ 176) 39 = .ok (.istore 4, 2))
theorem ok_X12_eveningOf_41 : ok_S 176 41 (sf_ld 0 4 43) := ok_iload (by decide +kernel : decode (mb_ 176) 41 = .ok (.iload 4, 2))
theorem ok_X12_eveningOf_43 : ok_S 176 43 (sf_ld 2 0 44) := ok_aload_n (by decide +kernel : decode (mb_ 176) 43 = .ok (.aload_n 0, 1)) rfl
theorem ok_X12_eveningOf_44 : ok_S 176 44 (sf_gr 13 13 0 47) := ok_gr fd_13_0 (by decide +kernel : decode (mb_ 176) 44 = .ok (.getfield 7, 3)) tw_1126 (Or.inl rfl) rfl
theorem ok_X12_eveningOf_47 : ok_S 176 47 (sf_push (0, 0) 48) := ok_iconst (by decide +kernel : decode (mb_ 176) 47 = .ok (.iconst 0, 1)) ⟨by decide, by decide⟩
theorem ok_X12_eveningOf_48 : ok_S 176 48 (sf_iald 49) := ok_iald (by decide +kernel : decode (mb_ 176) 48 = .ok (.iaload, 1))
theorem ok_X12_eveningOf_49 : ok_S 176 49 (sf_ic 3 80 52) := ok_ic3 (by decide +kernel : decode (mb_ 176) 49 = .ok (.if_icmp .ge 31, 3)) (by decide)
theorem ok_X12_eveningOf_52 : ok_S 176 52 (sf_ld 0 3 53) := ok_iload_n (by decide +kernel : decode (mb_ 176) 52 = .ok (.iload_n 3, 1)) rfl
theorem ok_X12_eveningOf_53 : ok_S 176 53 (sf_ld 2 0 54) := ok_aload_n (by decide +kernel : decode (mb_ 176) 53 = .ok (.aload_n 0, 1)) rfl
theorem ok_X12_eveningOf_54 : ok_S 176 54 (sf_ld 0 4 56) := ok_iload (by decide +kernel : decode (mb_ 176) 54 = .ok (.iload 4, 2))
theorem ok_X12_eveningOf_56 : ok_S 176 56 (sf_push (0, 1) 57) := ok_iconst (by decide +kernel : decode (mb_ 176) 56 = .ok (.iconst 1, 1)) ⟨by decide, by decide⟩
theorem ok_X12_eveningOf_57 : ok_S 176 57 (sf_cv 13 [2, 0, 0] 161 60) := ok_cv mt_161 cl_13 (by decide +kernel : decode (mb_ 176) 57 = .ok (.invokevirtual 162, 3)) tw_1285 tw_1287 ts_40 tw_7 rfl (by decide +kernel) (mh_ok rfl) (by decide) (by decide)
theorem ok_X12_eveningOf_60 : ok_S 176 60 (sf_ld 0 1 61) := ok_iload_n (by decide +kernel : decode (mb_ 176) 60 = .ok (.iload_n 1, 1)) rfl
theorem ok_X12_eveningOf_61 : ok_S 176 61 (sf_ic 1 71 64) := ok_ic1 (by decide +kernel : decode (mb_ 176) 61 = .ok (.if_icmp .ne 10, 3)) (by decide)
theorem ok_X12_eveningOf_64 : ok_S 176 64 (sf_push (0, 1) 65) := ok_iconst (by decide +kernel : decode (mb_ 176) 64 = .ok (.iconst 1, 1)) ⟨by decide, by decide⟩
theorem ok_X12_eveningOf_65 : ok_S 176 65 (sf_ld 0 4 67) := ok_iload (by decide +kernel : decode (mb_ 176) 65 = .ok (.iload 4, 2))
theorem ok_X12_eveningOf_67 : ok_S 176 67 (sf_i2 mx_shl 68) := ok_ishl (by decide +kernel : decode (mb_ 176) 67 = .ok (.ishl, 1))
theorem ok_X12_eveningOf_68 : ok_S 176 68 (sf_go 72) := ok_goto (by decide +kernel : decode (mb_ 176) 68 = .ok (.goto 4, 3)) (by decide)
theorem ok_X12_eveningOf_71 : ok_S 176 71 (sf_push (0, 0) 72) := ok_iconst (by decide +kernel : decode (mb_ 176) 71 = .ok (.iconst 0, 1)) ⟨by decide, by decide⟩
theorem ok_X12_eveningOf_72 : ok_S 176 72 (sf_i2 mx_or 73) := ok_ior (by decide +kernel : decode (mb_ 176) 72 = .ok (.ior, 1))
theorem ok_X12_eveningOf_73 : ok_S 176 73 (sf_st 0 3 74) := ok_istore_n (by decide +kernel : decode (mb_ 176) 73 = .ok (.istore_n 3, 1)) rfl
theorem ok_X12_eveningOf_74 : ok_S 176 74 (sf_inc 4 1 77) := ok_iinc (by decide +kernel : decode (mb_ 176) 74 = .ok (.iinc 4 1, 3))
theorem ok_X12_eveningOf_77 : ok_S 176 77 (sf_go 41) := ok_goto (by decide +kernel : decode (mb_ 176) 77 = .ok (.goto (-36), 3)) (by decide)
theorem ok_X12_eveningOf_80 : ok_S 176 80 (sf_ld 0 3 81) := ok_iload_n (by decide +kernel : decode (mb_ 176) 80 = .ok (.iload_n 3, 1)) rfl
theorem ok_X12_eveningOf_81 : ok_S 176 81 (sf_ret 0) := ok_ret0 (by decide +kernel : decode (mb_ 176) 81 = .ok (.ireturn, 1)) rfl
theorem ok_X12_eveningOf (pc : Nat) : ok_S 176 pc (cd_X12_eveningOf pc) :=
  (ok_bf (ok_bf (ok_bf (ok_bf (ok_bf (ok_bf (ok_lf pc ok_X12_eveningOf_81) (ok_lf pc ok_X12_eveningOf_80)) (ok_bf (ok_lf pc ok_X12_eveningOf_77) (ok_lf pc ok_X12_eveningOf_74))) (ok_bf (ok_bf (ok_lf pc ok_X12_eveningOf_73) (ok_lf pc ok_X12_eveningOf_72)) (ok_lf pc ok_X12_eveningOf_71))) (ok_bf (ok_bf (ok_bf (ok_lf pc ok_X12_eveningOf_68) (ok_lf pc ok_X12_eveningOf_67)) (ok_lf pc ok_X12_eveningOf_65)) (ok_bf (ok_bf (ok_lf pc ok_X12_eveningOf_64) (ok_lf pc ok_X12_eveningOf_61)) (ok_lf pc ok_X12_eveningOf_60)))) (ok_bf (ok_bf (ok_bf (ok_bf (ok_lf pc ok_X12_eveningOf_57) (ok_lf pc ok_X12_eveningOf_56)) (ok_bf (ok_lf pc ok_X12_eveningOf_54) (ok_lf pc ok_X12_eveningOf_53))) (ok_bf (ok_bf (ok_lf pc ok_X12_eveningOf_52) (ok_lf pc ok_X12_eveningOf_49)) (ok_lf pc ok_X12_eveningOf_48))) (ok_bf (ok_bf (ok_bf (ok_lf pc ok_X12_eveningOf_47) (ok_lf pc ok_X12_eveningOf_44)) (ok_lf pc ok_X12_eveningOf_43)) (ok_bf (ok_bf (ok_lf pc ok_X12_eveningOf_41) (ok_lf pc ok_X12_eveningOf_39)) (ok_lf pc ok_X12_eveningOf_38))))) (ok_bf (ok_bf (ok_bf (ok_bf (ok_bf (ok_lf pc ok_X12_eveningOf_37) (ok_lf pc ok_X12_eveningOf_36)) (ok_bf (ok_lf pc ok_X12_eveningOf_35) (ok_lf pc ok_X12_eveningOf_34))) (ok_bf (ok_bf (ok_lf pc ok_X12_eveningOf_33) (ok_lf pc ok_X12_eveningOf_32)) (ok_lf pc ok_X12_eveningOf_31))) (ok_bf (ok_bf (ok_bf (ok_lf pc ok_X12_eveningOf_30) (ok_lf pc ok_X12_eveningOf_29)) (ok_lf pc ok_X12_eveningOf_28)) (ok_bf (ok_bf (ok_lf pc ok_X12_eveningOf_27) (ok_lf pc ok_X12_eveningOf_24)) (ok_lf pc ok_X12_eveningOf_23)))) (ok_bf (ok_bf (ok_bf (ok_bf (ok_lf pc ok_X12_eveningOf_20) (ok_lf pc ok_X12_eveningOf_19)) (ok_bf (ok_lf pc ok_X12_eveningOf_18) (ok_lf pc ok_X12_eveningOf_17))) (ok_bf (ok_bf (ok_lf pc ok_X12_eveningOf_16) (ok_lf pc ok_X12_eveningOf_13)) (ok_lf pc ok_X12_eveningOf_10))) (ok_bf (ok_bf (ok_bf (ok_lf pc ok_X12_eveningOf_9) (ok_lf pc ok_X12_eveningOf_8)) (ok_lf pc ok_X12_eveningOf_7)) (ok_bf (ok_bf (ok_lf pc ok_X12_eveningOf_4) (ok_lf pc ok_X12_eveningOf_1)) (ok_lf pc ok_X12_eveningOf_0))))))
theorem mo_X12_eveningOf (pc : Nat) : mo_S (cd_X12_eveningOf pc) :=
  (mo_bf (mo_bf (mo_bf (mo_bf (mo_bf (mo_bf (mo_bf mo_ret mo_no) (mo_bf mo_ld mo_no)) (mo_bf (mo_bf mo_go mo_no) (mo_bf mo_inc mo_no))) (mo_bf (mo_bf (mo_bf mo_st mo_no) (mo_bf mo_i2 mo_no)) (mo_bf mo_push mo_no))) (mo_bf (mo_bf (mo_bf (mo_bf mo_go mo_no) (mo_bf mo_i2 mo_no)) (mo_bf mo_ld mo_no)) (mo_bf (mo_bf (mo_bf mo_push mo_no) (mo_bf mo_ic mo_no)) (mo_bf mo_ld mo_no)))) (mo_bf (mo_bf (mo_bf (mo_bf (mo_bf mo_cv mo_no) (mo_bf mo_push mo_no)) (mo_bf (mo_bf mo_ld mo_no) (mo_bf mo_ld mo_no))) (mo_bf (mo_bf (mo_bf mo_ld mo_no) (mo_bf mo_ic mo_no)) (mo_bf mo_iald mo_no))) (mo_bf (mo_bf (mo_bf (mo_bf mo_push mo_no) (mo_bf mo_gr mo_no)) (mo_bf mo_ld mo_no)) (mo_bf (mo_bf (mo_bf mo_ld mo_no) (mo_bf mo_st mo_no)) (mo_bf mo_push mo_no))))) (mo_bf (mo_bf (mo_bf (mo_bf (mo_bf (mo_bf mo_st mo_no) (mo_bf mo_push mo_no)) (mo_bf (mo_bf mo_ret mo_no) (mo_bf mo_iald mo_no))) (mo_bf (mo_bf (mo_bf mo_i2 mo_no) (mo_bf mo_ld mo_no)) (mo_bf mo_i2 mo_no))) (mo_bf (mo_bf (mo_bf (mo_bf mo_i2 mo_no) (mo_bf mo_ld mo_no)) (mo_bf mo_push mo_no)) (mo_bf (mo_bf (mo_bf mo_push mo_no) (mo_bf mo_gr mo_no)) (mo_bf mo_ld mo_no)))) (mo_bf (mo_bf (mo_bf (mo_bf (mo_bf mo_ic mo_no) (mo_bf mo_push mo_no)) (mo_bf (mo_bf mo_ld mo_no) (mo_bf mo_ret mo_no))) (mo_bf (mo_bf (mo_bf mo_push mo_no) (mo_bf mo_if mo_no)) (mo_bf mo_cs mo_no))) (mo_bf (mo_bf (mo_bf (mo_bf mo_push mo_no) (mo_bf mo_push mo_no)) (mo_bf mo_ld mo_no)) (mo_bf (mo_bf (mo_bf mo_if mo_no) (mo_bf mo_cs mo_no)) (mo_bf mo_ld mo_no))))))
theorem ok_X12_note_0 : ok_S 177 0 (sf_ld 0 1 1) := ok_iload_n (by decide +kernel : decode (mb_ 177) 0 = .ok (.iload_n 1, 1)) rfl
theorem ok_X12_note_1 : ok_S 177 1 (sf_push (0, 0) 2) := ok_iconst (by decide +kernel : decode (mb_ 177) 1 = .ok (.iconst 0, 1)) ⟨by decide, by decide⟩
theorem ok_X12_note_2 : ok_S 177 2 (sf_push (0, 5) 3) := ok_iconst (by decide +kernel : decode (mb_ 177) 2 = .ok (.iconst 5, 1)) ⟨by decide, by decide⟩
theorem ok_X12_note_3 : ok_S 177 3 (sf_cs [0, 0, 0] 157 6) := ok_cs mt_157 (by decide +kernel : decode (mb_ 177) 3 = .ok (.invokestatic 56, 3)) tw_1206 tw_1207 tw_7 (by decide +kernel) (mh_ok rfl) (by decide) (by decide)
theorem ok_X12_note_6 : ok_S 177 6 (sf_if 0 42 9) := ok_if0 (by decide +kernel : decode (mb_ 177) 6 = .ok (.ifCond .eq 36, 3)) (by decide)
theorem ok_X12_note_9 : ok_S 177 9 (sf_ld 0 2 10) := ok_iload_n (by decide +kernel : decode (mb_ 177) 9 = .ok (.iload_n 2, 1)) rfl
theorem ok_X12_note_10 : ok_S 177 10 (sf_cs [0] 159 13) := ok_cs mt_159 (by decide +kernel : decode (mb_ 177) 10 = .ok (.invokestatic 156, 3)) tw_1275 tw_1276 tw_7 (by decide +kernel) (mh_ok rfl) (by decide) (by decide)
theorem ok_X12_note_13 : ok_S 177 13 (sf_if 0 42 16) := ok_if0 (by decide +kernel : decode (mb_ 177) 13 = .ok (.ifCond .eq 29, 3)) (by decide)
theorem ok_X12_note_16 : ok_S 177 16 (sf_ld 0 3 17) := ok_iload_n (by decide +kernel : decode (mb_ 177) 16 = .ok (.iload_n 3, 1)) rfl
theorem ok_X12_note_17 : ok_S 177 17 (sf_push (0, 0) 18) := ok_iconst (by decide +kernel : decode (mb_ 177) 17 = .ok (.iconst 0, 1)) ⟨by decide, by decide⟩
theorem ok_X12_note_18 : ok_S 177 18 (sf_push (0, 6) 20) := ok_bipush (by decide +kernel : decode (mb_ 177) 18 = .ok (.bipush 6, 2)) ⟨by decide, by decide⟩ (by decide +kernel)
theorem ok_X12_note_20 : ok_S 177 20 (sf_cs [0, 0, 0] 157 23) := ok_cs mt_157 (by decide +kernel : decode (mb_ 177) 20 = .ok (.invokestatic 56, 3)) tw_1206 tw_1207 tw_7 (by decide +kernel) (mh_ok rfl) (by decide) (by decide)
theorem ok_X12_note_23 : ok_S 177 23 (sf_if 0 42 26) := ok_if0 (by decide +kernel : decode (mb_ 177) 23 = .ok (.ifCond .eq 19, 3)) (by decide)
theorem ok_X12_note_26 : ok_S 177 26 (sf_ld 0 4 28) := ok_iload (by decide +kernel : decode (mb_ 177) 26 = .ok (.iload 4, 2))
theorem ok_X12_note_28 : ok_S 177 28 (sf_push (0, 1) 29) := ok_iconst (by decide +kernel : decode (mb_ 177) 28 = .ok (.iconst 1, 1)) ⟨by decide, by decide⟩
theorem ok_X12_note_29 : ok_S 177 29 (sf_push (0, 6) 31) := ok_bipush (by decide +kernel : decode (mb_ 177) 29 = .ok (.bipush 6, 2)) ⟨by decide, by decide⟩ (by decide +kernel)
theorem ok_X12_note_31 : ok_S 177 31 (sf_cs [0, 0, 0] 157 34) := ok_cs mt_157 (by decide +kernel : decode (mb_ 177) 31 = .ok (.invokestatic 56, 3)) tw_1206 tw_1207 tw_7 (by decide +kernel) (mh_ok rfl) (by decide) (by decide)
theorem ok_X12_note_34 : ok_S 177 34 (sf_if 0 42 37) := ok_if0 (by decide +kernel : decode (mb_ 177) 34 = .ok (.ifCond .eq 8, 3)) (by decide)
theorem ok_X12_note_37 : ok_S 177 37 (sf_ld 0 5 39) := ok_iload (by decide +kernel : decode (mb_ 177) 37 = .ok (.iload 5, 2))
theorem ok_X12_note_39 : ok_S 177 39 (sf_if 3 44 42) := ok_if3 (by decide +kernel : decode (mb_ 177) 39 = .ok (.ifCond .ge 5, 3)) (by decide)
theorem ok_X12_note_42 : ok_S 177 42 (sf_push (0, (-1)) 43) := ok_iconst (by decide +kernel : decode (mb_ 177) 42 = .ok (.iconst (-1), 1)) ⟨by decide, by decide⟩
theorem ok_X12_note_43 : ok_S 177 43 (sf_ret 0) := ok_ret0 (by decide +kernel : decode (mb_ 177) 43 = .ok (.ireturn, 1)) rfl
theorem ok_X12_note_44 : ok_S 177 44 (sf_ld 2 0 45) := ok_aload_n (by decide +kernel : decode (mb_ 177) 44 = .ok (.aload_n 0, 1)) rfl
theorem ok_X12_note_45 : ok_S 177 45 (sf_gr 13 13 0 48) := ok_gr fd_13_0 (by decide +kernel : decode (mb_ 177) 45 = .ok (.getfield 7, 3)) tw_1126 (Or.inl rfl) rfl
theorem ok_X12_note_48 : ok_S 177 48 (sf_push (0, 0) 49) := ok_iconst (by decide +kernel : decode (mb_ 177) 48 = .ok (.iconst 0, 1)) ⟨by decide, by decide⟩
theorem ok_X12_note_49 : ok_S 177 49 (sf_iald 50) := ok_iald (by decide +kernel : decode (mb_ 177) 49 = .ok (.iaload, 1))
theorem ok_X12_note_50 : ok_S 177 50 (sf_push (0, 6) 52) := ok_bipush (by decide +kernel : decode (mb_ 177) 50 = .ok (.bipush 6, 2)) ⟨by decide, by decide⟩ (by decide +kernel)
theorem ok_X12_note_52 : ok_S 177 52 (sf_ic 1 58 55) := ok_ic1 (by decide +kernel : decode (mb_ 177) 52 = .ok (.if_icmp .ne 6, 3)) (by decide)
theorem ok_X12_note_55 : ok_S 177 55 (sf_push (0, (-2)) 57) := ok_bipush (by decide +kernel : decode (mb_ 177) 55 = .ok (.bipush (-2), 2)) ⟨by decide, by decide⟩ (by decide +kernel)
theorem ok_X12_note_57 : ok_S 177 57 (sf_ret 0) := ok_ret0 (by decide +kernel : decode (mb_ 177) 57 = .ok (.ireturn, 1)) rfl
theorem ok_X12_note_58 : ok_S 177 58 (sf_push (0, 9) 60) := ok_bipush (by decide +kernel : decode (mb_ 177) 58 = .ok (.bipush 9, 2)) ⟨by decide, by decide⟩ (by decide +kernel)
theorem ok_X12_note_60 : ok_S 177 60 (sf_push (0, 10) 62) := ok_bipush (by decide +kernel : decode (mb_ 177) 60 = .ok (.bipush 10, 2)) ⟨by decide, by decide⟩ (by decide +kernel)
theorem ok_X12_note_62 : ok_S 177 62 (sf_ld 2 0 63) := ok_aload_n (by decide +kernel : decode (mb_ 177) 62 = .ok (.aload_n 0, 1)) rfl
theorem ok_X12_note_63 : ok_S 177 63 (sf_gr 13 13 0 66) := ok_gr fd_13_0 (by decide +kernel : decode (mb_ 177) 63 = .ok (.getfield 7, 3)) tw_1126 (Or.inl rfl) rfl
theorem ok_X12_note_66 : ok_S 177 66 (sf_push (0, 0) 67) := ok_iconst (by decide +kernel : decode (mb_ 177) 66 = .ok (.iconst 0, 1)) ⟨by decide, by decide⟩
theorem ok_X12_note_67 : ok_S 177 67 (sf_iald 68) := ok_iald (by decide +kernel : decode (mb_ 177) 67 = .ok (.iaload, 1))
theorem ok_X12_note_68 : ok_S 177 68 (sf_i2 mx_mul 69) := ok_imul (by decide +kernel : decode (mb_ 177) 68 = .ok (.imul, 1))
theorem ok_X12_note_69 : ok_S 177 69 (sf_i2 mx_add 70) := ok_iadd (by decide +kernel : decode (mb_ 177) 69 = .ok (.iadd, 1))
theorem ok_X12_note_70 : ok_S 177 70 (sf_st 0 6 72) := ok_istore (by decide +kernel : decode (mb_ 177) 70 = .ok (.istore 6, 2))
theorem ok_X12_note_72 : ok_S 177 72 (sf_ld 2 0 73) := ok_aload_n (by decide +kernel : decode (mb_ 177) 72 = .ok (.aload_n 0, 1)) rfl
theorem ok_X12_note_73 : ok_S 177 73 (sf_gr 13 13 0 76) := ok_gr fd_13_0 (by decide +kernel : decode (mb_ 177) 73 = .ok (.getfield 7, 3)) tw_1126 (Or.inl rfl) rfl
theorem ok_X12_note_76 : ok_S 177 76 (sf_ld 0 6 78) := ok_iload (by decide +kernel : decode (mb_ 177) 76 = .ok (.iload 6, 2))
theorem ok_X12_note_78 : ok_S 177 78 (sf_push (0, 0) 79) := ok_iconst (by decide +kernel : decode (mb_ 177) 78 = .ok (.iconst 0, 1)) ⟨by decide, by decide⟩
theorem ok_X12_note_79 : ok_S 177 79 (sf_i2 mx_add 80) := ok_iadd (by decide +kernel : decode (mb_ 177) 79 = .ok (.iadd, 1))
theorem ok_X12_note_80 : ok_S 177 80 (sf_ld 0 1 81) := ok_iload_n (by decide +kernel : decode (mb_ 177) 80 = .ok (.iload_n 1, 1)) rfl
theorem ok_X12_note_81 : ok_S 177 81 (sf_iast 82) := ok_iast (by decide +kernel : decode (mb_ 177) 81 = .ok (.iastore, 1))
theorem ok_X12_note_82 : ok_S 177 82 (sf_ld 2 0 83) := ok_aload_n (by decide +kernel : decode (mb_ 177) 82 = .ok (.aload_n 0, 1)) rfl
theorem ok_X12_note_83 : ok_S 177 83 (sf_gr 13 13 0 86) := ok_gr fd_13_0 (by decide +kernel : decode (mb_ 177) 83 = .ok (.getfield 7, 3)) tw_1126 (Or.inl rfl) rfl
theorem ok_X12_note_86 : ok_S 177 86 (sf_ld 0 6 88) := ok_iload (by decide +kernel : decode (mb_ 177) 86 = .ok (.iload 6, 2))
theorem ok_X12_note_88 : ok_S 177 88 (sf_push (0, 1) 89) := ok_iconst (by decide +kernel : decode (mb_ 177) 88 = .ok (.iconst 1, 1)) ⟨by decide, by decide⟩
theorem ok_X12_note_89 : ok_S 177 89 (sf_i2 mx_add 90) := ok_iadd (by decide +kernel : decode (mb_ 177) 89 = .ok (.iadd, 1))
theorem ok_X12_note_90 : ok_S 177 90 (sf_ld 0 2 91) := ok_iload_n (by decide +kernel : decode (mb_ 177) 90 = .ok (.iload_n 2, 1)) rfl
theorem ok_X12_note_91 : ok_S 177 91 (sf_iast 92) := ok_iast (by decide +kernel : decode (mb_ 177) 91 = .ok (.iastore, 1))
theorem ok_X12_note_92 : ok_S 177 92 (sf_ld 2 0 93) := ok_aload_n (by decide +kernel : decode (mb_ 177) 92 = .ok (.aload_n 0, 1)) rfl
theorem ok_X12_note_93 : ok_S 177 93 (sf_gr 13 13 0 96) := ok_gr fd_13_0 (by decide +kernel : decode (mb_ 177) 93 = .ok (.getfield 7, 3)) tw_1126 (Or.inl rfl) rfl
theorem ok_X12_note_96 : ok_S 177 96 (sf_ld 0 6 98) := ok_iload (by decide +kernel : decode (mb_ 177) 96 = .ok (.iload 6, 2))
theorem ok_X12_note_98 : ok_S 177 98 (sf_push (0, 2) 99) := ok_iconst (by decide +kernel : decode (mb_ 177) 98 = .ok (.iconst 2, 1)) ⟨by decide, by decide⟩
theorem ok_X12_note_99 : ok_S 177 99 (sf_i2 mx_add 100) := ok_iadd (by decide +kernel : decode (mb_ 177) 99 = .ok (.iadd, 1))
theorem ok_X12_note_100 : ok_S 177 100 (sf_ld 0 3 101) := ok_iload_n (by decide +kernel : decode (mb_ 177) 100 = .ok (.iload_n 3, 1)) rfl
theorem ok_X12_note_101 : ok_S 177 101 (sf_iast 102) := ok_iast (by decide +kernel : decode (mb_ 177) 101 = .ok (.iastore, 1))
theorem ok_X12_note_102 : ok_S 177 102 (sf_ld 2 0 103) := ok_aload_n (by decide +kernel : decode (mb_ 177) 102 = .ok (.aload_n 0, 1)) rfl
theorem ok_X12_note_103 : ok_S 177 103 (sf_gr 13 13 0 106) := ok_gr fd_13_0 (by decide +kernel : decode (mb_ 177) 103 = .ok (.getfield 7, 3)) tw_1126 (Or.inl rfl) rfl
theorem ok_X12_note_106 : ok_S 177 106 (sf_ld 0 6 108) := ok_iload (by decide +kernel : decode (mb_ 177) 106 = .ok (.iload 6, 2))
theorem ok_X12_note_108 : ok_S 177 108 (sf_push (0, 3) 109) := ok_iconst (by decide +kernel : decode (mb_ 177) 108 = .ok (.iconst 3, 1)) ⟨by decide, by decide⟩
theorem ok_X12_note_109 : ok_S 177 109 (sf_i2 mx_add 110) := ok_iadd (by decide +kernel : decode (mb_ 177) 109 = .ok (.iadd, 1))
theorem ok_X12_note_110 : ok_S 177 110 (sf_ld 0 4 112) := ok_iload (by decide +kernel : decode (mb_ 177) 110 = .ok (.iload 4, 2))
theorem ok_X12_note_112 : ok_S 177 112 (sf_iast 113) := ok_iast (by decide +kernel : decode (mb_ 177) 112 = .ok (.iastore, 1))
theorem ok_X12_note_113 : ok_S 177 113 (sf_push (0, 0) 114) := ok_iconst (by decide +kernel : decode (mb_ 177) 113 = .ok (.iconst 0, 1)) ⟨by decide, by decide⟩
theorem ok_X12_note_114 : ok_S 177 114 (sf_st 0 7 116) := ok_istore (by decide +kernel : decode (mb_ 177) 114 = .ok (.istore 7, 2))
theorem ok_X12_note_116 : ok_S 177 116 (sf_ld 0 7 118) := ok_iload (by decide +kernel : decode (mb_ 177) 116 = .ok (.iload 7, 2))
theorem ok_X12_note_118 : ok_S 177 118 (sf_ld 0 4 120) := ok_iload (by decide +kernel : decode (mb_ 177) 118 = .ok (.iload 4, 2))
theorem ok_X12_note_120 : ok_S 177 120 (sf_ic 3 156 123) := ok_ic3 (by decide +kernel : decode (mb_ 177) 120 = .ok (.if_icmp .ge 36, 3)) (by decide)
theorem ok_X12_note_123 : ok_S 177 123 (sf_ld 2 0 124) := ok_aload_n (by decide +kernel : decode (mb_ 177) 123 = .ok (.aload_n 0, 1)) rfl
theorem ok_X12_note_124 : ok_S 177 124 (sf_gr 13 13 0 127) := ok_gr fd_13_0 (by decide +kernel : decode (mb_ 177) 124 = .ok (.getfield 7, 3)) tw_1126 (Or.inl rfl) rfl
theorem ok_X12_note_127 : ok_S 177 127 (sf_ld 0 6 129) := ok_iload (by decide +kernel : decode (mb_ 177) 127 = .ok (.iload 6, 2))
theorem ok_X12_note_129 : ok_S 177 129 (sf_push (0, 4) 130) := ok_iconst (by decide +kernel : decode (mb_ 177) 129 = .ok (.iconst 4, 1)) ⟨by decide, by decide⟩
theorem ok_X12_note_130 : ok_S 177 130 (sf_i2 mx_add 131) := ok_iadd (by decide +kernel : decode (mb_ 177) 130 = .ok (.iadd, 1))
theorem ok_X12_note_131 : ok_S 177 131 (sf_ld 0 7 133) := ok_iload (by decide +kernel : decode (mb_ 177) 131 = .ok (.iload 7, 2))
theorem ok_X12_note_133 : ok_S 177 133 (sf_i2 mx_add 134) := ok_iadd (by decide +kernel : decode (mb_ 177) 133 = .ok (.iadd, 1))
theorem ok_X12_note_134 : ok_S 177 134 (sf_ld 0 5 136) := ok_iload (by decide +kernel : decode (mb_ 177) 134 = .ok (.iload 5, 2))
theorem ok_X12_note_136 : ok_S 177 136 (sf_push (0, 4) 137) := ok_iconst (by decide +kernel : decode (mb_ 177) 136 = .ok (.iconst 4, 1)) ⟨by decide, by decide⟩
theorem ok_X12_note_137 : ok_S 177 137 (sf_ld 0 4 139) := ok_iload (by decide +kernel : decode (mb_ 177) 137 = .ok (.iload 4, 2))
theorem ok_X12_note_139 : ok_S 177 139 (sf_push (0, 1) 140) := ok_iconst (by decide +kernel : decode (mb_ 177) 139 = .ok (.iconst 1, 1)) ⟨by decide, by decide⟩
theorem ok_X12_note_140 : ok_S 177 140 (sf_i2 mx_sub 141) := ok_isub (by decide +kernel : decode (mb_ 177) 140 = .ok (.isub, 1))
theorem ok_X12_note_141 : ok_S 177 141 (sf_ld 0 7 143) := ok_iload (by decide +kernel : decode (mb_ 177) 141 = .ok (.iload 7, 2))
theorem ok_X12_note_143 : ok_S 177 143 (sf_i2 mx_sub 144) := ok_isub (by decide +kernel : decode (mb_ 177) 143 = .ok (.isub, 1))
theorem ok_X12_note_144 : ok_S 177 144 (sf_i2 mx_mul 145) := ok_imul (by decide +kernel : decode (mb_ 177) 144 = .ok (.imul, 1))
theorem ok_X12_note_145 : ok_S 177 145 (sf_i2 mx_shr 146) := ok_ishr (by decide +kernel : decode (mb_ 177) 145 = .ok (.ishr, 1))
theorem ok_X12_note_146 : ok_S 177 146 (sf_push (0, 15) 148) := ok_bipush (by decide +kernel : decode (mb_ 177) 146 = .ok (.bipush 15, 2)) ⟨by decide, by decide⟩ (by decide +kernel)
theorem ok_X12_note_148 : ok_S 177 148 (sf_i2 mx_and 149) := ok_iand (by decide +kernel : decode (mb_ 177) 148 = .ok (.iand, 1))
theorem ok_X12_note_149 : ok_S 177 149 (sf_iast 150) := ok_iast (by decide +kernel : decode (mb_ 177) 149 = .ok (.iastore, 1))
theorem ok_X12_note_150 : ok_S 177 150 (sf_inc 7 1 153) := ok_iinc (by decide +kernel : decode (mb_ 177) 150 = .ok (.iinc 7 1, 3))
theorem ok_X12_note_153 : ok_S 177 153 (sf_go 116) := ok_goto (by decide +kernel : decode (mb_ 177) 153 = .ok (.goto (-37), 3)) (by decide)
theorem ok_X12_note_156 : ok_S 177 156 (sf_ld 2 0 157) := ok_aload_n (by decide +kernel : decode (mb_ 177) 156 = .ok (.aload_n 0, 1)) rfl
theorem ok_X12_note_157 : ok_S 177 157 (sf_gr 13 13 0 160) := ok_gr fd_13_0 (by decide +kernel : decode (mb_ 177) 157 = .ok (.getfield 7, 3)) tw_1126 (Or.inl rfl) rfl
theorem ok_X12_note_160 : ok_S 177 160 (sf_push (0, 0) 161) := ok_iconst (by decide +kernel : decode (mb_ 177) 160 = .ok (.iconst 0, 1)) ⟨by decide, by decide⟩
theorem ok_X12_note_161 : ok_S 177 161 (sf_dup2 162) := ok_dup2 (by decide +kernel : decode (mb_ 177) 161 = .ok (.dup2, 1))
theorem ok_X12_note_162 : ok_S 177 162 (sf_iald 163) := ok_iald (by decide +kernel : decode (mb_ 177) 162 = .ok (.iaload, 1))
theorem ok_X12_note_163 : ok_S 177 163 (sf_push (0, 1) 164) := ok_iconst (by decide +kernel : decode (mb_ 177) 163 = .ok (.iconst 1, 1)) ⟨by decide, by decide⟩
theorem ok_X12_note_164 : ok_S 177 164 (sf_i2 mx_add 165) := ok_iadd (by decide +kernel : decode (mb_ 177) 164 = .ok (.iadd, 1))
theorem ok_X12_note_165 : ok_S 177 165 (sf_iast 166) := ok_iast (by decide +kernel : decode (mb_ 177) 165 = .ok (.iastore, 1))
theorem ok_X12_note_166 : ok_S 177 166 (sf_ld 2 0 167) := ok_aload_n (by decide +kernel : decode (mb_ 177) 166 = .ok (.aload_n 0, 1)) rfl
theorem ok_X12_note_167 : ok_S 177 167 (sf_gr 13 13 0 170) := ok_gr fd_13_0 (by decide +kernel : decode (mb_ 177) 167 = .ok (.getfield 7, 3)) tw_1126 (Or.inl rfl) rfl
theorem ok_X12_note_170 : ok_S 177 170 (sf_push (0, 0) 171) := ok_iconst (by decide +kernel : decode (mb_ 177) 170 = .ok (.iconst 0, 1)) ⟨by decide, by decide⟩
theorem ok_X12_note_171 : ok_S 177 171 (sf_iald 172) := ok_iald (by decide +kernel : decode (mb_ 177) 171 = .ok (.iaload, 1))
theorem ok_X12_note_172 : ok_S 177 172 (sf_push (0, 1) 173) := ok_iconst (by decide +kernel : decode (mb_ 177) 172 = .ok (.iconst 1, 1)) ⟨by decide, by decide⟩
theorem ok_X12_note_173 : ok_S 177 173 (sf_i2 mx_sub 174) := ok_isub (by decide +kernel : decode (mb_ 177) 173 = .ok (.isub, 1))
theorem ok_X12_note_174 : ok_S 177 174 (sf_ret 0) := ok_ret0 (by decide +kernel : decode (mb_ 177) 174 = .ok (.ireturn, 1)) rfl
theorem ok_X12_note (pc : Nat) : ok_S 177 pc (cd_X12_note pc) :=
  (ok_bf (ok_bf (ok_bf (ok_bf (ok_bf (ok_bf (ok_bf (ok_lf pc ok_X12_note_174) (ok_lf pc ok_X12_note_173)) (ok_bf (ok_lf pc ok_X12_note_172) (ok_lf pc ok_X12_note_171))) (ok_bf (ok_bf (ok_lf pc ok_X12_note_170) (ok_lf pc ok_X12_note_167)) (ok_lf pc ok_X12_note_166))) (ok_bf (ok_bf (ok_bf (ok_lf pc ok_X12_note_165) (ok_lf pc ok_X12_note_164)) (ok_bf (ok_lf pc ok_X12_note_163) (ok_lf pc ok_X12_note_162))) (ok_bf (ok_bf (ok_lf pc ok_X12_note_161) (ok_lf pc ok_X12_note_160)) (ok_lf pc ok_X12_note_157)))) (ok_bf (ok_bf (ok_bf (ok_bf (ok_lf pc ok_X12_note_156) (ok_lf pc ok_X12_note_153)) (ok_bf (ok_lf pc ok_X12_note_150) (ok_lf pc ok_X12_note_149))) (ok_bf (ok_bf (ok_lf pc ok_X12_note_148) (ok_lf pc ok_X12_note_146)) (ok_lf pc ok_X12_note_145))) (ok_bf (ok_bf (ok_bf (ok_lf pc ok_X12_note_144) (ok_lf pc ok_X12_note_143)) (ok_lf pc ok_X12_note_141)) (ok_bf (ok_bf (ok_lf pc ok_X12_note_140) (ok_lf pc ok_X12_note_139)) (ok_lf pc ok_X12_note_137))))) (ok_bf (ok_bf (ok_bf (ok_bf (ok_bf (ok_lf pc ok_X12_note_136) (ok_lf pc ok_X12_note_134)) (ok_bf (ok_lf pc ok_X12_note_133) (ok_lf pc ok_X12_note_131))) (ok_bf (ok_bf (ok_lf pc ok_X12_note_130) (ok_lf pc ok_X12_note_129)) (ok_lf pc ok_X12_note_127))) (ok_bf (ok_bf (ok_bf (ok_lf pc ok_X12_note_124) (ok_lf pc ok_X12_note_123)) (ok_bf (ok_lf pc ok_X12_note_120) (ok_lf pc ok_X12_note_118))) (ok_bf (ok_bf (ok_lf pc ok_X12_note_116) (ok_lf pc ok_X12_note_114)) (ok_lf pc ok_X12_note_113)))) (ok_bf (ok_bf (ok_bf (ok_bf (ok_lf pc ok_X12_note_112) (ok_lf pc ok_X12_note_110)) (ok_bf (ok_lf pc ok_X12_note_109) (ok_lf pc ok_X12_note_108))) (ok_bf (ok_bf (ok_lf pc ok_X12_note_106) (ok_lf pc ok_X12_note_103)) (ok_lf pc ok_X12_note_102))) (ok_bf (ok_bf (ok_bf (ok_lf pc ok_X12_note_101) (ok_lf pc ok_X12_note_100)) (ok_lf pc ok_X12_note_99)) (ok_bf (ok_bf (ok_lf pc ok_X12_note_98) (ok_lf pc ok_X12_note_96)) (ok_lf pc ok_X12_note_93)))))) (ok_bf (ok_bf (ok_bf (ok_bf (ok_bf (ok_bf (ok_lf pc ok_X12_note_92) (ok_lf pc ok_X12_note_91)) (ok_bf (ok_lf pc ok_X12_note_90) (ok_lf pc ok_X12_note_89))) (ok_bf (ok_bf (ok_lf pc ok_X12_note_88) (ok_lf pc ok_X12_note_86)) (ok_lf pc ok_X12_note_83))) (ok_bf (ok_bf (ok_bf (ok_lf pc ok_X12_note_82) (ok_lf pc ok_X12_note_81)) (ok_bf (ok_lf pc ok_X12_note_80) (ok_lf pc ok_X12_note_79))) (ok_bf (ok_bf (ok_lf pc ok_X12_note_78) (ok_lf pc ok_X12_note_76)) (ok_lf pc ok_X12_note_73)))) (ok_bf (ok_bf (ok_bf (ok_bf (ok_lf pc ok_X12_note_72) (ok_lf pc ok_X12_note_70)) (ok_bf (ok_lf pc ok_X12_note_69) (ok_lf pc ok_X12_note_68))) (ok_bf (ok_bf (ok_lf pc ok_X12_note_67) (ok_lf pc ok_X12_note_66)) (ok_lf pc ok_X12_note_63))) (ok_bf (ok_bf (ok_bf (ok_lf pc ok_X12_note_62) (ok_lf pc ok_X12_note_60)) (ok_lf pc ok_X12_note_58)) (ok_bf (ok_bf (ok_lf pc ok_X12_note_57) (ok_lf pc ok_X12_note_55)) (ok_lf pc ok_X12_note_52))))) (ok_bf (ok_bf (ok_bf (ok_bf (ok_bf (ok_lf pc ok_X12_note_50) (ok_lf pc ok_X12_note_49)) (ok_bf (ok_lf pc ok_X12_note_48) (ok_lf pc ok_X12_note_45))) (ok_bf (ok_bf (ok_lf pc ok_X12_note_44) (ok_lf pc ok_X12_note_43)) (ok_lf pc ok_X12_note_42))) (ok_bf (ok_bf (ok_bf (ok_lf pc ok_X12_note_39) (ok_lf pc ok_X12_note_37)) (ok_bf (ok_lf pc ok_X12_note_34) (ok_lf pc ok_X12_note_31))) (ok_bf (ok_bf (ok_lf pc ok_X12_note_29) (ok_lf pc ok_X12_note_28)) (ok_lf pc ok_X12_note_26)))) (ok_bf (ok_bf (ok_bf (ok_bf (ok_lf pc ok_X12_note_23) (ok_lf pc ok_X12_note_20)) (ok_bf (ok_lf pc ok_X12_note_18) (ok_lf pc ok_X12_note_17))) (ok_bf (ok_bf (ok_lf pc ok_X12_note_16) (ok_lf pc ok_X12_note_13)) (ok_lf pc ok_X12_note_10))) (ok_bf (ok_bf (ok_bf (ok_lf pc ok_X12_note_9) (ok_lf pc ok_X12_note_6)) (ok_lf pc ok_X12_note_3)) (ok_bf (ok_bf (ok_lf pc ok_X12_note_2) (ok_lf pc ok_X12_note_1)) (ok_lf pc ok_X12_note_0)))))))
theorem mo_X12_note (pc : Nat) : mo_S (cd_X12_note pc) :=
  (mo_bf (mo_bf (mo_bf (mo_bf (mo_bf (mo_bf (mo_bf (mo_bf mo_ret mo_no) (mo_bf mo_i2 mo_no)) (mo_bf (mo_bf mo_push mo_no) (mo_bf mo_iald mo_no))) (mo_bf (mo_bf (mo_bf mo_push mo_no) (mo_bf mo_gr mo_no)) (mo_bf mo_ld mo_no))) (mo_bf (mo_bf (mo_bf (mo_bf mo_iast mo_no) (mo_bf mo_i2 mo_no)) (mo_bf (mo_bf mo_push mo_no) (mo_bf mo_iald mo_no))) (mo_bf (mo_bf (mo_bf mo_dup2 mo_no) (mo_bf mo_push mo_no)) (mo_bf mo_gr mo_no)))) (mo_bf (mo_bf (mo_bf (mo_bf (mo_bf mo_ld mo_no) (mo_bf mo_go mo_no)) (mo_bf (mo_bf mo_inc mo_no) (mo_bf mo_iast mo_no))) (mo_bf (mo_bf (mo_bf mo_i2 mo_no) (mo_bf mo_push mo_no)) (mo_bf mo_i2 mo_no))) (mo_bf (mo_bf (mo_bf (mo_bf mo_i2 mo_no) (mo_bf mo_i2 mo_no)) (mo_bf mo_ld mo_no)) (mo_bf (mo_bf (mo_bf mo_i2 mo_no) (mo_bf mo_push mo_no)) (mo_bf mo_ld mo_no))))) (mo_bf (mo_bf (mo_bf (mo_bf (mo_bf (mo_bf mo_push mo_no) (mo_bf mo_ld mo_no)) (mo_bf (mo_bf mo_i2 mo_no) (mo_bf mo_ld mo_no))) (mo_bf (mo_bf (mo_bf mo_i2 mo_no) (mo_bf mo_push mo_no)) (mo_bf mo_ld mo_no))) (mo_bf (mo_bf (mo_bf (mo_bf mo_gr mo_no) (mo_bf mo_ld mo_no)) (mo_bf (mo_bf mo_ic mo_no) (mo_bf mo_ld mo_no))) (mo_bf (mo_bf (mo_bf mo_ld mo_no) (mo_bf mo_st mo_no)) (mo_bf mo_push mo_no)))) (mo_bf (mo_bf (mo_bf (mo_bf (mo_bf mo_iast mo_no) (mo_bf mo_ld mo_no)) (mo_bf (mo_bf mo_i2 mo_no) (mo_bf mo_push mo_no))) (mo_bf (mo_bf (mo_bf mo_ld mo_no) (mo_bf mo_gr mo_no)) (mo_bf mo_ld mo_no))) (mo_bf (mo_bf (mo_bf (mo_bf mo_iast mo_no) (mo_bf mo_ld mo_no)) (mo_bf mo_i2 mo_no)) (mo_bf (mo_bf (mo_bf mo_push mo_no) (mo_bf mo_ld mo_no)) (mo_bf mo_gr mo_no)))))) (mo_bf (mo_bf (mo_bf (mo_bf (mo_bf (mo_bf (mo_bf mo_ld mo_no) (mo_bf mo_iast mo_no)) (mo_bf (mo_bf mo_ld mo_no) (mo_bf mo_i2 mo_no))) (mo_bf (mo_bf (mo_bf mo_push mo_no) (mo_bf mo_ld mo_no)) (mo_bf mo_gr mo_no))) (mo_bf (mo_bf (mo_bf (mo_bf mo_ld mo_no) (mo_bf mo_iast mo_no)) (mo_bf (mo_bf mo_ld mo_no) (mo_bf mo_i2 mo_no))) (mo_bf (mo_bf (mo_bf mo_push mo_no) (mo_bf mo_ld mo_no)) (mo_bf mo_gr mo_no)))) (mo_bf (mo_bf (mo_bf (mo_bf (mo_bf mo_ld mo_no) (mo_bf mo_st mo_no)) (mo_bf (mo_bf mo_i2 mo_no) (mo_bf mo_i2 mo_no))) (mo_bf (mo_bf (mo_bf mo_iald mo_no) (mo_bf mo_push mo_no)) (mo_bf mo_gr mo_no))) (mo_bf (mo_bf (mo_bf (mo_bf mo_ld mo_no) (mo_bf mo_push mo_no)) (mo_bf mo_push mo_no)) (mo_bf (mo_bf (mo_bf mo_ret mo_no) (mo_bf mo_push mo_no)) (mo_bf mo_ic mo_no))))) (mo_bf (mo_bf (mo_bf (mo_bf (mo_bf (mo_bf mo_push mo_no) (mo_bf mo_iald mo_no)) (mo_bf (mo_bf mo_push mo_no) (mo_bf mo_gr mo_no))) (mo_bf (mo_bf (mo_bf mo_ld mo_no) (mo_bf mo_ret mo_no)) (mo_bf mo_push mo_no))) (mo_bf (mo_bf (mo_bf (mo_bf mo_if mo_no) (mo_bf mo_ld mo_no)) (mo_bf (mo_bf mo_if mo_no) (mo_bf mo_cs mo_no))) (mo_bf (mo_bf (mo_bf mo_push mo_no) (mo_bf mo_push mo_no)) (mo_bf mo_ld mo_no)))) (mo_bf (mo_bf (mo_bf (mo_bf (mo_bf mo_if mo_no) (mo_bf mo_cs mo_no)) (mo_bf (mo_bf mo_push mo_no) (mo_bf mo_push mo_no))) (mo_bf (mo_bf (mo_bf mo_ld mo_no) (mo_bf mo_if mo_no)) (mo_bf mo_cs mo_no))) (mo_bf (mo_bf (mo_bf (mo_bf mo_ld mo_no) (mo_bf mo_if mo_no)) (mo_bf mo_cs mo_no)) (mo_bf (mo_bf (mo_bf mo_push mo_no) (mo_bf mo_push mo_no)) (mo_bf mo_ld mo_no)))))))
theorem ok_X12_noteOf_0 : ok_S 178 0 (sf_ld 2 0 1) := ok_aload_n (by decide +kernel : decode (mb_ 178) 0 = .ok (.aload_n 0, 1)) rfl
theorem ok_X12_noteOf_1 : ok_S 178 1 (sf_ld 0 1 2) := ok_iload_n (by decide +kernel : decode (mb_ 178) 1 = .ok (.iload_n 1, 1)) rfl
theorem ok_X12_noteOf_2 : ok_S 178 2 (sf_cv 13 [2, 0] 158 5) := ok_cv mt_158 cl_13 (by decide +kernel : decode (mb_ 178) 2 = .ok (.invokevirtual 166, 3)) tw_1297 tw_1299 ts_41 tw_7 rfl (by decide +kernel) (mh_ok rfl) (by decide) (by decide)
theorem ok_X12_noteOf_5 : ok_S 178 5 (sf_if 1 10 8) := ok_if1 (by decide +kernel : decode (mb_ 178) 5 = .ok (.ifCond .ne 5, 3)) (by decide)
theorem ok_X12_noteOf_8 : ok_S 178 8 (sf_push (0, (-1)) 9) := ok_iconst (by decide +kernel : decode (mb_ 178) 8 = .ok (.iconst (-1), 1)) ⟨by decide, by decide⟩
theorem ok_X12_noteOf_9 : ok_S 178 9 (sf_ret 0) := ok_ret0 (by decide +kernel : decode (mb_ 178) 9 = .ok (.ireturn, 1)) rfl
theorem ok_X12_noteOf_10 : ok_S 178 10 (sf_ld 0 2 11) := ok_iload_n (by decide +kernel : decode (mb_ 178) 10 = .ok (.iload_n 2, 1)) rfl
theorem ok_X12_noteOf_11 : ok_S 178 11 (sf_push (0, 0) 12) := ok_iconst (by decide +kernel : decode (mb_ 178) 11 = .ok (.iconst 0, 1)) ⟨by decide, by decide⟩
theorem ok_X12_noteOf_12 : ok_S 178 12 (sf_push (0, 3) 13) := ok_iconst (by decide +kernel : decode (mb_ 178) 12 = .ok (.iconst 3, 1)) ⟨by decide, by decide⟩
theorem ok_X12_noteOf_13 : ok_S 178 13 (sf_cs [0, 0, 0] 157 16) := ok_cs mt_157 (by decide +kernel : decode (mb_ 178) 13 = .ok (.invokestatic 56, 3)) tw_1206 tw_1207 tw_7 (by decide +kernel) (mh_ok rfl) (by decide) (by decide)
theorem ok_X12_noteOf_16 : ok_S 178 16 (sf_if 0 26 19) := ok_if0 (by decide +kernel : decode (mb_ 178) 16 = .ok (.ifCond .eq 10, 3)) (by decide)
theorem ok_X12_noteOf_19 : ok_S 178 19 (sf_ld 2 0 20) := ok_aload_n (by decide +kernel : decode (mb_ 178) 19 = .ok (.aload_n 0, 1)) rfl
theorem ok_X12_noteOf_20 : ok_S 178 20 (sf_ld 0 1 21) := ok_iload_n (by decide +kernel : decode (mb_ 178) 20 = .ok (.iload_n 1, 1)) rfl
theorem ok_X12_noteOf_21 : ok_S 178 21 (sf_ld 0 2 22) := ok_iload_n (by decide +kernel : decode (mb_ 178) 21 = .ok (.iload_n 2, 1)) rfl
theorem ok_X12_noteOf_22 : ok_S 178 22 (sf_cv 13 [2, 0, 0] 161 25) := ok_cv mt_161 cl_13 (by decide +kernel : decode (mb_ 178) 22 = .ok (.invokevirtual 162, 3)) tw_1285 tw_1287 ts_40 tw_7 rfl (by decide +kernel) (mh_ok rfl) (by decide) (by decide)
theorem ok_X12_noteOf_25 : ok_S 178 25 (sf_ret 0) := ok_ret0 (by decide +kernel : decode (mb_ 178) 25 = .ok (.ireturn, 1)) rfl
theorem ok_X12_noteOf_26 : ok_S 178 26 (sf_ld 0 2 27) := ok_iload_n (by decide +kernel : decode (mb_ 178) 26 = .ok (.iload_n 2, 1)) rfl
theorem ok_X12_noteOf_27 : ok_S 178 27 (sf_push (0, 10) 29) := ok_bipush (by decide +kernel : decode (mb_ 178) 27 = .ok (.bipush 10, 2)) ⟨by decide, by decide⟩ (by decide +kernel)
theorem ok_X12_noteOf_29 : ok_S 178 29 (sf_push (0, 9) 31) := ok_bipush (by decide +kernel : decode (mb_ 178) 29 = .ok (.bipush 9, 2)) ⟨by decide, by decide⟩ (by decide +kernel)
theorem ok_X12_noteOf_31 : ok_S 178 31 (sf_ld 2 0 32) := ok_aload_n (by decide +kernel : decode (mb_ 178) 31 = .ok (.aload_n 0, 1)) rfl
theorem ok_X12_noteOf_32 : ok_S 178 32 (sf_ld 0 1 33) := ok_iload_n (by decide +kernel : decode (mb_ 178) 32 = .ok (.iload_n 1, 1)) rfl
theorem ok_X12_noteOf_33 : ok_S 178 33 (sf_push (0, 3) 34) := ok_iconst (by decide +kernel : decode (mb_ 178) 33 = .ok (.iconst 3, 1)) ⟨by decide, by decide⟩
theorem ok_X12_noteOf_34 : ok_S 178 34 (sf_cv 13 [2, 0, 0] 161 37) := ok_cv mt_161 cl_13 (by decide +kernel : decode (mb_ 178) 34 = .ok (.invokevirtual 162, 3)) tw_1285 tw_1287 ts_40 tw_7 rfl (by decide +kernel) (mh_ok rfl) (by decide) (by decide)
theorem ok_X12_noteOf_37 : ok_S 178 37 (sf_i2 mx_add 38) := ok_iadd (by decide +kernel : decode (mb_ 178) 37 = .ok (.iadd, 1))
theorem ok_X12_noteOf_38 : ok_S 178 38 (sf_cs [0, 0, 0] 157 41) := ok_cs mt_157 (by decide +kernel : decode (mb_ 178) 38 = .ok (.invokestatic 56, 3)) tw_1206 tw_1207 tw_7 (by decide +kernel) (mh_ok rfl) (by decide) (by decide)
theorem ok_X12_noteOf_41 : ok_S 178 41 (sf_if 0 58 44) := ok_if0 (by decide +kernel : decode (mb_ 178) 41 = .ok (.ifCond .eq 17, 3)) (by decide)
theorem ok_X12_noteOf_44 : ok_S 178 44 (sf_ld 2 0 45) := ok_aload_n (by decide +kernel : decode (mb_ 178) 44 = .ok (.aload_n 0, 1)) rfl
theorem ok_X12_noteOf_45 : ok_S 178 45 (sf_ld 0 1 46) := ok_iload_n (by decide +kernel : decode (mb_ 178) 45 = .ok (.iload_n 1, 1)) rfl
theorem ok_X12_noteOf_46 : ok_S 178 46 (sf_push (0, 4) 47) := ok_iconst (by decide +kernel : decode (mb_ 178) 46 = .ok (.iconst 4, 1)) ⟨by decide, by decide⟩
theorem ok_X12_noteOf_47 : ok_S 178 47 (sf_ld 0 2 48) := ok_iload_n (by decide +kernel : decode (mb_ 178) 47 = .ok (.iload_n 2, 1)) rfl
theorem ok_X12_noteOf_48 : ok_S 178 48 (sf_i2 mx_add 49) := ok_iadd (by decide +kernel : decode (mb_ 178) 48 = .ok (.iadd, 1))
theorem ok_X12_noteOf_49 : ok_S 178 49 (sf_push (0, 10) 51) := ok_bipush (by decide +kernel : decode (mb_ 178) 49 = .ok (.bipush 10, 2)) ⟨by decide, by decide⟩ (by decide +kernel)
theorem ok_X12_noteOf_51 : ok_S 178 51 (sf_i2 mx_sub 52) := ok_isub (by decide +kernel : decode (mb_ 178) 51 = .ok (.isub, 1))
theorem ok_X12_noteOf_52 : ok_S 178 52 (sf_cv 13 [2, 0, 0] 161 55) := ok_cv mt_161 cl_13 (by decide +kernel : decode (mb_ 178) 52 = .ok (.invokevirtual 162, 3)) tw_1285 tw_1287 ts_40 tw_7 rfl (by decide +kernel) (mh_ok rfl) (by decide) (by decide)
theorem ok_X12_noteOf_55 : ok_S 178 55 (sf_go 59) := ok_goto (by decide +kernel : decode (mb_ 178) 55 = .ok (.goto 4, 3)) (by decide)
theorem ok_X12_noteOf_58 : ok_S 178 58 (sf_push (0, (-1)) 59) := ok_iconst (by decide +kernel : decode (mb_ 178) 58 = .ok (.iconst (-1), 1)) ⟨by decide, by decide⟩
theorem ok_X12_noteOf_59 : ok_S 178 59 (sf_ret 0) := ok_ret0 (by decide +kernel : decode (mb_ 178) 59 = .ok (.ireturn, 1)) rfl
theorem ok_X12_noteOf (pc : Nat) : ok_S 178 pc (cd_X12_noteOf pc) :=
  (ok_bf (ok_bf (ok_bf (ok_bf (ok_bf (ok_bf (ok_lf pc ok_X12_noteOf_59) (ok_lf pc ok_X12_noteOf_58)) (ok_lf pc ok_X12_noteOf_55)) (ok_bf (ok_lf pc ok_X12_noteOf_52) (ok_lf pc ok_X12_noteOf_51))) (ok_bf (ok_bf (ok_bf (ok_lf pc ok_X12_noteOf_49) (ok_lf pc ok_X12_noteOf_48)) (ok_lf pc ok_X12_noteOf_47)) (ok_bf (ok_lf pc ok_X12_noteOf_46) (ok_lf pc ok_X12_noteOf_45)))) (ok_bf (ok_bf (ok_bf (ok_bf (ok_lf pc ok_X12_noteOf_44) (ok_lf pc ok_X12_noteOf_41)) (ok_lf pc ok_X12_noteOf_38)) (ok_bf (ok_lf pc ok_X12_noteOf_37) (ok_lf pc ok_X12_noteOf_34))) (ok_bf (ok_bf (ok_lf pc ok_X12_noteOf_33) (ok_lf pc ok_X12_noteOf_32)) (ok_bf (ok_lf pc ok_X12_noteOf_31) (ok_lf pc ok_X12_noteOf_29))))) (ok_bf (ok_bf (ok_bf (ok_bf (ok_bf (ok_lf pc ok_X12_noteOf_27) (ok_lf pc ok_X12_noteOf_26)) (ok_lf pc ok_X12_noteOf_25)) (ok_bf (ok_lf pc ok_X12_noteOf_22) (ok_lf pc ok_X12_noteOf_21))) (ok_bf (ok_bf (ok_lf pc ok_X12_noteOf_20) (ok_lf pc ok_X12_noteOf_19)) (ok_bf (ok_lf pc ok_X12_noteOf_16) (ok_lf pc ok_X12_noteOf_13)))) (ok_bf (ok_bf (ok_bf (ok_bf (ok_lf pc ok_X12_noteOf_12) (ok_lf pc ok_X12_noteOf_11)) (ok_lf pc ok_X12_noteOf_10)) (ok_bf (ok_lf pc ok_X12_noteOf_9) (ok_lf pc ok_X12_noteOf_8))) (ok_bf (ok_bf (ok_lf pc ok_X12_noteOf_5) (ok_lf pc ok_X12_noteOf_2)) (ok_bf (ok_lf pc ok_X12_noteOf_1) (ok_lf pc ok_X12_noteOf_0))))))
theorem mo_X12_noteOf (pc : Nat) : mo_S (cd_X12_noteOf pc) :=
  (mo_bf (mo_bf (mo_bf (mo_bf (mo_bf (mo_bf (mo_bf mo_ret mo_no) (mo_bf mo_push mo_no)) (mo_bf mo_go mo_no)) (mo_bf (mo_bf mo_cv mo_no) (mo_bf mo_i2 mo_no))) (mo_bf (mo_bf (mo_bf (mo_bf mo_push mo_no) (mo_bf mo_i2 mo_no)) (mo_bf mo_ld mo_no)) (mo_bf (mo_bf mo_push mo_no) (mo_bf mo_ld mo_no)))) (mo_bf (mo_bf (mo_bf (mo_bf (mo_bf mo_ld mo_no) (mo_bf mo_if mo_no)) (mo_bf mo_cs mo_no)) (mo_bf (mo_bf mo_i2 mo_no) (mo_bf mo_cv mo_no))) (mo_bf (mo_bf (mo_bf mo_push mo_no) (mo_bf mo_ld mo_no)) (mo_bf (mo_bf mo_ld mo_no) (mo_bf mo_push mo_no))))) (mo_bf (mo_bf (mo_bf (mo_bf (mo_bf (mo_bf mo_push mo_no) (mo_bf mo_ld mo_no)) (mo_bf mo_ret mo_no)) (mo_bf (mo_bf mo_cv mo_no) (mo_bf mo_ld mo_no))) (mo_bf (mo_bf (mo_bf mo_ld mo_no) (mo_bf mo_ld mo_no)) (mo_bf (mo_bf mo_if mo_no) (mo_bf mo_cs mo_no)))) (mo_bf (mo_bf (mo_bf (mo_bf (mo_bf mo_push mo_no) (mo_bf mo_push mo_no)) (mo_bf mo_ld mo_no)) (mo_bf (mo_bf mo_ret mo_no) (mo_bf mo_push mo_no))) (mo_bf (mo_bf (mo_bf mo_if mo_no) (mo_bf mo_cv mo_no)) (mo_bf (mo_bf mo_ld mo_no) (mo_bf mo_ld mo_no))))))
theorem ok_X12_isPlace_0 : ok_S 179 0 (sf_ld 0 2 1) := ok_iload_n (by decide +kernel : decode (mb_ 179) 0 = .ok (.iload_n 2, 1)) rfl
theorem ok_X12_isPlace_1 : ok_S 179 1 (sf_push (0, 0) 2) := ok_iconst (by decide +kernel : decode (mb_ 179) 1 = .ok (.iconst 0, 1)) ⟨by decide, by decide⟩
theorem ok_X12_isPlace_2 : ok_S 179 2 (sf_ld 2 0 3) := ok_aload_n (by decide +kernel : decode (mb_ 179) 2 = .ok (.aload_n 0, 1)) rfl
theorem ok_X12_isPlace_3 : ok_S 179 3 (sf_ld 0 1 4) := ok_iload_n (by decide +kernel : decode (mb_ 179) 3 = .ok (.iload_n 1, 1)) rfl
theorem ok_X12_isPlace_4 : ok_S 179 4 (sf_push (0, 3) 5) := ok_iconst (by decide +kernel : decode (mb_ 179) 4 = .ok (.iconst 3, 1)) ⟨by decide, by decide⟩
theorem ok_X12_isPlace_5 : ok_S 179 5 (sf_cv 13 [2, 0, 0] 161 8) := ok_cv mt_161 cl_13 (by decide +kernel : decode (mb_ 179) 5 = .ok (.invokevirtual 162, 3)) tw_1285 tw_1287 ts_40 tw_7 rfl (by decide +kernel) (mh_ok rfl) (by decide) (by decide)
theorem ok_X12_isPlace_8 : ok_S 179 8 (sf_push (0, 1) 9) := ok_iconst (by decide +kernel : decode (mb_ 179) 8 = .ok (.iconst 1, 1)) ⟨by decide, by decide⟩
theorem ok_X12_isPlace_9 : ok_S 179 9 (sf_i2 mx_sub 10) := ok_isub (by decide +kernel : decode (mb_ 179) 9 = .ok (.isub, 1))
theorem ok_X12_isPlace_10 : ok_S 179 10 (sf_cs [0, 0, 0] 157 13) := ok_cs mt_157 (by decide +kernel : decode (mb_ 179) 10 = .ok (.invokestatic 56, 3)) tw_1206 tw_1207 tw_7 (by decide +kernel) (mh_ok rfl) (by decide) (by decide)
theorem ok_X12_isPlace_13 : ok_S 179 13 (sf_rr 0 1) := ok_rr (by decide +kernel : decode (mb_ 179) 13 = .ok (.ireturn, 1)) rfl (so_nz .boolean rfl rfl)
theorem ok_X12_isPlace (pc : Nat) : ok_S 179 pc (cd_X12_isPlace pc) :=
  (ok_bf (ok_bf (ok_bf (ok_bf (ok_lf pc ok_X12_isPlace_13) (ok_lf pc ok_X12_isPlace_10)) (ok_lf pc ok_X12_isPlace_9)) (ok_bf (ok_lf pc ok_X12_isPlace_8) (ok_lf pc ok_X12_isPlace_5))) (ok_bf (ok_bf (ok_bf (ok_lf pc ok_X12_isPlace_4) (ok_lf pc ok_X12_isPlace_3)) (ok_lf pc ok_X12_isPlace_2)) (ok_bf (ok_lf pc ok_X12_isPlace_1) (ok_lf pc ok_X12_isPlace_0))))
theorem mo_X12_isPlace (pc : Nat) : mo_S (cd_X12_isPlace pc) :=
  (mo_bf (mo_bf (mo_bf (mo_bf (mo_bf mo_rr mo_no) (mo_bf mo_cs mo_no)) (mo_bf mo_i2 mo_no)) (mo_bf (mo_bf mo_push mo_no) (mo_bf mo_cv mo_no))) (mo_bf (mo_bf (mo_bf (mo_bf mo_push mo_no) (mo_bf mo_ld mo_no)) (mo_bf mo_ld mo_no)) (mo_bf (mo_bf mo_push mo_no) (mo_bf mo_ld mo_no))))
theorem ok_X12_alter_0 : ok_S 180 0 (sf_ld 2 0 1) := ok_aload_n (by decide +kernel : decode (mb_ 180) 0 = .ok (.aload_n 0, 1)) rfl
theorem ok_X12_alter_1 : ok_S 180 1 (sf_ld 0 1 2) := ok_iload_n (by decide +kernel : decode (mb_ 180) 1 = .ok (.iload_n 1, 1)) rfl
theorem ok_X12_alter_2 : ok_S 180 2 (sf_cv 13 [2, 0] 158 5) := ok_cv mt_158 cl_13 (by decide +kernel : decode (mb_ 180) 2 = .ok (.invokevirtual 166, 3)) tw_1297 tw_1299 ts_41 tw_7 rfl (by decide +kernel) (mh_ok rfl) (by decide) (by decide)
theorem ok_X12_alter_5 : ok_S 180 5 (sf_if 0 27 8) := ok_if0 (by decide +kernel : decode (mb_ 180) 5 = .ok (.ifCond .eq 22, 3)) (by decide)
theorem ok_X12_alter_8 : ok_S 180 8 (sf_ld 2 0 9) := ok_aload_n (by decide +kernel : decode (mb_ 180) 8 = .ok (.aload_n 0, 1)) rfl
theorem ok_X12_alter_9 : ok_S 180 9 (sf_ld 0 1 10) := ok_iload_n (by decide +kernel : decode (mb_ 180) 9 = .ok (.iload_n 1, 1)) rfl
theorem ok_X12_alter_10 : ok_S 180 10 (sf_ld 0 2 11) := ok_iload_n (by decide +kernel : decode (mb_ 180) 10 = .ok (.iload_n 2, 1)) rfl
theorem ok_X12_alter_11 : ok_S 180 11 (sf_cv 13 [2, 0, 0] 179 14) := ok_cv mt_179 cl_13 (by decide +kernel : decode (mb_ 180) 11 = .ok (.invokevirtual 169, 3)) tw_1305 tw_1307 ts_42 tw_7 rfl (by decide +kernel) (mh_ok rfl) (by decide) (by decide)
theorem ok_X12_alter_14 : ok_S 180 14 (sf_if 0 27 17) := ok_if0 (by decide +kernel : decode (mb_ 180) 14 = .ok (.ifCond .eq 13, 3)) (by decide)
theorem ok_X12_alter_17 : ok_S 180 17 (sf_ld 0 3 18) := ok_iload_n (by decide +kernel : decode (mb_ 180) 17 = .ok (.iload_n 3, 1)) rfl
theorem ok_X12_alter_18 : ok_S 180 18 (sf_push (0, 0) 19) := ok_iconst (by decide +kernel : decode (mb_ 180) 18 = .ok (.iconst 0, 1)) ⟨by decide, by decide⟩
theorem ok_X12_alter_19 : ok_S 180 19 (sf_push (0, 15) 21) := ok_bipush (by decide +kernel : decode (mb_ 180) 19 = .ok (.bipush 15, 2)) ⟨by decide, by decide⟩ (by decide +kernel)
theorem ok_X12_alter_21 : ok_S 180 21 (sf_cs [0, 0, 0] 157 24) := ok_cs mt_157 (by decide +kernel : decode (mb_ 180) 21 = .ok (.invokestatic 56, 3)) tw_1206 tw_1207 tw_7 (by decide +kernel) (mh_ok rfl) (by decide) (by decide)
theorem ok_X12_alter_24 : ok_S 180 24 (sf_if 1 29 27) := ok_if1 (by decide +kernel : decode (mb_ 180) 24 = .ok (.ifCond .ne 5, 3)) (by decide)
theorem ok_X12_alter_27 : ok_S 180 27 (sf_push (0, (-1)) 28) := ok_iconst (by decide +kernel : decode (mb_ 180) 27 = .ok (.iconst (-1), 1)) ⟨by decide, by decide⟩
theorem ok_X12_alter_28 : ok_S 180 28 (sf_ret 0) := ok_ret0 (by decide +kernel : decode (mb_ 180) 28 = .ok (.ireturn, 1)) rfl
theorem ok_X12_alter_29 : ok_S 180 29 (sf_ld 2 0 30) := ok_aload_n (by decide +kernel : decode (mb_ 180) 29 = .ok (.aload_n 0, 1)) rfl
theorem ok_X12_alter_30 : ok_S 180 30 (sf_ld 0 1 31) := ok_iload_n (by decide +kernel : decode (mb_ 180) 30 = .ok (.iload_n 1, 1)) rfl
theorem ok_X12_alter_31 : ok_S 180 31 (sf_push (0, 4) 32) := ok_iconst (by decide +kernel : decode (mb_ 180) 31 = .ok (.iconst 4, 1)) ⟨by decide, by decide⟩
theorem ok_X12_alter_32 : ok_S 180 32 (sf_ld 0 2 33) := ok_iload_n (by decide +kernel : decode (mb_ 180) 32 = .ok (.iload_n 2, 1)) rfl
theorem ok_X12_alter_33 : ok_S 180 33 (sf_i2 mx_add 34) := ok_iadd (by decide +kernel : decode (mb_ 180) 33 = .ok (.iadd, 1))
theorem ok_X12_alter_34 : ok_S 180 34 (sf_cv 13 [2, 0, 0] 161 37) := ok_cv mt_161 cl_13 (by decide +kernel : decode (mb_ 180) 34 = .ok (.invokevirtual 162, 3)) tw_1285 tw_1287 ts_40 tw_7 rfl (by decide +kernel) (mh_ok rfl) (by decide) (by decide)
theorem ok_X12_alter_37 : ok_S 180 37 (sf_st 0 4 39) := ok_istore (by decide +kernel : decode (mb_ 180) 37 = .ok (.istore 4, 2))
theorem ok_X12_alter_39 : ok_S 180 39 (sf_ld 2 0 40) := ok_aload_n (by decide +kernel : decode (mb_ 180) 39 = .ok (.aload_n 0, 1)) rfl
theorem ok_X12_alter_40 : ok_S 180 40 (sf_gr 13 13 0 43) := ok_gr fd_13_0 (by decide +kernel : decode (mb_ 180) 40 = .ok (.getfield 7, 3)) tw_1126 (Or.inl rfl) rfl
theorem ok_X12_alter_43 : ok_S 180 43 (sf_push (0, 9) 45) := ok_bipush (by decide +kernel : decode (mb_ 180) 43 = .ok (.bipush 9, 2)) ⟨by decide, by decide⟩ (by decide +kernel)
theorem ok_X12_alter_45 : ok_S 180 45 (sf_push (0, 10) 47) := ok_bipush (by decide +kernel : decode (mb_ 180) 45 = .ok (.bipush 10, 2)) ⟨by decide, by decide⟩ (by decide +kernel)
theorem ok_X12_alter_47 : ok_S 180 47 (sf_ld 0 1 48) := ok_iload_n (by decide +kernel : decode (mb_ 180) 47 = .ok (.iload_n 1, 1)) rfl
theorem ok_X12_alter_48 : ok_S 180 48 (sf_i2 mx_mul 49) := ok_imul (by decide +kernel : decode (mb_ 180) 48 = .ok (.imul, 1))
theorem ok_X12_alter_49 : ok_S 180 49 (sf_i2 mx_add 50) := ok_iadd (by decide +kernel : decode (mb_ 180) 49 = .ok (.iadd, 1))
theorem ok_X12_alter_50 : ok_S 180 50 (sf_push (0, 4) 51) := ok_iconst (by decide +kernel : decode (mb_ 180) 50 = .ok (.iconst 4, 1)) ⟨by decide, by decide⟩
theorem ok_X12_alter_51 : ok_S 180 51 (sf_i2 mx_add 52) := ok_iadd (by decide +kernel : decode (mb_ 180) 51 = .ok (.iadd, 1))
theorem ok_X12_alter_52 : ok_S 180 52 (sf_ld 0 2 53) := ok_iload_n (by decide +kernel : decode (mb_ 180) 52 = .ok (.iload_n 2, 1)) rfl
theorem ok_X12_alter_53 : ok_S 180 53 (sf_i2 mx_add 54) := ok_iadd (by decide +kernel : decode (mb_ 180) 53 = .ok (.iadd, 1))
theorem ok_X12_alter_54 : ok_S 180 54 (sf_ld 0 3 55) := ok_iload_n (by decide +kernel : decode (mb_ 180) 54 = .ok (.iload_n 3, 1)) rfl
theorem ok_X12_alter_55 : ok_S 180 55 (sf_iast 56) := ok_iast (by decide +kernel : decode (mb_ 180) 55 = .ok (.iastore, 1))
theorem ok_X12_alter_56 : ok_S 180 56 (sf_ld 0 4 58) := ok_iload (by decide +kernel : decode (mb_ 180) 56 = .ok (.iload 4, 2))
theorem ok_X12_alter_58 : ok_S 180 58 (sf_ret 0) := ok_ret0 (by decide +kernel : decode (mb_ 180) 58 = .ok (.ireturn, 1)) rfl
theorem ok_X12_alter (pc : Nat) : ok_S 180 pc (cd_X12_alter pc) :=
  (ok_bf (ok_bf (ok_bf (ok_bf (ok_bf (ok_bf (ok_lf pc ok_X12_alter_58) (ok_lf pc ok_X12_alter_56)) (ok_lf pc ok_X12_alter_55)) (ok_bf (ok_lf pc ok_X12_alter_54) (ok_lf pc ok_X12_alter_53))) (ok_bf (ok_bf (ok_bf (ok_lf pc ok_X12_alter_52) (ok_lf pc ok_X12_alter_51)) (ok_lf pc ok_X12_alter_50)) (ok_bf (ok_lf pc ok_X12_alter_49) (ok_lf pc ok_X12_alter_48)))) (ok_bf (ok_bf (ok_bf (ok_bf (ok_lf pc ok_X12_alter_47) (ok_lf pc ok_X12_alter_45)) (ok_lf pc ok_X12_alter_43)) (ok_bf (ok_lf pc ok_X12_alter_40) (ok_lf pc ok_X12_alter_39))) (ok_bf (ok_bf (ok_lf pc ok_X12_alter_37) (ok_lf pc ok_X12_alter_34)) (ok_bf (ok_lf pc ok_X12_alter_33) (ok_lf pc ok_X12_alter_32))))) (ok_bf (ok_bf (ok_bf (ok_bf (ok_bf (ok_lf pc ok_X12_alter_31) (ok_lf pc ok_X12_alter_30)) (ok_lf pc ok_X12_alter_29)) (ok_bf (ok_lf pc ok_X12_alter_28) (ok_lf pc ok_X12_alter_27))) (ok_bf (ok_bf (ok_bf (ok_lf pc ok_X12_alter_24) (ok_lf pc ok_X12_alter_21)) (ok_lf pc ok_X12_alter_19)) (ok_bf (ok_lf pc ok_X12_alter_18) (ok_lf pc ok_X12_alter_17)))) (ok_bf (ok_bf (ok_bf (ok_bf (ok_lf pc ok_X12_alter_14) (ok_lf pc ok_X12_alter_11)) (ok_lf pc ok_X12_alter_10)) (ok_bf (ok_lf pc ok_X12_alter_9) (ok_lf pc ok_X12_alter_8))) (ok_bf (ok_bf (ok_lf pc ok_X12_alter_5) (ok_lf pc ok_X12_alter_2)) (ok_bf (ok_lf pc ok_X12_alter_1) (ok_lf pc ok_X12_alter_0))))))
theorem mo_X12_alter (pc : Nat) : mo_S (cd_X12_alter pc) :=
  (mo_bf (mo_bf (mo_bf (mo_bf (mo_bf (mo_bf (mo_bf mo_ret mo_no) (mo_bf mo_ld mo_no)) (mo_bf mo_iast mo_no)) (mo_bf (mo_bf mo_ld mo_no) (mo_bf mo_i2 mo_no))) (mo_bf (mo_bf (mo_bf (mo_bf mo_ld mo_no) (mo_bf mo_i2 mo_no)) (mo_bf mo_push mo_no)) (mo_bf (mo_bf mo_i2 mo_no) (mo_bf mo_i2 mo_no)))) (mo_bf (mo_bf (mo_bf (mo_bf (mo_bf mo_ld mo_no) (mo_bf mo_push mo_no)) (mo_bf mo_push mo_no)) (mo_bf (mo_bf mo_gr mo_no) (mo_bf mo_ld mo_no))) (mo_bf (mo_bf (mo_bf mo_st mo_no) (mo_bf mo_cv mo_no)) (mo_bf (mo_bf mo_i2 mo_no) (mo_bf mo_ld mo_no))))) (mo_bf (mo_bf (mo_bf (mo_bf (mo_bf (mo_bf mo_push mo_no) (mo_bf mo_ld mo_no)) (mo_bf mo_ld mo_no)) (mo_bf (mo_bf mo_ret mo_no) (mo_bf mo_push mo_no))) (mo_bf (mo_bf (mo_bf (mo_bf mo_if mo_no) (mo_bf mo_cs mo_no)) (mo_bf mo_push mo_no)) (mo_bf (mo_bf mo_push mo_no) (mo_bf mo_ld mo_no)))) (mo_bf (mo_bf (mo_bf (mo_bf (mo_bf mo_if mo_no) (mo_bf mo_cv mo_no)) (mo_bf mo_ld mo_no)) (mo_bf (mo_bf mo_ld mo_no) (mo_bf mo_ld mo_no))) (mo_bf (mo_bf (mo_bf mo_if mo_no) (mo_bf mo_cv mo_no)) (mo_bf (mo_bf mo_ld mo_no) (mo_bf mo_ld mo_no))))))
theorem ok_X12_move_0 : ok_S 181 0 (sf_ld 2 0 1) := ok_aload_n (by decide +kernel : decode (mb_ 181) 0 = .ok (.aload_n 0, 1)) rfl
theorem ok_X12_move_1 : ok_S 181 1 (sf_ld 0 1 2) := ok_iload_n (by decide +kernel : decode (mb_ 181) 1 = .ok (.iload_n 1, 1)) rfl
theorem ok_X12_move_2 : ok_S 181 2 (sf_cv 13 [2, 0] 158 5) := ok_cv mt_158 cl_13 (by decide +kernel : decode (mb_ 181) 2 = .ok (.invokevirtual 166, 3)) tw_1297 tw_1299 ts_41 tw_7 rfl (by decide +kernel) (mh_ok rfl) (by decide) (by decide)
theorem ok_X12_move_5 : ok_S 181 5 (sf_if 0 15 8) := ok_if0 (by decide +kernel : decode (mb_ 181) 5 = .ok (.ifCond .eq 10, 3)) (by decide)
theorem ok_X12_move_8 : ok_S 181 8 (sf_ld 0 2 9) := ok_iload_n (by decide +kernel : decode (mb_ 181) 8 = .ok (.iload_n 2, 1)) rfl
theorem ok_X12_move_9 : ok_S 181 9 (sf_cs [0] 159 12) := ok_cs mt_159 (by decide +kernel : decode (mb_ 181) 9 = .ok (.invokestatic 156, 3)) tw_1275 tw_1276 tw_7 (by decide +kernel) (mh_ok rfl) (by decide) (by decide)
theorem ok_X12_move_12 : ok_S 181 12 (sf_if 1 17 15) := ok_if1 (by decide +kernel : decode (mb_ 181) 12 = .ok (.ifCond .ne 5, 3)) (by decide)
theorem ok_X12_move_15 : ok_S 181 15 (sf_push (0, (-1)) 16) := ok_iconst (by decide +kernel : decode (mb_ 181) 15 = .ok (.iconst (-1), 1)) ⟨by decide, by decide⟩
theorem ok_X12_move_16 : ok_S 181 16 (sf_ret 0) := ok_ret0 (by decide +kernel : decode (mb_ 181) 16 = .ok (.ireturn, 1)) rfl
theorem ok_X12_move_17 : ok_S 181 17 (sf_ld 2 0 18) := ok_aload_n (by decide +kernel : decode (mb_ 181) 17 = .ok (.aload_n 0, 1)) rfl
theorem ok_X12_move_18 : ok_S 181 18 (sf_ld 0 1 19) := ok_iload_n (by decide +kernel : decode (mb_ 181) 18 = .ok (.iload_n 1, 1)) rfl
theorem ok_X12_move_19 : ok_S 181 19 (sf_push (0, 1) 20) := ok_iconst (by decide +kernel : decode (mb_ 181) 19 = .ok (.iconst 1, 1)) ⟨by decide, by decide⟩
theorem ok_X12_move_20 : ok_S 181 20 (sf_cv 13 [2, 0, 0] 161 23) := ok_cv mt_161 cl_13 (by decide +kernel : decode (mb_ 181) 20 = .ok (.invokevirtual 162, 3)) tw_1285 tw_1287 ts_40 tw_7 rfl (by decide +kernel) (mh_ok rfl) (by decide) (by decide)
theorem ok_X12_move_23 : ok_S 181 23 (sf_st 0 3 24) := ok_istore_n (by decide +kernel : decode (mb_ 181) 23 = .ok (.istore_n 3, 1)) rfl
theorem ok_X12_move_24 : ok_S 181 24 (sf_ld 2 0 25) := ok_aload_n (by decide +kernel : decode (mb_ 181) 24 = .ok (.aload_n 0, 1)) rfl
theorem ok_X12_move_25 : ok_S 181 25 (sf_gr 13 13 0 28) := ok_gr fd_13_0 (by decide +kernel : decode (mb_ 181) 25 = .ok (.getfield 7, 3)) tw_1126 (Or.inl rfl) rfl
theorem ok_X12_move_28 : ok_S 181 28 (sf_push (0, 9) 30) := ok_bipush (by decide +kernel : decode (mb_ 181) 28 = .ok (.bipush 9, 2)) ⟨by decide, by decide⟩ (by decide +kernel)
theorem ok_X12_move_30 : ok_S 181 30 (sf_push (0, 10) 32) := ok_bipush (by decide +kernel : decode (mb_ 181) 30 = .ok (.bipush 10, 2)) ⟨by decide, by decide⟩ (by decide +kernel)
theorem ok_X12_move_32 : ok_S 181 32 (sf_ld 0 1 33) := ok_iload_n (by decide +kernel : decode (mb_ 181) 32 = .ok (.iload_n 1, 1)) rfl
theorem ok_X12_move_33 : ok_S 181 33 (sf_i2 mx_mul 34) := ok_imul (by decide +kernel : decode (mb_ 181) 33 = .ok (.imul, 1))
theorem ok_X12_move_34 : ok_S 181 34 (sf_i2 mx_add 35) := ok_iadd (by decide +kernel : decode (mb_ 181) 34 = .ok (.iadd, 1))
theorem ok_X12_move_35 : ok_S 181 35 (sf_push (0, 1) 36) := ok_iconst (by decide +kernel : decode (mb_ 181) 35 = .ok (.iconst 1, 1)) ⟨by decide, by decide⟩
theorem ok_X12_move_36 : ok_S 181 36 (sf_i2 mx_add 37) := ok_iadd (by decide +kernel : decode (mb_ 181) 36 = .ok (.iadd, 1))
theorem ok_X12_move_37 : ok_S 181 37 (sf_ld 0 2 38) := ok_iload_n (by decide +kernel : decode (mb_ 181) 37 = .ok (.iload_n 2, 1)) rfl
theorem ok_X12_move_38 : ok_S 181 38 (sf_iast 39) := ok_iast (by decide +kernel : decode (mb_ 181) 38 = .ok (.iastore, 1))
theorem ok_X12_move_39 : ok_S 181 39 (sf_ld 0 3 40) := ok_iload_n (by decide +kernel : decode (mb_ 181) 39 = .ok (.iload_n 3, 1)) rfl
theorem ok_X12_move_40 : ok_S 181 40 (sf_ret 0) := ok_ret0 (by decide +kernel : decode (mb_ 181) 40 = .ok (.ireturn, 1)) rfl
theorem ok_X12_move (pc : Nat) : ok_S 181 pc (cd_X12_move pc) :=
  (ok_bf (ok_bf (ok_bf (ok_bf (ok_bf (ok_lf pc ok_X12_move_40) (ok_lf pc ok_X12_move_39)) (ok_bf (ok_lf pc ok_X12_move_38) (ok_lf pc ok_X12_move_37))) (ok_bf (ok_bf (ok_lf pc ok_X12_move_36) (ok_lf pc ok_X12_move_35)) (ok_lf pc ok_X12_move_34))) (ok_bf (ok_bf (ok_bf (ok_lf pc ok_X12_move_33) (ok_lf pc ok_X12_move_32)) (ok_bf (ok_lf pc ok_X12_move_30) (ok_lf pc ok_X12_move_28))) (ok_bf (ok_bf (ok_lf pc ok_X12_move_25) (ok_lf pc ok_X12_move_24)) (ok_lf pc ok_X12_move_23)))) (ok_bf (ok_bf (ok_bf (ok_bf (ok_lf pc ok_X12_move_20) (ok_lf pc ok_X12_move_19)) (ok_bf (ok_lf pc ok_X12_move_18) (ok_lf pc ok_X12_move_17))) (ok_bf (ok_bf (ok_lf pc ok_X12_move_16) (ok_lf pc ok_X12_move_15)) (ok_lf pc ok_X12_move_12))) (ok_bf (ok_bf (ok_bf (ok_lf pc ok_X12_move_9) (ok_lf pc ok_X12_move_8)) (ok_lf pc ok_X12_move_5)) (ok_bf (ok_bf (ok_lf pc ok_X12_move_2) (ok_lf pc ok_X12_move_1)) (ok_lf pc ok_X12_move_0)))))
theorem mo_X12_move (pc : Nat) : mo_S (cd_X12_move pc) :=
  (mo_bf (mo_bf (mo_bf (mo_bf (mo_bf (mo_bf mo_ret mo_no) (mo_bf mo_ld mo_no)) (mo_bf (mo_bf mo_iast mo_no) (mo_bf mo_ld mo_no))) (mo_bf (mo_bf (mo_bf mo_i2 mo_no) (mo_bf mo_push mo_no)) (mo_bf mo_i2 mo_no))) (mo_bf (mo_bf (mo_bf (mo_bf mo_i2 mo_no) (mo_bf mo_ld mo_no)) (mo_bf (mo_bf mo_push mo_no) (mo_bf mo_push mo_no))) (mo_bf (mo_bf (mo_bf mo_gr mo_no) (mo_bf mo_ld mo_no)) (mo_bf mo_st mo_no)))) (mo_bf (mo_bf (mo_bf (mo_bf (mo_bf mo_cv mo_no) (mo_bf mo_push mo_no)) (mo_bf (mo_bf mo_ld mo_no) (mo_bf mo_ld mo_no))) (mo_bf (mo_bf (mo_bf mo_ret mo_no) (mo_bf mo_push mo_no)) (mo_bf mo_if mo_no))) (mo_bf (mo_bf (mo_bf (mo_bf mo_cs mo_no) (mo_bf mo_ld mo_no)) (mo_bf mo_if mo_no)) (mo_bf (mo_bf (mo_bf mo_cv mo_no) (mo_bf mo_ld mo_no)) (mo_bf mo_ld mo_no)))))
theorem ok_X12_baseAt_0 : ok_S 182 0 (sf_ld 0 2 1) := ok_iload_n (by decide +kernel : decode (mb_ 182) 0 = .ok (.iload_n 2, 1)) rfl
theorem ok_X12_baseAt_1 : ok_S 182 1 (sf_ld 2 0 2) := ok_aload_n (by decide +kernel : decode (mb_ 182) 1 = .ok (.aload_n 0, 1)) rfl
theorem ok_X12_baseAt_2 : ok_S 182 2 (sf_ld 0 1 3) := ok_iload_n (by decide +kernel : decode (mb_ 182) 2 = .ok (.iload_n 1, 1)) rfl
theorem ok_X12_baseAt_3 : ok_S 182 3 (sf_push (0, 2) 4) := ok_iconst (by decide +kernel : decode (mb_ 182) 3 = .ok (.iconst 2, 1)) ⟨by decide, by decide⟩
theorem ok_X12_baseAt_4 : ok_S 182 4 (sf_cv 13 [2, 0, 0] 161 7) := ok_cv mt_161 cl_13 (by decide +kernel : decode (mb_ 182) 4 = .ok (.invokevirtual 162, 3)) tw_1285 tw_1287 ts_40 tw_7 rfl (by decide +kernel) (mh_ok rfl) (by decide) (by decide)
theorem ok_X12_baseAt_7 : ok_S 182 7 (sf_ic 2 14 10) := ok_ic2 (by decide +kernel : decode (mb_ 182) 7 = .ok (.if_icmp .lt 7, 3)) (by decide)
theorem ok_X12_baseAt_10 : ok_S 182 10 (sf_push (0, 1) 11) := ok_iconst (by decide +kernel : decode (mb_ 182) 10 = .ok (.iconst 1, 1)) ⟨by decide, by decide⟩
theorem ok_X12_baseAt_11 : ok_S 182 11 (sf_go 15) := ok_goto (by decide +kernel : decode (mb_ 182) 11 = .ok (.goto 4, 3)) (by decide)
theorem ok_X12_baseAt_14 : ok_S 182 14 (sf_push (0, 0) 15) := ok_iconst (by decide +kernel : decode (mb_ 182) 14 = .ok (.iconst 0, 1)) ⟨by decide, by decide⟩
theorem ok_X12_baseAt_15 : ok_S 182 15 (sf_st 0 4 17) := ok_istore (by decide +kernel : decode (mb_ 182) 15 = .ok (.istore 4, 2))
theorem ok_X12_baseAt_17 : ok_S 182 17 (sf_ld 2 0 18) := ok_aload_n (by decide +kernel : decode (mb_ 182) 17 = .ok (.aload_n 0, 1)) rfl
theorem ok_X12_baseAt_18 : ok_S 182 18 (sf_ld 0 1 19) := ok_iload_n (by decide +kernel : decode (mb_ 182) 18 = .ok (.iload_n 1, 1)) rfl
theorem ok_X12_baseAt_19 : ok_S 182 19 (sf_push (0, 0) 20) := ok_iconst (by decide +kernel : decode (mb_ 182) 19 = .ok (.iconst 0, 1)) ⟨by decide, by decide⟩
theorem ok_X12_baseAt_20 : ok_S 182 20 (sf_cv 13 [2, 0, 0] 161 23) := ok_cv mt_161 cl_13 (by decide +kernel : decode (mb_ 182) 20 = .ok (.invokevirtual 162, 3)) tw_1285 tw_1287 ts_40 tw_7 rfl (by decide +kernel) (mh_ok rfl) (by decide) (by decide)
theorem ok_X12_baseAt_23 : ok_S 182 23 (sf_push (0, 2) 24) := ok_iconst (by decide +kernel : decode (mb_ 182) 23 = .ok (.iconst 2, 1)) ⟨by decide, by decide⟩
theorem ok_X12_baseAt_24 : ok_S 182 24 (sf_ic 1 38 27) := ok_ic1 (by decide +kernel : decode (mb_ 182) 24 = .ok (.if_icmp .ne 14, 3)) (by decide)
theorem ok_X12_baseAt_27 : ok_S 182 27 (sf_ld 0 4 29) := ok_iload (by decide +kernel : decode (mb_ 182) 27 = .ok (.iload 4, 2))
theorem ok_X12_baseAt_29 : ok_S 182 29 (sf_if 0 38 32) := ok_if0 (by decide +kernel : decode (mb_ 182) 29 = .ok (.ifCond .eq 9, 3)) (by decide)
theorem ok_X12_baseAt_32 : ok_S 182 32 (sf_ld 0 3 33) := ok_iload_n (by decide +kernel : decode (mb_ 182) 32 = .ok (.iload_n 3, 1)) rfl
theorem ok_X12_baseAt_33 : ok_S 182 33 (sf_push (0, 1) 34) := ok_iconst (by decide +kernel : decode (mb_ 182) 33 = .ok (.iconst 1, 1)) ⟨by decide, by decide⟩
theorem ok_X12_baseAt_34 : ok_S 182 34 (sf_i2 mx_add 35) := ok_iadd (by decide +kernel : decode (mb_ 182) 34 = .ok (.iadd, 1))
theorem ok_X12_baseAt_35 : ok_S 182 35 (sf_go 60) := ok_goto (by decide +kernel : decode (mb_ 182) 35 = .ok (.goto 25, 3)) (by decide)
theorem ok_X12_baseAt_38 : ok_S 182 38 (sf_ld 2 0 39) := ok_aload_n (by decide +kernel : decode (mb_ 182) 38 = .ok (.aload_n 0, 1)) rfl
theorem ok_X12_baseAt_39 : ok_S 182 39 (sf_ld 0 1 40) := ok_iload_n (by decide +kernel : decode (mb_ 182) 39 = .ok (.iload_n 1, 1)) rfl
theorem ok_X12_baseAt_40 : ok_S 182 40 (sf_push (0, 0) 41) := ok_iconst (by decide +kernel : decode (mb_ 182) 40 = .ok (.iconst 0, 1)) ⟨by decide, by decide⟩
theorem ok_X12_baseAt_41 : ok_S 182 41 (sf_cv 13 [2, 0, 0] 161 44) := ok_cv mt_161 cl_13 (by decide +kernel : decode (mb_ 182) 41 = .ok (.invokevirtual 162, 3)) tw_1285 tw_1287 ts_40 tw_7 rfl (by decide +kernel) (mh_ok rfl) (by decide) (by decide)
theorem ok_X12_baseAt_44 : ok_S 182 44 (sf_push (0, 3) 45) := ok_iconst (by decide +kernel : decode (mb_ 182) 44 = .ok (.iconst 3, 1)) ⟨by decide, by decide⟩
theorem ok_X12_baseAt_45 : ok_S 182 45 (sf_ic 1 59 48) := ok_ic1 (by decide +kernel : decode (mb_ 182) 45 = .ok (.if_icmp .ne 14, 3)) (by decide)
theorem ok_X12_baseAt_48 : ok_S 182 48 (sf_ld 0 4 50) := ok_iload (by decide +kernel : decode (mb_ 182) 48 = .ok (.iload 4, 2))
theorem ok_X12_baseAt_50 : ok_S 182 50 (sf_if 0 59 53) := ok_if0 (by decide +kernel : decode (mb_ 182) 50 = .ok (.ifCond .eq 9, 3)) (by decide)
theorem ok_X12_baseAt_53 : ok_S 182 53 (sf_ld 0 3 54) := ok_iload_n (by decide +kernel : decode (mb_ 182) 53 = .ok (.iload_n 3, 1)) rfl
theorem ok_X12_baseAt_54 : ok_S 182 54 (sf_push (0, 1) 55) := ok_iconst (by decide +kernel : decode (mb_ 182) 54 = .ok (.iconst 1, 1)) ⟨by decide, by decide⟩
theorem ok_X12_baseAt_55 : ok_S 182 55 (sf_i2 mx_sub 56) := ok_isub (by decide +kernel : decode (mb_ 182) 55 = .ok (.isub, 1))
theorem ok_X12_baseAt_56 : ok_S 182 56 (sf_go 60) := ok_goto (by decide +kernel : decode (mb_ 182) 56 = .ok (.goto 4, 3)) (by decide)
theorem ok_X12_baseAt_59 : ok_S 182 59 (sf_ld 0 3 60) := ok_iload_n (by decide +kernel : decode (mb_ 182) 59 = .ok (.iload_n 3, 1)) rfl
theorem ok_X12_baseAt_60 : ok_S 182 60 (sf_ret 0) := ok_ret0 (by decide +kernel : decode (mb_ 182) 60 = .ok (.ireturn, 1)) rfl
theorem ok_X12_baseAt (pc : Nat) : ok_S 182 pc (cd_X12_baseAt pc) :=
  (ok_bf (ok_bf (ok_bf (ok_bf (ok_bf (ok_bf (ok_lf pc ok_X12_baseAt_60) (ok_lf pc ok_X12_baseAt_59)) (ok_lf pc ok_X12_baseAt_56)) (ok_bf (ok_lf pc ok_X12_baseAt_55) (ok_lf pc ok_X12_baseAt_54))) (ok_bf (ok_bf (ok_lf pc ok_X12_baseAt_53) (ok_lf pc ok_X12_baseAt_50)) (ok_bf (ok_lf pc ok_X12_baseAt_48) (ok_lf pc ok_X12_baseAt_45)))) (ok_bf (ok_bf (ok_bf (ok_bf (ok_lf pc ok_X12_baseAt_44) (ok_lf pc ok_X12_baseAt_41)) (ok_lf pc ok_X12_baseAt_40)) (ok_bf (ok_lf pc ok_X12_baseAt_39) (ok_lf pc ok_X12_baseAt_38))) (ok_bf (ok_bf (ok_lf pc ok_X12_baseAt_35) (ok_lf pc ok_X12_baseAt_34)) (ok_bf (ok_lf pc ok_X12_baseAt_33) (ok_lf pc ok_X12_baseAt_32))))) (ok_bf (ok_bf (ok_bf (ok_bf (ok_bf (ok_lf pc ok_X12_baseAt_29) (ok_lf pc ok_X12_baseAt_27)) (ok_lf pc ok_X12_baseAt_24)) (ok_bf (ok_lf pc ok_X12_baseAt_23) (ok_lf pc ok_X12_baseAt_20))) (ok_bf (ok_bf (ok_lf pc ok_X12_baseAt_19) (ok_lf pc ok_X12_baseAt_18)) (ok_bf (ok_lf pc ok_X12_baseAt_17) (ok_lf pc ok_X12_baseAt_15)))) (ok_bf (ok_bf (ok_bf (ok_bf (ok_lf pc ok_X12_baseAt_14) (ok_lf pc ok_X12_baseAt_11)) (ok_lf pc ok_X12_baseAt_10)) (ok_bf (ok_lf pc ok_X12_baseAt_7) (ok_lf pc ok_X12_baseAt_4))) (ok_bf (ok_bf (ok_lf pc ok_X12_baseAt_3) (ok_lf pc ok_X12_baseAt_2)) (ok_bf (ok_lf pc ok_X12_baseAt_1) (ok_lf pc ok_X12_baseAt_0))))))
theorem mo_X12_baseAt (pc : Nat) : mo_S (cd_X12_baseAt pc) :=
  (mo_bf (mo_bf (mo_bf (mo_bf (mo_bf (mo_bf (mo_bf mo_ret mo_no) (mo_bf mo_ld mo_no)) (mo_bf mo_go mo_no)) (mo_bf (mo_bf mo_i2 mo_no) (mo_bf mo_push mo_no))) (mo_bf (mo_bf (mo_bf mo_ld mo_no) (mo_bf mo_if mo_no)) (mo_bf (mo_bf mo_ld mo_no) (mo_bf mo_ic mo_no)))) (mo_bf (mo_bf (mo_bf (mo_bf (mo_bf mo_push mo_no) (mo_bf mo_cv mo_no)) (mo_bf mo_push mo_no)) (mo_bf (mo_bf mo_ld mo_no) (mo_bf mo_ld mo_no))) (mo_bf (mo_bf (mo_bf mo_go mo_no) (mo_bf mo_i2 mo_no)) (mo_bf (mo_bf mo_push mo_no) (mo_bf mo_ld mo_no))))) (mo_bf (mo_bf (mo_bf (mo_bf (mo_bf (mo_bf mo_if mo_no) (mo_bf mo_ld mo_no)) (mo_bf mo_ic mo_no)) (mo_bf (mo_bf mo_push mo_no) (mo_bf mo_cv mo_no))) (mo_bf (mo_bf (mo_bf mo_push mo_no) (mo_bf mo_ld mo_no)) (mo_bf (mo_bf mo_ld mo_no) (mo_bf mo_st mo_no)))) (mo_bf (mo_bf (mo_bf (mo_bf (mo_bf mo_push mo_no) (mo_bf mo_go mo_no)) (mo_bf mo_push mo_no)) (mo_bf (mo_bf mo_ic mo_no) (mo_bf mo_cv mo_no))) (mo_bf (mo_bf (mo_bf mo_push mo_no) (mo_bf mo_ld mo_no)) (mo_bf (mo_bf mo_ld mo_no) (mo_bf mo_ld mo_no))))))
theorem ok_X12_worthBy_0 : ok_S 183 0 (sf_ld 2 0 1) := ok_aload_n (by decide +kernel : decode (mb_ 183) 0 = .ok (.aload_n 0, 1)) rfl
theorem ok_X12_worthBy_1 : ok_S 183 1 (sf_ld 0 1 2) := ok_iload_n (by decide +kernel : decode (mb_ 183) 1 = .ok (.iload_n 1, 1)) rfl
theorem ok_X12_worthBy_2 : ok_S 183 2 (sf_push (0, 3) 3) := ok_iconst (by decide +kernel : decode (mb_ 183) 2 = .ok (.iconst 3, 1)) ⟨by decide, by decide⟩
theorem ok_X12_worthBy_3 : ok_S 183 3 (sf_cv 13 [2, 0, 0] 161 6) := ok_cv mt_161 cl_13 (by decide +kernel : decode (mb_ 183) 3 = .ok (.invokevirtual 162, 3)) tw_1285 tw_1287 ts_40 tw_7 rfl (by decide +kernel) (mh_ok rfl) (by decide) (by decide)
theorem ok_X12_worthBy_6 : ok_S 183 6 (sf_st 0 3 7) := ok_istore_n (by decide +kernel : decode (mb_ 183) 6 = .ok (.istore_n 3, 1)) rfl
theorem ok_X12_worthBy_7 : ok_S 183 7 (sf_ld 2 0 8) := ok_aload_n (by decide +kernel : decode (mb_ 183) 7 = .ok (.aload_n 0, 1)) rfl
theorem ok_X12_worthBy_8 : ok_S 183 8 (sf_ld 0 1 9) := ok_iload_n (by decide +kernel : decode (mb_ 183) 8 = .ok (.iload_n 1, 1)) rfl
theorem ok_X12_worthBy_9 : ok_S 183 9 (sf_push (0, 0) 10) := ok_iconst (by decide +kernel : decode (mb_ 183) 9 = .ok (.iconst 0, 1)) ⟨by decide, by decide⟩
theorem ok_X12_worthBy_10 : ok_S 183 10 (sf_cv 13 [2, 0, 0] 161 13) := ok_cv mt_161 cl_13 (by decide +kernel : decode (mb_ 183) 10 = .ok (.invokevirtual 162, 3)) tw_1285 tw_1287 ts_40 tw_7 rfl (by decide +kernel) (mh_ok rfl) (by decide) (by decide)
theorem ok_X12_worthBy_13 : ok_S 183 13 (sf_push (0, 1) 14) := ok_iconst (by decide +kernel : decode (mb_ 183) 13 = .ok (.iconst 1, 1)) ⟨by decide, by decide⟩
theorem ok_X12_worthBy_14 : ok_S 183 14 (sf_ic 0 27 17) := ok_ic0 (by decide +kernel : decode (mb_ 183) 14 = .ok (.if_icmp .eq 13, 3)) (by decide)
theorem ok_X12_worthBy_17 : ok_S 183 17 (sf_ld 2 0 18) := ok_aload_n (by decide +kernel : decode (mb_ 183) 17 = .ok (.aload_n 0, 1)) rfl
theorem ok_X12_worthBy_18 : ok_S 183 18 (sf_ld 0 1 19) := ok_iload_n (by decide +kernel : decode (mb_ 183) 18 = .ok (.iload_n 1, 1)) rfl
theorem ok_X12_worthBy_19 : ok_S 183 19 (sf_push (0, 0) 20) := ok_iconst (by decide +kernel : decode (mb_ 183) 19 = .ok (.iconst 0, 1)) ⟨by decide, by decide⟩
theorem ok_X12_worthBy_20 : ok_S 183 20 (sf_cv 13 [2, 0, 0] 161 23) := ok_cv mt_161 cl_13 (by decide +kernel : decode (mb_ 183) 20 = .ok (.invokevirtual 162, 3)) tw_1285 tw_1287 ts_40 tw_7 rfl (by decide +kernel) (mh_ok rfl) (by decide) (by decide)
theorem ok_X12_worthBy_23 : ok_S 183 23 (sf_push (0, 5) 24) := ok_iconst (by decide +kernel : decode (mb_ 183) 23 = .ok (.iconst 5, 1)) ⟨by decide, by decide⟩
theorem ok_X12_worthBy_24 : ok_S 183 24 (sf_ic 1 46 27) := ok_ic1 (by decide +kernel : decode (mb_ 183) 24 = .ok (.if_icmp .ne 22, 3)) (by decide)
theorem ok_X12_worthBy_27 : ok_S 183 27 (sf_ld 2 0 28) := ok_aload_n (by decide +kernel : decode (mb_ 183) 27 = .ok (.aload_n 0, 1)) rfl
theorem ok_X12_worthBy_28 : ok_S 183 28 (sf_ld 0 1 29) := ok_iload_n (by decide +kernel : decode (mb_ 183) 28 = .ok (.iload_n 1, 1)) rfl
theorem ok_X12_worthBy_29 : ok_S 183 29 (sf_push (0, 0) 30) := ok_iconst (by decide +kernel : decode (mb_ 183) 29 = .ok (.iconst 0, 1)) ⟨by decide, by decide⟩
theorem ok_X12_worthBy_30 : ok_S 183 30 (sf_cv 13 [2, 0, 0] 161 33) := ok_cv mt_161 cl_13 (by decide +kernel : decode (mb_ 183) 30 = .ok (.invokevirtual 162, 3)) tw_1285 tw_1287 ts_40 tw_7 rfl (by decide +kernel) (mh_ok rfl) (by decide) (by decide)
theorem ok_X12_worthBy_33 : ok_S 183 33 (sf_push (0, 5) 34) := ok_iconst (by decide +kernel : decode (mb_ 183) 33 = .ok (.iconst 5, 1)) ⟨by decide, by decide⟩
theorem ok_X12_worthBy_34 : ok_S 183 34 (sf_ic 1 43 37) := ok_ic1 (by decide +kernel : decode (mb_ 183) 34 = .ok (.if_icmp .ne 9, 3)) (by decide)
theorem ok_X12_worthBy_37 : ok_S 183 37 (sf_ld 0 3 38) := ok_iload_n (by decide +kernel : decode (mb_ 183) 37 = .ok (.iload_n 3, 1)) rfl
theorem ok_X12_worthBy_38 : ok_S 183 38 (sf_i1 mx_neg 39) := ok_ineg (by decide +kernel : decode (mb_ 183) 38 = .ok (.ineg, 1))
theorem ok_X12_worthBy_39 : ok_S 183 39 (sf_i2l 40) := ok_i2l (by decide +kernel : decode (mb_ 183) 39 = .ok (.i2l, 1))
theorem ok_X12_worthBy_40 : ok_S 183 40 (sf_go 45) := ok_goto (by decide +kernel : decode (mb_ 183) 40 = .ok (.goto 5, 3)) (by decide)
theorem ok_X12_worthBy_43 : ok_S 183 43 (sf_ld 0 3 44) := ok_iload_n (by decide +kernel : decode (mb_ 183) 43 = .ok (.iload_n 3, 1)) rfl
theorem ok_X12_worthBy_44 : ok_S 183 44 (sf_i2l 45) := ok_i2l (by decide +kernel : decode (mb_ 183) 44 = .ok (.i2l, 1))
theorem ok_X12_worthBy_45 : ok_S 183 45 (sf_ret 1) := ok_ret1 (by decide +kernel : decode (mb_ 183) 45 = .ok (.lreturn, 1)) rfl
theorem ok_X12_worthBy_46 : ok_S 183 46 (sf_push (1, 0) 47) := ok_lconst (by decide +kernel : decode (mb_ 183) 46 = .ok (.lconst 0, 1)) ⟨by decide, by decide⟩ rfl
theorem ok_X12_worthBy_47 : ok_S 183 47 (sf_st2 4 49) := ok_lstore (by decide +kernel : decode (mb_ 183) 47 = .ok (.lstore 4, 2))
theorem ok_X12_worthBy_49 : ok_S 183 49 (sf_push (0, 0) 50) := ok_iconst (by decide +kernel : decode (mb_ 183) 49 = .ok (.iconst 0, 1)) ⟨by decide, by decide⟩
theorem ok_X12_worthBy_50 : ok_S 183 50 (sf_st 0 6 52) := ok_istore (by decide +kernel : decode (mb_ 183) 50 = .ok (.istore 6, 2))
theorem ok_X12_worthBy_52 : ok_S 183 52 (sf_ld 0 6 54) := ok_iload (by decide +kernel : decode (mb_ 183) 52 = .ok (.iload 6, 2))
theorem ok_X12_worthBy_54 : ok_S 183 54 (sf_ld 0 3 55) := ok_iload_n (by decide +kernel : decode (mb_ 183) 54 = .ok (.iload_n 3, 1)) rfl
theorem ok_X12_worthBy_55 : ok_S 183 55 (sf_ic 3 112 58) := ok_ic3 (by decide +kernel : decode (mb_ 183) 55 = .ok (.if_icmp .ge 57, 3)) (by decide)
theorem ok_X12_worthBy_58 : ok_S 183 58 (sf_ld 2 0 59) := ok_aload_n (by decide +kernel : decode (mb_ 183) 58 = .ok (.aload_n 0, 1)) rfl
theorem ok_X12_worthBy_59 : ok_S 183 59 (sf_ld 0 1 60) := ok_iload_n (by decide +kernel : decode (mb_ 183) 59 = .ok (.iload_n 1, 1)) rfl
theorem ok_X12_worthBy_60 : ok_S 183 60 (sf_push (0, 0) 61) := ok_iconst (by decide +kernel : decode (mb_ 183) 60 = .ok (.iconst 0, 1)) ⟨by decide, by decide⟩
theorem ok_X12_worthBy_61 : ok_S 183 61 (sf_cv 13 [2, 0, 0] 161 64) := ok_cv mt_161 cl_13 (by decide +kernel : decode (mb_ 183) 61 = .ok (.invokevirtual 162, 3)) tw_1285 tw_1287 ts_40 tw_7 rfl (by decide +kernel) (mh_ok rfl) (by decide) (by decide)
theorem ok_X12_worthBy_64 : ok_S 183 64 (sf_push (0, 4) 65) := ok_iconst (by decide +kernel : decode (mb_ 183) 64 = .ok (.iconst 4, 1)) ⟨by decide, by decide⟩
theorem ok_X12_worthBy_65 : ok_S 183 65 (sf_ic 1 77 68) := ok_ic1 (by decide +kernel : decode (mb_ 183) 65 = .ok (.if_icmp .ne 12, 3)) (by decide)
theorem ok_X12_worthBy_68 : ok_S 183 68 (sf_ld 0 3 69) := ok_iload_n (by decide +kernel : decode (mb_ 183) 68 = .ok (.iload_n 3, 1)) rfl
theorem ok_X12_worthBy_69 : ok_S 183 69 (sf_push (0, 1) 70) := ok_iconst (by decide +kernel : decode (mb_ 183) 69 = .ok (.iconst 1, 1)) ⟨by decide, by decide⟩
theorem ok_X12_worthBy_70 : ok_S 183 70 (sf_i2 mx_sub 71) := ok_isub (by decide +kernel : decode (mb_ 183) 70 = .ok (.isub, 1))
theorem ok_X12_worthBy_71 : ok_S 183 71 (sf_ld 0 6 73) := ok_iload (by decide +kernel : decode (mb_ 183) 71 = .ok (.iload 6, 2))
theorem ok_X12_worthBy_73 : ok_S 183 73 (sf_i2 mx_sub 74) := ok_isub (by decide +kernel : decode (mb_ 183) 73 = .ok (.isub, 1))
theorem ok_X12_worthBy_74 : ok_S 183 74 (sf_go 79) := ok_goto (by decide +kernel : decode (mb_ 183) 74 = .ok (.goto 5, 3)) (by decide)
theorem ok_X12_worthBy_77 : ok_S 183 77 (sf_ld 0 6 79) := ok_iload (by decide +kernel : decode (mb_ 183) 77 = .ok (.iload 6, 2))
theorem ok_X12_worthBy_79 : ok_S 183 79 (sf_st 0 7 81) := ok_istore (by decide +kernel : decode (mb_ 183) 79 = .ok (.istore 7, 2))
theorem ok_X12_worthBy_81 : ok_S 183 81 (sf_ld 1 4 83) := ok_lload (by decide +kernel : decode (mb_ 183) 81 = .ok (.lload 4, 2))
theorem ok_X12_worthBy_83 : ok_S 183 83 (sf_ld 2 0 84) := ok_aload_n (by decide +kernel : decode (mb_ 183) 83 = .ok (.aload_n 0, 1)) rfl
theorem ok_X12_worthBy_84 : ok_S 183 84 (sf_ld 0 1 85) := ok_iload_n (by decide +kernel : decode (mb_ 183) 84 = .ok (.iload_n 1, 1)) rfl
theorem ok_X12_worthBy_85 : ok_S 183 85 (sf_ld 0 6 87) := ok_iload (by decide +kernel : decode (mb_ 183) 85 = .ok (.iload 6, 2))
theorem ok_X12_worthBy_87 : ok_S 183 87 (sf_ld 0 2 88) := ok_iload_n (by decide +kernel : decode (mb_ 183) 87 = .ok (.iload_n 2, 1)) rfl
theorem ok_X12_worthBy_88 : ok_S 183 88 (sf_cv 13 [2, 0, 0, 0] 182 91) := ok_cv mt_182 cl_13 (by decide +kernel : decode (mb_ 183) 88 = .ok (.invokevirtual 172, 3)) tw_1321 tw_1323 ts_44 tw_7 rfl (by decide +kernel) (mh_ok rfl) (by decide) (by decide)
theorem ok_X12_worthBy_91 : ok_S 183 91 (sf_i2l 92) := ok_i2l (by decide +kernel : decode (mb_ 183) 91 = .ok (.i2l, 1))
theorem ok_X12_worthBy_92 : ok_S 183 92 (sf_l2 ml_mul 93) := ok_lmul (by decide +kernel : decode (mb_ 183) 92 = .ok (.lmul, 1))
theorem ok_X12_worthBy_93 : ok_S 183 93 (sf_ld 2 0 94) := ok_aload_n (by decide +kernel : decode (mb_ 183) 93 = .ok (.aload_n 0, 1)) rfl
theorem ok_X12_worthBy_94 : ok_S 183 94 (sf_ld 0 1 95) := ok_iload_n (by decide +kernel : decode (mb_ 183) 94 = .ok (.iload_n 1, 1)) rfl
theorem ok_X12_worthBy_95 : ok_S 183 95 (sf_push (0, 4) 96) := ok_iconst (by decide +kernel : decode (mb_ 183) 95 = .ok (.iconst 4, 1)) ⟨by decide, by decide⟩
theorem ok_X12_worthBy_96 : ok_S 183 96 (sf_ld 0 7 98) := ok_iload (by decide +kernel : decode (mb_ 183) 96 = .ok (.iload 7, 2))
theorem ok_X12_worthBy_98 : ok_S 183 98 (sf_i2 mx_add 99) := ok_iadd (by decide +kernel : decode (mb_ 183) 98 = .ok (.iadd, 1))
theorem ok_X12_worthBy_99 : ok_S 183 99 (sf_cv 13 [2, 0, 0] 161 102) := ok_cv mt_161 cl_13 (by decide +kernel : decode (mb_ 183) 99 = .ok (.invokevirtual 162, 3)) tw_1285 tw_1287 ts_40 tw_7 rfl (by decide +kernel) (mh_ok rfl) (by decide) (by decide)
theorem ok_X12_worthBy_102 : ok_S 183 102 (sf_i2l 103) := ok_i2l (by decide +kernel : decode (mb_ 183) 102 = .ok (.i2l, 1))
theorem ok_X12_worthBy_103 : ok_S 183 103 (sf_l2 ml_add 104) := ok_ladd (by decide +kernel : decode (mb_ 183) 103 = .ok (.ladd, 1))
theorem ok_X12_worthBy_104 : ok_S 183 104 (sf_st2 4 106) := ok_lstore (by decide +kernel : decode (mb_ 183) 104 = .ok (.lstore 4, 2))
theorem ok_X12_worthBy_106 : ok_S 183 106 (sf_inc 6 1 109) := ok_iinc (by decide +kernel : decode (mb_ 183) 106 = .ok (.iinc 6 1, 3))
theorem ok_X12_worthBy_109 : ok_S 183 109 (sf_go 52) := ok_goto (by decide +kernel : decode (mb_ 183) 109 = .ok (.goto (-57), 3)) (by decide)
theorem ok_X12_worthBy_112 : ok_S 183 112 (sf_ld 1 4 114) := ok_lload (by decide +kernel : decode (mb_ 183) 112 = .ok (.lload 4, 2))
theorem ok_X12_worthBy_114 : ok_S 183 114 (sf_ret 1) := ok_ret1 (by decide +kernel : decode (mb_ 183) 114 = .ok (.lreturn, 1)) rfl
theorem ok_X12_worthBy (pc : Nat) : ok_S 183 pc (cd_X12_worthBy pc) :=
  (ok_bf (ok_bf (ok_bf (ok_bf (ok_bf (ok_bf (ok_bf (ok_lf pc ok_X12_worthBy_114) (ok_lf pc ok_X12_worthBy_112)) (ok_lf pc ok_X12_worthBy_109)) (ok_bf (ok_lf pc ok_X12_worthBy_106) (ok_lf pc ok_X12_worthBy_104))) (ok_bf (ok_bf (ok_lf pc ok_X12_worthBy_103) (ok_lf pc ok_X12_worthBy_102)) (ok_bf (ok_lf pc ok_X12_worthBy_99) (ok_lf pc ok_X12_worthBy_98)))) (ok_bf (ok_bf (ok_bf (ok_bf (ok_lf pc ok_X12_worthBy_96) (ok_lf pc ok_X12_worthBy_95)) (ok_lf pc ok_X12_worthBy_94)) (ok_bf (ok_lf pc ok_X12_worthBy_93) (ok_lf pc ok_X12_worthBy_92))) (ok_bf (ok_bf (ok_lf pc ok_X12_worthBy_91) (ok_lf pc ok_X12_worthBy_88)) (ok_bf (ok_lf pc ok_X12_worthBy_87) (ok_lf pc ok_X12_worthBy_85))))) (ok_bf (ok_bf (ok_bf (ok_bf (ok_bf (ok_lf pc ok_X12_worthBy_84) (ok_lf pc ok_X12_worthBy_83)) (ok_lf pc ok_X12_worthBy_81)) (ok_bf (ok_lf pc ok_X12_worthBy_79) (ok_lf pc ok_X12_worthBy_77))) (ok_bf (ok_bf (ok_lf pc ok_X12_worthBy_74) (ok_lf pc ok_X12_worthBy_73)) (ok_bf (ok_lf pc ok_X12_worthBy_71) (ok_lf pc ok_X12_worthBy_70)))) (ok_bf (ok_bf (ok_bf (ok_bf (ok_lf pc ok_X12_worthBy_69) (ok_lf pc ok_X12_worthBy_68)) (ok_lf pc ok_X12_worthBy_65)) (ok_bf (ok_lf pc ok_X12_worthBy_64) (ok_lf pc ok_X12_worthBy_61))) (ok_bf (ok_bf (ok_lf pc ok_X12_worthBy_60) (ok_lf pc ok_X12_worthBy_59)) (ok_bf (ok_lf pc ok_X12_worthBy_58) (ok_lf pc ok_X12_worthBy_55)))))) (ok_bf (ok_bf (ok_bf (ok_bf (ok_bf (ok_bf (ok_lf pc ok_X12_worthBy_54) (ok_lf pc ok_X12_worthBy_52)) (ok_lf pc ok_X12_worthBy_50)) (ok_bf (ok_lf pc ok_X12_worthBy_49) (ok_lf pc ok_X12_worthBy_47))) (ok_bf (ok_bf (ok_lf pc ok_X12_worthBy_46) (ok_lf pc ok_X12_worthBy_45)) (ok_bf (ok_lf pc ok_X12_worthBy_44) (ok_lf pc ok_X12_worthBy_43)))) (ok_bf (ok_bf (ok_bf (ok_bf (ok_lf pc ok_X12_worthBy_40) (ok_lf pc ok_X12_worthBy_39)) (ok_lf pc ok_X12_worthBy_38)) (ok_bf (ok_lf pc ok_X12_worthBy_37) (ok_lf pc ok_X12_worthBy_34))) (ok_bf (ok_bf (ok_lf pc ok_X12_worthBy_33) (ok_lf pc ok_X12_worthBy_30)) (ok_bf (ok_lf pc ok_X12_worthBy_29) (ok_lf pc ok_X12_worthBy_28))))) (ok_bf (ok_bf (ok_bf (ok_bf (ok_bf (ok_lf pc ok_X12_worthBy_27) (ok_lf pc ok_X12_worthBy_24)) (ok_lf pc ok_X12_worthBy_23)) (ok_bf (ok_lf pc ok_X12_worthBy_20) (ok_lf pc ok_X12_worthBy_19))) (ok_bf (ok_bf (ok_lf pc ok_X12_worthBy_18) (ok_lf pc ok_X12_worthBy_17)) (ok_bf (ok_lf pc ok_X12_worthBy_14) (ok_lf pc ok_X12_worthBy_13)))) (ok_bf (ok_bf (ok_bf (ok_bf (ok_lf pc ok_X12_worthBy_10) (ok_lf pc ok_X12_worthBy_9)) (ok_lf pc ok_X12_worthBy_8)) (ok_bf (ok_lf pc ok_X12_worthBy_7) (ok_lf pc ok_X12_worthBy_6))) (ok_bf (ok_bf (ok_lf pc ok_X12_worthBy_3) (ok_lf pc ok_X12_worthBy_2)) (ok_bf (ok_lf pc ok_X12_worthBy_1) (ok_lf pc ok_X12_worthBy_0)))))))
theorem mo_X12_worthBy (pc : Nat) : mo_S (cd_X12_worthBy pc) :=
  (mo_bf (mo_bf (mo_bf (mo_bf (mo_bf (mo_bf (mo_bf (mo_bf mo_ret mo_no) (mo_bf mo_ld mo_no)) (mo_bf mo_go mo_no)) (mo_bf (mo_bf mo_inc mo_no) (mo_bf mo_st2 mo_no))) (mo_bf (mo_bf (mo_bf mo_l2 mo_no) (mo_bf mo_i2l mo_no)) (mo_bf (mo_bf mo_cv mo_no) (mo_bf mo_i2 mo_no)))) (mo_bf (mo_bf (mo_bf (mo_bf (mo_bf mo_ld mo_no) (mo_bf mo_push mo_no)) (mo_bf mo_ld mo_no)) (mo_bf (mo_bf mo_ld mo_no) (mo_bf mo_l2 mo_no))) (mo_bf (mo_bf (mo_bf mo_i2l mo_no) (mo_bf mo_cv mo_no)) (mo_bf (mo_bf mo_ld mo_no) (mo_bf mo_ld mo_no))))) (mo_bf (mo_bf (mo_bf (mo_bf (mo_bf (mo_bf mo_ld mo_no) (mo_bf mo_ld mo_no)) (mo_bf mo_ld mo_no)) (mo_bf (mo_bf mo_st mo_no) (mo_bf mo_ld mo_no))) (mo_bf (mo_bf (mo_bf mo_go mo_no) (mo_bf mo_i2 mo_no)) (mo_bf (mo_bf mo_ld mo_no) (mo_bf mo_i2 mo_no)))) (mo_bf (mo_bf (mo_bf (mo_bf (mo_bf mo_push mo_no) (mo_bf mo_ld mo_no)) (mo_bf mo_ic mo_no)) (mo_bf (mo_bf mo_push mo_no) (mo_bf mo_cv mo_no))) (mo_bf (mo_bf (mo_bf mo_push mo_no) (mo_bf mo_ld mo_no)) (mo_bf (mo_bf mo_ld mo_no) (mo_bf mo_ic mo_no)))))) (mo_bf (mo_bf (mo_bf (mo_bf (mo_bf (mo_bf (mo_bf mo_ld mo_no) (mo_bf mo_ld mo_no)) (mo_bf mo_st mo_no)) (mo_bf (mo_bf mo_push mo_no) (mo_bf mo_st2 mo_no))) (mo_bf (mo_bf (mo_bf mo_push mo_no) (mo_bf mo_ret mo_no)) (mo_bf (mo_bf mo_i2l mo_no) (mo_bf mo_ld mo_no)))) (mo_bf (mo_bf (mo_bf (mo_bf (mo_bf mo_go mo_no) (mo_bf mo_i2l mo_no)) (mo_bf mo_i1 mo_no)) (mo_bf (mo_bf mo_ld mo_no) (mo_bf mo_ic mo_no))) (mo_bf (mo_bf (mo_bf mo_push mo_no) (mo_bf mo_cv mo_no)) (mo_bf (mo_bf mo_push mo_no) (mo_bf mo_ld mo_no))))) (mo_bf (mo_bf (mo_bf (mo_bf (mo_bf (mo_bf mo_ld mo_no) (mo_bf mo_ic mo_no)) (mo_bf mo_push mo_no)) (mo_bf (mo_bf mo_cv mo_no) (mo_bf mo_push mo_no))) (mo_bf (mo_bf (mo_bf mo_ld mo_no) (mo_bf mo_ld mo_no)) (mo_bf (mo_bf mo_ic mo_no) (mo_bf mo_push mo_no)))) (mo_bf (mo_bf (mo_bf (mo_bf (mo_bf mo_cv mo_no) (mo_bf mo_push mo_no)) (mo_bf mo_ld mo_no)) (mo_bf (mo_bf mo_ld mo_no) (mo_bf mo_st mo_no))) (mo_bf (mo_bf (mo_bf mo_cv mo_no) (mo_bf mo_push mo_no)) (mo_bf (mo_bf mo_ld mo_no) (mo_bf mo_ld mo_no)))))))
theorem ok_X12_canBe_0 : ok_S 184 0 (sf_ld 2 0 1) := ok_aload_n (by decide +kernel : decode (mb_ 184) 0 = .ok (.aload_n 0, 1)) rfl
theorem ok_X12_canBe_1 : ok_S 184 1 (sf_ld 0 1 2) := ok_iload_n (by decide +kernel : decode (mb_ 184) 1 = .ok (.iload_n 1, 1)) rfl
theorem ok_X12_canBe_2 : ok_S 184 2 (sf_push (0, 0) 3) := ok_iconst (by decide +kernel : decode (mb_ 184) 2 = .ok (.iconst 0, 1)) ⟨by decide, by decide⟩
theorem ok_X12_canBe_3 : ok_S 184 3 (sf_cv 13 [2, 0, 0] 161 6) := ok_cv mt_161 cl_13 (by decide +kernel : decode (mb_ 184) 3 = .ok (.invokevirtual 162, 3)) tw_1285 tw_1287 ts_40 tw_7 rfl (by decide +kernel) (mh_ok rfl) (by decide) (by decide)
theorem ok_X12_canBe_6 : ok_S 184 6 (sf_push (0, 1) 7) := ok_iconst (by decide +kernel : decode (mb_ 184) 6 = .ok (.iconst 1, 1)) ⟨by decide, by decide⟩
theorem ok_X12_canBe_7 : ok_S 184 7 (sf_ic 0 20 10) := ok_ic0 (by decide +kernel : decode (mb_ 184) 7 = .ok (.if_icmp .eq 13, 3)) (by decide)
theorem ok_X12_canBe_10 : ok_S 184 10 (sf_ld 2 0 11) := ok_aload_n (by decide +kernel : decode (mb_ 184) 10 = .ok (.aload_n 0, 1)) rfl
theorem ok_X12_canBe_11 : ok_S 184 11 (sf_ld 0 1 12) := ok_iload_n (by decide +kernel : decode (mb_ 184) 11 = .ok (.iload_n 1, 1)) rfl
theorem ok_X12_canBe_12 : ok_S 184 12 (sf_push (0, 0) 13) := ok_iconst (by decide +kernel : decode (mb_ 184) 12 = .ok (.iconst 0, 1)) ⟨by decide, by decide⟩
theorem ok_X12_canBe_13 : ok_S 184 13 (sf_cv 13 [2, 0, 0] 161 16) := ok_cv mt_161 cl_13 (by decide +kernel : decode (mb_ 184) 13 = .ok (.invokevirtual 162, 3)) tw_1285 tw_1287 ts_40 tw_7 rfl (by decide +kernel) (mh_ok rfl) (by decide) (by decide)
theorem ok_X12_canBe_16 : ok_S 184 16 (sf_push (0, 5) 17) := ok_iconst (by decide +kernel : decode (mb_ 184) 16 = .ok (.iconst 5, 1)) ⟨by decide, by decide⟩
theorem ok_X12_canBe_17 : ok_S 184 17 (sf_ic 1 24 20) := ok_ic1 (by decide +kernel : decode (mb_ 184) 17 = .ok (.if_icmp .ne 7, 3)) (by decide)
theorem ok_X12_canBe_20 : ok_S 184 20 (sf_push (0, 1) 21) := ok_iconst (by decide +kernel : decode (mb_ 184) 20 = .ok (.iconst 1, 1)) ⟨by decide, by decide⟩
theorem ok_X12_canBe_21 : ok_S 184 21 (sf_go 25) := ok_goto (by decide +kernel : decode (mb_ 184) 21 = .ok (.goto 4, 3)) (by decide)
theorem ok_X12_canBe_24 : ok_S 184 24 (sf_push (0, 0) 25) := ok_iconst (by decide +kernel : decode (mb_ 184) 24 = .ok (.iconst 0, 1)) ⟨by decide, by decide⟩
theorem ok_X12_canBe_25 : ok_S 184 25 (sf_st 0 3 26) := ok_istore_n (by decide +kernel : decode (mb_ 184) 25 = .ok (.istore_n 3, 1)) rfl
theorem ok_X12_canBe_26 : ok_S 184 26 (sf_push (0, 0) 27) := ok_iconst (by decide +kernel : decode (mb_ 184) 26 = .ok (.iconst 0, 1)) ⟨by decide, by decide⟩
theorem ok_X12_canBe_27 : ok_S 184 27 (sf_st 0 4 29) := ok_istore (by decide +kernel : decode (mb_ 184) 27 = .ok (.istore 4, 2))
theorem ok_X12_canBe_29 : ok_S 184 29 (sf_ld 0 4 31) := ok_iload (by decide +kernel : decode (mb_ 184) 29 = .ok (.iload 4, 2))
theorem ok_X12_canBe_31 : ok_S 184 31 (sf_ld 2 0 32) := ok_aload_n (by decide +kernel : decode (mb_ 184) 31 = .ok (.aload_n 0, 1)) rfl
theorem ok_X12_canBe_32 : ok_S 184 32 (sf_ld 0 1 33) := ok_iload_n (by decide +kernel : decode (mb_ 184) 32 = .ok (.iload_n 1, 1)) rfl
theorem ok_X12_canBe_33 : ok_S 184 33 (sf_push (0, 3) 34) := ok_iconst (by decide +kernel : decode (mb_ 184) 33 = .ok (.iconst 3, 1)) ⟨by decide, by decide⟩
theorem ok_X12_canBe_34 : ok_S 184 34 (sf_cv 13 [2, 0, 0] 161 37) := ok_cv mt_161 cl_13 (by decide +kernel : decode (mb_ 184) 34 = .ok (.invokevirtual 162, 3)) tw_1285 tw_1287 ts_40 tw_7 rfl (by decide +kernel) (mh_ok rfl) (by decide) (by decide)
theorem ok_X12_canBe_37 : ok_S 184 37 (sf_ic 3 85 40) := ok_ic3 (by decide +kernel : decode (mb_ 184) 37 = .ok (.if_icmp .ge 48, 3)) (by decide)
theorem ok_X12_canBe_40 : ok_S 184 40 (sf_ld 2 0 41) := ok_aload_n (by decide +kernel : decode (mb_ 184) 40 = .ok (.aload_n 0, 1)) rfl
theorem ok_X12_canBe_41 : ok_S 184 41 (sf_ld 0 1 42) := ok_iload_n (by decide +kernel : decode (mb_ 184) 41 = .ok (.iload_n 1, 1)) rfl
theorem ok_X12_canBe_42 : ok_S 184 42 (sf_push (0, 4) 43) := ok_iconst (by decide +kernel : decode (mb_ 184) 42 = .ok (.iconst 4, 1)) ⟨by decide, by decide⟩
theorem ok_X12_canBe_43 : ok_S 184 43 (sf_ld 0 4 45) := ok_iload (by decide +kernel : decode (mb_ 184) 43 = .ok (.iload 4, 2))
theorem ok_X12_canBe_45 : ok_S 184 45 (sf_i2 mx_add 46) := ok_iadd (by decide +kernel : decode (mb_ 184) 45 = .ok (.iadd, 1))
theorem ok_X12_canBe_46 : ok_S 184 46 (sf_cv 13 [2, 0, 0] 161 49) := ok_cv mt_161 cl_13 (by decide +kernel : decode (mb_ 184) 46 = .ok (.invokevirtual 162, 3)) tw_1285 tw_1287 ts_40 tw_7 rfl (by decide +kernel) (mh_ok rfl) (by decide) (by decide)
theorem ok_X12_canBe_49 : ok_S 184 49 (sf_st 0 5 51) := ok_istore (by decide +kernel : decode (mb_ 184) 49 = .ok (.istore 5, 2))
theorem ok_X12_canBe_51 : ok_S 184 51 (sf_ld 0 3 52) := ok_iload_n (by decide +kernel : decode (mb_ 184) 51 = .ok (.iload_n 3, 1)) rfl
theorem ok_X12_canBe_52 : ok_S 184 52 (sf_if 0 64 55) := ok_if0 (by decide +kernel : decode (mb_ 184) 52 = .ok (.ifCond .eq 12, 3)) (by decide)
theorem ok_X12_canBe_55 : ok_S 184 55 (sf_ld 0 5 57) := ok_iload (by decide +kernel : decode (mb_ 184) 55 = .ok (.iload 5, 2))
theorem ok_X12_canBe_57 : ok_S 184 57 (sf_push (0, 1) 58) := ok_iconst (by decide +kernel : decode (mb_ 184) 57 = .ok (.iconst 1, 1)) ⟨by decide, by decide⟩
theorem ok_X12_canBe_58 : ok_S 184 58 (sf_ic 0 79 61) := ok_ic0 (by decide +kernel : decode (mb_ 184) 58 = .ok (.if_icmp .eq 21, 3)) (by decide)
theorem ok_X12_canBe_61 : ok_S 184 61 (sf_go 77) := ok_goto (by decide +kernel : decode (mb_ 184) 61 = .ok (.goto 16, 3)) (by decide)
theorem ok_X12_canBe_64 : ok_S 184 64 (sf_ld 0 5 66) := ok_iload (by decide +kernel : decode (mb_ 184) 64 = .ok (.iload 5, 2))
theorem ok_X12_canBe_66 : ok_S 184 66 (sf_ld 2 0 67) := ok_aload_n (by decide +kernel : decode (mb_ 184) 66 = .ok (.aload_n 0, 1)) rfl
theorem ok_X12_canBe_67 : ok_S 184 67 (sf_ld 0 1 68) := ok_iload_n (by decide +kernel : decode (mb_ 184) 67 = .ok (.iload_n 1, 1)) rfl
theorem ok_X12_canBe_68 : ok_S 184 68 (sf_ld 0 4 70) := ok_iload (by decide +kernel : decode (mb_ 184) 68 = .ok (.iload 4, 2))
theorem ok_X12_canBe_70 : ok_S 184 70 (sf_ld 0 2 71) := ok_iload_n (by decide +kernel : decode (mb_ 184) 70 = .ok (.iload_n 2, 1)) rfl
theorem ok_X12_canBe_71 : ok_S 184 71 (sf_cv 13 [2, 0, 0, 0] 182 74) := ok_cv mt_182 cl_13 (by decide +kernel : decode (mb_ 184) 71 = .ok (.invokevirtual 172, 3)) tw_1321 tw_1323 ts_44 tw_7 rfl (by decide +kernel) (mh_ok rfl) (by decide) (by decide)
theorem ok_X12_canBe_74 : ok_S 184 74 (sf_ic 2 79 77) := ok_ic2 (by decide +kernel : decode (mb_ 184) 74 = .ok (.if_icmp .lt 5, 3)) (by decide)
theorem ok_X12_canBe_77 : ok_S 184 77 (sf_push (0, 0) 78) := ok_iconst (by decide +kernel : decode (mb_ 184) 77 = .ok (.iconst 0, 1)) ⟨by decide, by decide⟩
theorem ok_X12_canBe_78 : ok_S 184 78 (sf_rr 0 1) := ok_rr (by decide +kernel : decode (mb_ 184) 78 = .ok (.ireturn, 1)) rfl (so_nz .boolean rfl rfl)
theorem ok_X12_canBe_79 : ok_S 184 79 (sf_inc 4 1 82) := ok_iinc (by decide +kernel : decode (mb_ 184) 79 = .ok (.iinc 4 1, 3))
theorem ok_X12_canBe_82 : ok_S 184 82 (sf_go 29) := ok_goto (by decide +kernel : decode (mb_ 184) 82 = .ok (.goto (-53), 3)) (by decide)
theorem ok_X12_canBe_85 : ok_S 184 85 (sf_push (0, 1) 86) := ok_iconst (by decide +kernel : decode (mb_ 184) 85 = .ok (.iconst 1, 1)) ⟨by decide, by decide⟩
theorem ok_X12_canBe_86 : ok_S 184 86 (sf_rr 0 1) := ok_rr (by decide +kernel : decode (mb_ 184) 86 = .ok (.ireturn, 1)) rfl (so_nz .boolean rfl rfl)
theorem ok_X12_canBe (pc : Nat) : ok_S 184 pc (cd_X12_canBe pc) :=
  (ok_bf (ok_bf (ok_bf (ok_bf (ok_bf (ok_bf (ok_lf pc ok_X12_canBe_86) (ok_lf pc ok_X12_canBe_85)) (ok_bf (ok_lf pc ok_X12_canBe_82) (ok_lf pc ok_X12_canBe_79))) (ok_bf (ok_bf (ok_lf pc ok_X12_canBe_78) (ok_lf pc ok_X12_canBe_77)) (ok_lf pc ok_X12_canBe_74))) (ok_bf (ok_bf (ok_bf (ok_lf pc ok_X12_canBe_71) (ok_lf pc ok_X12_canBe_70)) (ok_lf pc ok_X12_canBe_68)) (ok_bf (ok_bf (ok_lf pc ok_X12_canBe_67) (ok_lf pc ok_X12_canBe_66)) (ok_lf pc ok_X12_canBe_64)))) (ok_bf (ok_bf (ok_bf (ok_bf (ok_lf pc ok_X12_canBe_61) (ok_lf pc ok_X12_canBe_58)) (ok_lf pc ok_X12_canBe_57)) (ok_bf (ok_bf (ok_lf pc ok_X12_canBe_55) (ok_lf pc ok_X12_canBe_52)) (ok_lf pc ok_X12_canBe_51))) (ok_bf (ok_bf (ok_bf (ok_lf pc ok_X12_canBe_49) (ok_lf pc ok_X12_canBe_46)) (ok_lf pc ok_X12_canBe_45)) (ok_bf (ok_bf (ok_lf pc ok_X12_canBe_43) (ok_lf pc ok_X12_canBe_42)) (ok_lf pc ok_X12_canBe_41))))) (ok_bf (ok_bf (ok_bf (ok_bf (ok_bf (ok_lf pc ok_X12_canBe_40) (ok_lf pc ok_X12_canBe_37)) (ok_bf (ok_lf pc ok_X12_canBe_34) (ok_lf pc ok_X12_canBe_33))) (ok_bf (ok_bf (ok_lf pc ok_X12_canBe_32) (ok_lf pc ok_X12_canBe_31)) (ok_lf pc ok_X12_canBe_29))) (ok_bf (ok_bf (ok_bf (ok_lf pc ok_X12_canBe_27) (ok_lf pc ok_X12_canBe_26)) (ok_lf pc ok_X12_canBe_25)) (ok_bf (ok_bf (ok_lf pc ok_X12_canBe_24) (ok_lf pc ok_X12_canBe_21)) (ok_lf pc ok_X12_canBe_20)))) (ok_bf (ok_bf (ok_bf (ok_bf (ok_lf pc ok_X12_canBe_17) (ok_lf pc ok_X12_canBe_16)) (ok_lf pc ok_X12_canBe_13)) (ok_bf (ok_bf (ok_lf pc ok_X12_canBe_12) (ok_lf pc ok_X12_canBe_11)) (ok_lf pc ok_X12_canBe_10))) (ok_bf (ok_bf (ok_bf (ok_lf pc ok_X12_canBe_7) (ok_lf pc ok_X12_canBe_6)) (ok_lf pc ok_X12_canBe_3)) (ok_bf (ok_bf (ok_lf pc ok_X12_canBe_2) (ok_lf pc ok_X12_canBe_1)) (ok_lf pc ok_X12_canBe_0))))))
theorem mo_X12_canBe (pc : Nat) : mo_S (cd_X12_canBe pc) :=
  (mo_bf (mo_bf (mo_bf (mo_bf (mo_bf (mo_bf (mo_bf mo_rr mo_no) (mo_bf mo_push mo_no)) (mo_bf (mo_bf mo_go mo_no) (mo_bf mo_inc mo_no))) (mo_bf (mo_bf (mo_bf mo_rr mo_no) (mo_bf mo_push mo_no)) (mo_bf mo_ic mo_no))) (mo_bf (mo_bf (mo_bf (mo_bf mo_cv mo_no) (mo_bf mo_ld mo_no)) (mo_bf mo_ld mo_no)) (mo_bf (mo_bf (mo_bf mo_ld mo_no) (mo_bf mo_ld mo_no)) (mo_bf mo_ld mo_no)))) (mo_bf (mo_bf (mo_bf (mo_bf (mo_bf mo_go mo_no) (mo_bf mo_ic mo_no)) (mo_bf mo_push mo_no)) (mo_bf (mo_bf (mo_bf mo_ld mo_no) (mo_bf mo_if mo_no)) (mo_bf mo_ld mo_no))) (mo_bf (mo_bf (mo_bf (mo_bf mo_st mo_no) (mo_bf mo_cv mo_no)) (mo_bf mo_i2 mo_no)) (mo_bf (mo_bf (mo_bf mo_ld mo_no) (mo_bf mo_push mo_no)) (mo_bf mo_ld mo_no))))) (mo_bf (mo_bf (mo_bf (mo_bf (mo_bf (mo_bf mo_ld mo_no) (mo_bf mo_ic mo_no)) (mo_bf (mo_bf mo_cv mo_no) (mo_bf mo_push mo_no))) (mo_bf (mo_bf (mo_bf mo_ld mo_no) (mo_bf mo_ld mo_no)) (mo_bf mo_ld mo_no))) (mo_bf (mo_bf (mo_bf (mo_bf mo_st mo_no) (mo_bf mo_push mo_no)) (mo_bf mo_st mo_no)) (mo_bf (mo_bf (mo_bf mo_push mo_no) (mo_bf mo_go mo_no)) (mo_bf mo_push mo_no)))) (mo_bf (mo_bf (mo_bf (mo_bf (mo_bf mo_ic mo_no) (mo_bf mo_push mo_no)) (mo_bf mo_cv mo_no)) (mo_bf (mo_bf (mo_bf mo_push mo_no) (mo_bf mo_ld mo_no)) (mo_bf mo_ld mo_no))) (mo_bf (mo_bf (mo_bf (mo_bf mo_ic mo_no) (mo_bf mo_push mo_no)) (mo_bf mo_cv mo_no)) (mo_bf (mo_bf (mo_bf mo_push mo_no) (mo_bf mo_ld mo_no)) (mo_bf mo_ld mo_no))))))
theorem ok_X12_worth_0 : ok_S 185 0 (sf_ld 2 0 1) := ok_aload_n (by decide +kernel : decode (mb_ 185) 0 = .ok (.aload_n 0, 1)) rfl
theorem ok_X12_worth_1 : ok_S 185 1 (sf_ld 0 1 2) := ok_iload_n (by decide +kernel : decode (mb_ 185) 1 = .ok (.iload_n 1, 1)) rfl
theorem ok_X12_worth_2 : ok_S 185 2 (sf_cv 13 [2, 0] 158 5) := ok_cv mt_158 cl_13 (by decide +kernel : decode (mb_ 185) 2 = .ok (.invokevirtual 166, 3)) tw_1297 tw_1299 ts_41 tw_7 rfl (by decide +kernel) (mh_ok rfl) (by decide) (by decide)
theorem ok_X12_worth_5 : ok_S 185 5 (sf_if 0 24 8) := ok_if0 (by decide +kernel : decode (mb_ 185) 5 = .ok (.ifCond .eq 19, 3)) (by decide)
theorem ok_X12_worth_8 : ok_S 185 8 (sf_ld 0 2 9) := ok_iload_n (by decide +kernel : decode (mb_ 185) 8 = .ok (.iload_n 2, 1)) rfl
theorem ok_X12_worth_9 : ok_S 185 9 (sf_cs [0] 160 12) := ok_cs mt_160 (by decide +kernel : decode (mb_ 185) 9 = .ok (.invokestatic 159, 3)) tw_1278 tw_1279 tw_7 (by decide +kernel) (mh_ok rfl) (by decide) (by decide)
theorem ok_X12_worth_12 : ok_S 185 12 (sf_if 0 24 15) := ok_if0 (by decide +kernel : decode (mb_ 185) 12 = .ok (.ifCond .eq 12, 3)) (by decide)
theorem ok_X12_worth_15 : ok_S 185 15 (sf_ld 2 0 16) := ok_aload_n (by decide +kernel : decode (mb_ 185) 15 = .ok (.aload_n 0, 1)) rfl
theorem ok_X12_worth_16 : ok_S 185 16 (sf_ld 0 1 17) := ok_iload_n (by decide +kernel : decode (mb_ 185) 16 = .ok (.iload_n 1, 1)) rfl
theorem ok_X12_worth_17 : ok_S 185 17 (sf_ld 0 2 18) := ok_iload_n (by decide +kernel : decode (mb_ 185) 17 = .ok (.iload_n 2, 1)) rfl
theorem ok_X12_worth_18 : ok_S 185 18 (sf_cv 13 [2, 0, 0] 183 21) := ok_cv mt_183 cl_13 (by decide +kernel : decode (mb_ 185) 18 = .ok (.invokevirtual 176, 3)) tw_1317 tw_1319 ts_43 tw_7 rfl (by decide +kernel) (mh_ok rfl) (by decide) (by decide)
theorem ok_X12_worth_21 : ok_S 185 21 (sf_go 27) := ok_goto (by decide +kernel : decode (mb_ 185) 21 = .ok (.goto 6, 3)) (by decide)
theorem ok_X12_worth_24 : ok_S 185 24 (sf_push (1, (-1000000000000)) 27) := ok_ldc2 (by decide +kernel : decode (mb_ 185) 24 = .ok (.ldc2_w 180, 3)) ⟨by decide, by decide⟩ tw_1325
theorem ok_X12_worth_27 : ok_S 185 27 (sf_ret 1) := ok_ret1 (by decide +kernel : decode (mb_ 185) 27 = .ok (.lreturn, 1)) rfl
theorem ok_X12_worth (pc : Nat) : ok_S 185 pc (cd_X12_worth pc) :=
  (ok_bf (ok_bf (ok_bf (ok_bf (ok_lf pc ok_X12_worth_27) (ok_lf pc ok_X12_worth_24)) (ok_bf (ok_lf pc ok_X12_worth_21) (ok_lf pc ok_X12_worth_18))) (ok_bf (ok_bf (ok_lf pc ok_X12_worth_17) (ok_lf pc ok_X12_worth_16)) (ok_lf pc ok_X12_worth_15))) (ok_bf (ok_bf (ok_bf (ok_lf pc ok_X12_worth_12) (ok_lf pc ok_X12_worth_9)) (ok_bf (ok_lf pc ok_X12_worth_8) (ok_lf pc ok_X12_worth_5))) (ok_bf (ok_bf (ok_lf pc ok_X12_worth_2) (ok_lf pc ok_X12_worth_1)) (ok_lf pc ok_X12_worth_0))))
theorem mo_X12_worth (pc : Nat) : mo_S (cd_X12_worth pc) :=
  (mo_bf (mo_bf (mo_bf (mo_bf (mo_bf mo_ret mo_no) (mo_bf mo_push mo_no)) (mo_bf (mo_bf mo_go mo_no) (mo_bf mo_cv mo_no))) (mo_bf (mo_bf (mo_bf mo_ld mo_no) (mo_bf mo_ld mo_no)) (mo_bf mo_ld mo_no))) (mo_bf (mo_bf (mo_bf (mo_bf mo_if mo_no) (mo_bf mo_cs mo_no)) (mo_bf (mo_bf mo_ld mo_no) (mo_bf mo_if mo_no))) (mo_bf (mo_bf (mo_bf mo_cv mo_no) (mo_bf mo_ld mo_no)) (mo_bf mo_ld mo_no))))
theorem ok_X12_can_0 : ok_S 186 0 (sf_ld 2 0 1) := ok_aload_n (by decide +kernel : decode (mb_ 186) 0 = .ok (.aload_n 0, 1)) rfl
theorem ok_X12_can_1 : ok_S 186 1 (sf_ld 0 1 2) := ok_iload_n (by decide +kernel : decode (mb_ 186) 1 = .ok (.iload_n 1, 1)) rfl
theorem ok_X12_can_2 : ok_S 186 2 (sf_cv 13 [2, 0] 158 5) := ok_cv mt_158 cl_13 (by decide +kernel : decode (mb_ 186) 2 = .ok (.invokevirtual 166, 3)) tw_1297 tw_1299 ts_41 tw_7 rfl (by decide +kernel) (mh_ok rfl) (by decide) (by decide)
theorem ok_X12_can_5 : ok_S 186 5 (sf_if 1 10 8) := ok_if1 (by decide +kernel : decode (mb_ 186) 5 = .ok (.ifCond .ne 5, 3)) (by decide)
theorem ok_X12_can_8 : ok_S 186 8 (sf_push (0, (-1)) 9) := ok_iconst (by decide +kernel : decode (mb_ 186) 8 = .ok (.iconst (-1), 1)) ⟨by decide, by decide⟩
theorem ok_X12_can_9 : ok_S 186 9 (sf_ret 0) := ok_ret0 (by decide +kernel : decode (mb_ 186) 9 = .ok (.ireturn, 1)) rfl
theorem ok_X12_can_10 : ok_S 186 10 (sf_push (0, 0) 11) := ok_iconst (by decide +kernel : decode (mb_ 186) 10 = .ok (.iconst 0, 1)) ⟨by decide, by decide⟩
theorem ok_X12_can_11 : ok_S 186 11 (sf_st 0 2 12) := ok_istore_n (by decide +kernel : decode (mb_ 186) 11 = .ok (.istore_n 2, 1)) rfl
theorem ok_X12_can_12 : ok_S 186 12 (sf_push (0, 2) 13) := ok_iconst (by decide +kernel : decode (mb_ 186) 12 = .ok (.iconst 2, 1)) ⟨by decide, by decide⟩
theorem ok_X12_can_13 : ok_S 186 13 (sf_st 0 3 14) := ok_istore_n (by decide +kernel : decode (mb_ 186) 13 = .ok (.istore_n 3, 1)) rfl
theorem ok_X12_can_14 : ok_S 186 14 (sf_ld 0 3 15) := ok_iload_n (by decide +kernel : decode (mb_ 186) 14 = .ok (.iload_n 3, 1)) rfl
theorem ok_X12_can_15 : ok_S 186 15 (sf_push (0, 16) 17) := ok_bipush (by decide +kernel : decode (mb_ 186) 15 = .ok (.bipush 16, 2)) ⟨by decide, by decide⟩ (by decide +kernel)
theorem ok_X12_can_17 : ok_S 186 17 (sf_ic 4 45 20) := ok_ic4 (by decide +kernel : decode (mb_ 186) 17 = .ok (.if_icmp .gt 28, 3)) (by decide)
theorem ok_X12_can_20 : ok_S 186 20 (sf_ld 0 2 21) := ok_iload_n (by decide +kernel : decode (mb_ 186) 20 = .ok (.iload_n 2, 1)) rfl
theorem ok_X12_can_21 : ok_S 186 21 (sf_ld 2 0 22) := ok_aload_n (by decide +kernel : decode (mb_ 186) 21 = .ok (.aload_n 0, 1)) rfl
theorem ok_X12_can_22 : ok_S 186 22 (sf_ld 0 1 23) := ok_iload_n (by decide +kernel : decode (mb_ 186) 22 = .ok (.iload_n 1, 1)) rfl
theorem ok_X12_can_23 : ok_S 186 23 (sf_ld 0 3 24) := ok_iload_n (by decide +kernel : decode (mb_ 186) 23 = .ok (.iload_n 3, 1)) rfl
theorem ok_X12_can_24 : ok_S 186 24 (sf_cv 13 [2, 0, 0] 184 27) := ok_cv mt_184 cl_13 (by decide +kernel : decode (mb_ 186) 24 = .ok (.invokevirtual 182, 3)) tw_1330 tw_1332 ts_45 tw_7 rfl (by decide +kernel) (mh_ok rfl) (by decide) (by decide)
theorem ok_X12_can_27 : ok_S 186 27 (sf_if 0 36 30) := ok_if0 (by decide +kernel : decode (mb_ 186) 27 = .ok (.ifCond .eq 9, 3)) (by decide)
theorem ok_X12_can_30 : ok_S 186 30 (sf_push (0, 1) 31) := ok_iconst (by decide +kernel : decode (mb_ 186) 30 = .ok (.iconst 1, 1)) ⟨by decide, by decide⟩
theorem ok_X12_can_31 : ok_S 186 31 (sf_ld 0 3 32) := ok_iload_n (by decide +kernel : decode (mb_ 186) 31 = .ok (.iload_n 3, 1)) rfl
theorem ok_X12_can_32 : ok_S 186 32 (sf_i2 mx_shl 33) := ok_ishl (by decide +kernel : decode (mb_ 186) 32 = .ok (.ishl, 1))
theorem ok_X12_can_33 : ok_S 186 33 (sf_go 37) := ok_goto (by decide +kernel : decode (mb_ 186) 33 = .ok (.goto 4, 3)) (by decide)
theorem ok_X12_can_36 : ok_S 186 36 (sf_push (0, 0) 37) := ok_iconst (by decide +kernel : decode (mb_ 186) 36 = .ok (.iconst 0, 1)) ⟨by decide, by decide⟩
theorem ok_X12_can_37 : ok_S 186 37 (sf_i2 mx_or 38) := ok_ior (by decide +kernel : decode (mb_ 186) 37 = .ok (.ior, 1))
theorem ok_X12_can_38 : ok_S 186 38 (sf_st 0 2 39) := ok_istore_n (by decide +kernel : decode (mb_ 186) 38 = .ok (.istore_n 2, 1)) rfl
theorem ok_X12_can_39 : ok_S 186 39 (sf_inc 3 1 42) := ok_iinc (by decide +kernel : decode (mb_ 186) 39 = .ok (.iinc 3 1, 3))
theorem ok_X12_can_42 : ok_S 186 42 (sf_go 14) := ok_goto (by decide +kernel : decode (mb_ 186) 42 = .ok (.goto (-28), 3)) (by decide)
theorem ok_X12_can_45 : ok_S 186 45 (sf_ld 0 2 46) := ok_iload_n (by decide +kernel : decode (mb_ 186) 45 = .ok (.iload_n 2, 1)) rfl
theorem ok_X12_can_46 : ok_S 186 46 (sf_ret 0) := ok_ret0 (by decide +kernel : decode (mb_ 186) 46 = .ok (.ireturn, 1)) rfl
theorem ok_X12_can (pc : Nat) : ok_S 186 pc (cd_X12_can pc) :=
  (ok_bf (ok_bf (ok_bf (ok_bf (ok_bf (ok_lf pc ok_X12_can_46) (ok_lf pc ok_X12_can_45)) (ok_bf (ok_lf pc ok_X12_can_42) (ok_lf pc ok_X12_can_39))) (ok_bf (ok_bf (ok_lf pc ok_X12_can_38) (ok_lf pc ok_X12_can_37)) (ok_bf (ok_lf pc ok_X12_can_36) (ok_lf pc ok_X12_can_33)))) (ok_bf (ok_bf (ok_bf (ok_lf pc ok_X12_can_32) (ok_lf pc ok_X12_can_31)) (ok_bf (ok_lf pc ok_X12_can_30) (ok_lf pc ok_X12_can_27))) (ok_bf (ok_bf (ok_lf pc ok_X12_can_24) (ok_lf pc ok_X12_can_23)) (ok_lf pc ok_X12_can_22)))) (ok_bf (ok_bf (ok_bf (ok_bf (ok_lf pc ok_X12_can_21) (ok_lf pc ok_X12_can_20)) (ok_bf (ok_lf pc ok_X12_can_17) (ok_lf pc ok_X12_can_15))) (ok_bf (ok_bf (ok_lf pc ok_X12_can_14) (ok_lf pc ok_X12_can_13)) (ok_bf (ok_lf pc ok_X12_can_12) (ok_lf pc ok_X12_can_11)))) (ok_bf (ok_bf (ok_bf (ok_lf pc ok_X12_can_10) (ok_lf pc ok_X12_can_9)) (ok_bf (ok_lf pc ok_X12_can_8) (ok_lf pc ok_X12_can_5))) (ok_bf (ok_bf (ok_lf pc ok_X12_can_2) (ok_lf pc ok_X12_can_1)) (ok_lf pc ok_X12_can_0)))))
theorem mo_X12_can (pc : Nat) : mo_S (cd_X12_can pc) :=
  (mo_bf (mo_bf (mo_bf (mo_bf (mo_bf (mo_bf mo_ret mo_no) (mo_bf mo_ld mo_no)) (mo_bf (mo_bf mo_go mo_no) (mo_bf mo_inc mo_no))) (mo_bf (mo_bf (mo_bf mo_st mo_no) (mo_bf mo_i2 mo_no)) (mo_bf (mo_bf mo_push mo_no) (mo_bf mo_go mo_no)))) (mo_bf (mo_bf (mo_bf (mo_bf mo_i2 mo_no) (mo_bf mo_ld mo_no)) (mo_bf (mo_bf mo_push mo_no) (mo_bf mo_if mo_no))) (mo_bf (mo_bf (mo_bf mo_cv mo_no) (mo_bf mo_ld mo_no)) (mo_bf mo_ld mo_no)))) (mo_bf (mo_bf (mo_bf (mo_bf (mo_bf mo_ld mo_no) (mo_bf mo_ld mo_no)) (mo_bf (mo_bf mo_ic mo_no) (mo_bf mo_push mo_no))) (mo_bf (mo_bf (mo_bf mo_ld mo_no) (mo_bf mo_st mo_no)) (mo_bf (mo_bf mo_push mo_no) (mo_bf mo_st mo_no)))) (mo_bf (mo_bf (mo_bf (mo_bf mo_push mo_no) (mo_bf mo_ret mo_no)) (mo_bf (mo_bf mo_push mo_no) (mo_bf mo_if mo_no))) (mo_bf (mo_bf (mo_bf mo_cv mo_no) (mo_bf mo_ld mo_no)) (mo_bf mo_ld mo_no)))))
theorem ok_X12_isLine_0 : ok_S 187 0 (sf_ld 0 1 1) := ok_iload_n (by decide +kernel : decode (mb_ 187) 0 = .ok (.iload_n 1, 1)) rfl
theorem ok_X12_isLine_1 : ok_S 187 1 (sf_push (0, 0) 2) := ok_iconst (by decide +kernel : decode (mb_ 187) 1 = .ok (.iconst 0, 1)) ⟨by decide, by decide⟩
theorem ok_X12_isLine_2 : ok_S 187 2 (sf_ld 2 0 3) := ok_aload_n (by decide +kernel : decode (mb_ 187) 2 = .ok (.aload_n 0, 1)) rfl
theorem ok_X12_isLine_3 : ok_S 187 3 (sf_gr 13 13 0 6) := ok_gr fd_13_0 (by decide +kernel : decode (mb_ 187) 3 = .ok (.getfield 7, 3)) tw_1126 (Or.inl rfl) rfl
theorem ok_X12_isLine_6 : ok_S 187 6 (sf_push (0, 1) 7) := ok_iconst (by decide +kernel : decode (mb_ 187) 6 = .ok (.iconst 1, 1)) ⟨by decide, by decide⟩
theorem ok_X12_isLine_7 : ok_S 187 7 (sf_iald 8) := ok_iald (by decide +kernel : decode (mb_ 187) 7 = .ok (.iaload, 1))
theorem ok_X12_isLine_8 : ok_S 187 8 (sf_push (0, 1) 9) := ok_iconst (by decide +kernel : decode (mb_ 187) 8 = .ok (.iconst 1, 1)) ⟨by decide, by decide⟩
theorem ok_X12_isLine_9 : ok_S 187 9 (sf_i2 mx_sub 10) := ok_isub (by decide +kernel : decode (mb_ 187) 9 = .ok (.isub, 1))
theorem ok_X12_isLine_10 : ok_S 187 10 (sf_cs [0, 0, 0] 157 13) := ok_cs mt_157 (by decide +kernel : decode (mb_ 187) 10 = .ok (.invokestatic 56, 3)) tw_1206 tw_1207 tw_7 (by decide +kernel) (mh_ok rfl) (by decide) (by decide)
theorem ok_X12_isLine_13 : ok_S 187 13 (sf_rr 0 1) := ok_rr (by decide +kernel : decode (mb_ 187) 13 = .ok (.ireturn, 1)) rfl (so_nz .boolean rfl rfl)
theorem ok_X12_isLine (pc : Nat) : ok_S 187 pc (cd_X12_isLine pc) :=
  (ok_bf (ok_bf (ok_bf (ok_bf (ok_lf pc ok_X12_isLine_13) (ok_lf pc ok_X12_isLine_10)) (ok_lf pc ok_X12_isLine_9)) (ok_bf (ok_lf pc ok_X12_isLine_8) (ok_lf pc ok_X12_isLine_7))) (ok_bf (ok_bf (ok_bf (ok_lf pc ok_X12_isLine_6) (ok_lf pc ok_X12_isLine_3)) (ok_lf pc ok_X12_isLine_2)) (ok_bf (ok_lf pc ok_X12_isLine_1) (ok_lf pc ok_X12_isLine_0))))
theorem mo_X12_isLine (pc : Nat) : mo_S (cd_X12_isLine pc) :=
  (mo_bf (mo_bf (mo_bf (mo_bf (mo_bf mo_rr mo_no) (mo_bf mo_cs mo_no)) (mo_bf mo_i2 mo_no)) (mo_bf (mo_bf mo_push mo_no) (mo_bf mo_iald mo_no))) (mo_bf (mo_bf (mo_bf (mo_bf mo_push mo_no) (mo_bf mo_gr mo_no)) (mo_bf mo_ld mo_no)) (mo_bf (mo_bf mo_push mo_no) (mo_bf mo_ld mo_no))))
theorem ok_X12_line_0 : ok_S 188 0 (sf_ld 0 1 1) := ok_iload_n (by decide +kernel : decode (mb_ 188) 0 = .ok (.iload_n 1, 1)) rfl
theorem ok_X12_line_1 : ok_S 188 1 (sf_push (0, 0) 2) := ok_iconst (by decide +kernel : decode (mb_ 188) 1 = .ok (.iconst 0, 1)) ⟨by decide, by decide⟩
theorem ok_X12_line_2 : ok_S 188 2 (sf_push (0, 3) 3) := ok_iconst (by decide +kernel : decode (mb_ 188) 2 = .ok (.iconst 3, 1)) ⟨by decide, by decide⟩
theorem ok_X12_line_3 : ok_S 188 3 (sf_cs [0, 0, 0] 157 6) := ok_cs mt_157 (by decide +kernel : decode (mb_ 188) 3 = .ok (.invokestatic 56, 3)) tw_1206 tw_1207 tw_7 (by decide +kernel) (mh_ok rfl) (by decide) (by decide)
theorem ok_X12_line_6 : ok_S 188 6 (sf_if 0 34 9) := ok_if0 (by decide +kernel : decode (mb_ 188) 6 = .ok (.ifCond .eq 28, 3)) (by decide)
theorem ok_X12_line_9 : ok_S 188 9 (sf_ld 2 0 10) := ok_aload_n (by decide +kernel : decode (mb_ 188) 9 = .ok (.aload_n 0, 1)) rfl
theorem ok_X12_line_10 : ok_S 188 10 (sf_ld 0 2 11) := ok_iload_n (by decide +kernel : decode (mb_ 188) 10 = .ok (.iload_n 2, 1)) rfl
theorem ok_X12_line_11 : ok_S 188 11 (sf_cv 13 [2, 0] 158 14) := ok_cv mt_158 cl_13 (by decide +kernel : decode (mb_ 188) 11 = .ok (.invokevirtual 166, 3)) tw_1297 tw_1299 ts_41 tw_7 rfl (by decide +kernel) (mh_ok rfl) (by decide) (by decide)
theorem ok_X12_line_14 : ok_S 188 14 (sf_if 0 34 17) := ok_if0 (by decide +kernel : decode (mb_ 188) 14 = .ok (.ifCond .eq 20, 3)) (by decide)
theorem ok_X12_line_17 : ok_S 188 17 (sf_ld 0 1 18) := ok_iload_n (by decide +kernel : decode (mb_ 188) 17 = .ok (.iload_n 1, 1)) rfl
theorem ok_X12_line_18 : ok_S 188 18 (sf_push (0, 3) 19) := ok_iconst (by decide +kernel : decode (mb_ 188) 18 = .ok (.iconst 3, 1)) ⟨by decide, by decide⟩
theorem ok_X12_line_19 : ok_S 188 19 (sf_ic 0 30 22) := ok_ic0 (by decide +kernel : decode (mb_ 188) 19 = .ok (.if_icmp .eq 11, 3)) (by decide)
theorem ok_X12_line_22 : ok_S 188 22 (sf_ld 2 0 23) := ok_aload_n (by decide +kernel : decode (mb_ 188) 22 = .ok (.aload_n 0, 1)) rfl
theorem ok_X12_line_23 : ok_S 188 23 (sf_ld 0 3 24) := ok_iload_n (by decide +kernel : decode (mb_ 188) 23 = .ok (.iload_n 3, 1)) rfl
theorem ok_X12_line_24 : ok_S 188 24 (sf_cv 13 [2, 0] 158 27) := ok_cv mt_158 cl_13 (by decide +kernel : decode (mb_ 188) 24 = .ok (.invokevirtual 166, 3)) tw_1297 tw_1299 ts_41 tw_7 rfl (by decide +kernel) (mh_ok rfl) (by decide) (by decide)
theorem ok_X12_line_27 : ok_S 188 27 (sf_if 0 34 30) := ok_if0 (by decide +kernel : decode (mb_ 188) 27 = .ok (.ifCond .eq 7, 3)) (by decide)
theorem ok_X12_line_30 : ok_S 188 30 (sf_push (0, 1) 31) := ok_iconst (by decide +kernel : decode (mb_ 188) 30 = .ok (.iconst 1, 1)) ⟨by decide, by decide⟩
theorem ok_X12_line_31 : ok_S 188 31 (sf_go 35) := ok_goto (by decide +kernel : decode (mb_ 188) 31 = .ok (.goto 4, 3)) (by decide)
theorem ok_X12_line_34 : ok_S 188 34 (sf_push (0, 0) 35) := ok_iconst (by decide +kernel : decode (mb_ 188) 34 = .ok (.iconst 0, 1)) ⟨by decide, by decide⟩
theorem ok_X12_line_35 : ok_S 188 35 (sf_st 0 5 37) := ok_istore (by decide +kernel : decode (mb_ 188) 35 = .ok (.istore 5, 2))
theorem ok_X12_line_37 : ok_S 188 37 (sf_ld 0 5 39) := ok_iload (by decide +kernel : decode (mb_ 188) 37 = .ok (.iload 5, 2))
theorem ok_X12_line_39 : ok_S 188 39 (sf_if 0 72 42) := ok_if0 (by decide +kernel : decode (mb_ 188) 39 = .ok (.ifCond .eq 33, 3)) (by decide)
theorem ok_X12_line_42 : ok_S 188 42 (sf_ld 0 1 43) := ok_iload_n (by decide +kernel : decode (mb_ 188) 42 = .ok (.iload_n 1, 1)) rfl
theorem ok_X12_line_43 : ok_S 188 43 (sf_push (0, 2) 44) := ok_iconst (by decide +kernel : decode (mb_ 188) 43 = .ok (.iconst 2, 1)) ⟨by decide, by decide⟩
theorem ok_X12_line_44 : ok_S 188 44 (sf_ic 1 56 47) := ok_ic1 (by decide +kernel : decode (mb_ 188) 44 = .ok (.if_icmp .ne 12, 3)) (by decide)
theorem ok_X12_line_47 : ok_S 188 47 (sf_ld 2 0 48) := ok_aload_n (by decide +kernel : decode (mb_ 188) 47 = .ok (.aload_n 0, 1)) rfl
theorem ok_X12_line_48 : ok_S 188 48 (sf_ld 0 4 50) := ok_iload (by decide +kernel : decode (mb_ 188) 48 = .ok (.iload 4, 2))
theorem ok_X12_line_50 : ok_S 188 50 (sf_cv 13 [2, 0] 158 53) := ok_cv mt_158 cl_13 (by decide +kernel : decode (mb_ 188) 50 = .ok (.invokevirtual 166, 3)) tw_1297 tw_1299 ts_41 tw_7 rfl (by decide +kernel) (mh_ok rfl) (by decide) (by decide)
theorem ok_X12_line_53 : ok_S 188 53 (sf_if 0 72 56) := ok_if0 (by decide +kernel : decode (mb_ 188) 53 = .ok (.ifCond .eq 19, 3)) (by decide)
theorem ok_X12_line_56 : ok_S 188 56 (sf_ld 0 1 57) := ok_iload_n (by decide +kernel : decode (mb_ 188) 56 = .ok (.iload_n 1, 1)) rfl
theorem ok_X12_line_57 : ok_S 188 57 (sf_push (0, 3) 58) := ok_iconst (by decide +kernel : decode (mb_ 188) 57 = .ok (.iconst 3, 1)) ⟨by decide, by decide⟩
theorem ok_X12_line_58 : ok_S 188 58 (sf_ic 1 74 61) := ok_ic1 (by decide +kernel : decode (mb_ 188) 58 = .ok (.if_icmp .ne 16, 3)) (by decide)
theorem ok_X12_line_61 : ok_S 188 61 (sf_ld 0 4 63) := ok_iload (by decide +kernel : decode (mb_ 188) 61 = .ok (.iload 4, 2))
theorem ok_X12_line_63 : ok_S 188 63 (sf_push (0, 1) 64) := ok_iconst (by decide +kernel : decode (mb_ 188) 63 = .ok (.iconst 1, 1)) ⟨by decide, by decide⟩
theorem ok_X12_line_64 : ok_S 188 64 (sf_push (0, 99) 66) := ok_bipush (by decide +kernel : decode (mb_ 188) 64 = .ok (.bipush 99, 2)) ⟨by decide, by decide⟩ (by decide +kernel)
theorem ok_X12_line_66 : ok_S 188 66 (sf_cs [0, 0, 0] 157 69) := ok_cs mt_157 (by decide +kernel : decode (mb_ 188) 66 = .ok (.invokestatic 56, 3)) tw_1206 tw_1207 tw_7 (by decide +kernel) (mh_ok rfl) (by decide) (by decide)
theorem ok_X12_line_69 : ok_S 188 69 (sf_if 1 74 72) := ok_if1 (by decide +kernel : decode (mb_ 188) 69 = .ok (.ifCond .ne 5, 3)) (by decide)
theorem ok_X12_line_72 : ok_S 188 72 (sf_push (0, (-1)) 73) := ok_iconst (by decide +kernel : decode (mb_ 188) 72 = .ok (.iconst (-1), 1)) ⟨by decide, by decide⟩
theorem ok_X12_line_73 : ok_S 188 73 (sf_ret 0) := ok_ret0 (by decide +kernel : decode (mb_ 188) 73 = .ok (.ireturn, 1)) rfl
theorem ok_X12_line_74 : ok_S 188 74 (sf_ld 2 0 75) := ok_aload_n (by decide +kernel : decode (mb_ 188) 74 = .ok (.aload_n 0, 1)) rfl
theorem ok_X12_line_75 : ok_S 188 75 (sf_gr 13 13 0 78) := ok_gr fd_13_0 (by decide +kernel : decode (mb_ 188) 75 = .ok (.getfield 7, 3)) tw_1126 (Or.inl rfl) rfl
theorem ok_X12_line_78 : ok_S 188 78 (sf_push (0, 1) 79) := ok_iconst (by decide +kernel : decode (mb_ 188) 78 = .ok (.iconst 1, 1)) ⟨by decide, by decide⟩
theorem ok_X12_line_79 : ok_S 188 79 (sf_iald 80) := ok_iald (by decide +kernel : decode (mb_ 188) 79 = .ok (.iaload, 1))
theorem ok_X12_line_80 : ok_S 188 80 (sf_push (0, 6) 82) := ok_bipush (by decide +kernel : decode (mb_ 188) 80 = .ok (.bipush 6, 2)) ⟨by decide, by decide⟩ (by decide +kernel)
theorem ok_X12_line_82 : ok_S 188 82 (sf_ic 1 88 85) := ok_ic1 (by decide +kernel : decode (mb_ 188) 82 = .ok (.if_icmp .ne 6, 3)) (by decide)
theorem ok_X12_line_85 : ok_S 188 85 (sf_push (0, (-2)) 87) := ok_bipush (by decide +kernel : decode (mb_ 188) 85 = .ok (.bipush (-2), 2)) ⟨by decide, by decide⟩ (by decide +kernel)
theorem ok_X12_line_87 : ok_S 188 87 (sf_ret 0) := ok_ret0 (by decide +kernel : decode (mb_ 188) 87 = .ok (.ireturn, 1)) rfl
theorem ok_X12_line_88 : ok_S 188 88 (sf_push (0, 69) 90) := ok_bipush (by decide +kernel : decode (mb_ 188) 88 = .ok (.bipush 69, 2)) ⟨by decide, by decide⟩ (by decide +kernel)
theorem ok_X12_line_90 : ok_S 188 90 (sf_push (0, 4) 91) := ok_iconst (by decide +kernel : decode (mb_ 188) 90 = .ok (.iconst 4, 1)) ⟨by decide, by decide⟩
theorem ok_X12_line_91 : ok_S 188 91 (sf_ld 2 0 92) := ok_aload_n (by decide +kernel : decode (mb_ 188) 91 = .ok (.aload_n 0, 1)) rfl
theorem ok_X12_line_92 : ok_S 188 92 (sf_gr 13 13 0 95) := ok_gr fd_13_0 (by decide +kernel : decode (mb_ 188) 92 = .ok (.getfield 7, 3)) tw_1126 (Or.inl rfl) rfl
theorem ok_X12_line_95 : ok_S 188 95 (sf_push (0, 1) 96) := ok_iconst (by decide +kernel : decode (mb_ 188) 95 = .ok (.iconst 1, 1)) ⟨by decide, by decide⟩
theorem ok_X12_line_96 : ok_S 188 96 (sf_iald 97) := ok_iald (by decide +kernel : decode (mb_ 188) 96 = .ok (.iaload, 1))
theorem ok_X12_line_97 : ok_S 188 97 (sf_i2 mx_mul 98) := ok_imul (by decide +kernel : decode (mb_ 188) 97 = .ok (.imul, 1))
theorem ok_X12_line_98 : ok_S 188 98 (sf_i2 mx_add 99) := ok_iadd (by decide +kernel : decode (mb_ 188) 98 = .ok (.iadd, 1))
theorem ok_X12_line_99 : ok_S 188 99 (sf_st 0 6 101) := ok_istore (by decide +kernel : decode (mb_ 188) 99 = .ok (.istore 6, 2))
theorem ok_X12_line_101 : ok_S 188 101 (sf_ld 2 0 102) := ok_aload_n (by decide +kernel : decode (mb_ 188) 101 = .ok (.aload_n 0, 1)) rfl
theorem ok_X12_line_102 : ok_S 188 102 (sf_gr 13 13 0 105) := ok_gr fd_13_0 (by decide +kernel : decode (mb_ 188) 102 = .ok (.getfield 7, 3)) tw_1126 (Or.inl rfl) rfl
theorem ok_X12_line_105 : ok_S 188 105 (sf_ld 0 6 107) := ok_iload (by decide +kernel : decode (mb_ 188) 105 = .ok (.iload 6, 2))
theorem ok_X12_line_107 : ok_S 188 107 (sf_ld 0 1 108) := ok_iload_n (by decide +kernel : decode (mb_ 188) 107 = .ok (.iload_n 1, 1)) rfl
theorem ok_X12_line_108 : ok_S 188 108 (sf_iast 109) := ok_iast (by decide +kernel : decode (mb_ 188) 108 = .ok (.iastore, 1))
theorem ok_X12_line_109 : ok_S 188 109 (sf_ld 2 0 110) := ok_aload_n (by decide +kernel : decode (mb_ 188) 109 = .ok (.aload_n 0, 1)) rfl
theorem ok_X12_line_110 : ok_S 188 110 (sf_gr 13 13 0 113) := ok_gr fd_13_0 (by decide +kernel : decode (mb_ 188) 110 = .ok (.getfield 7, 3)) tw_1126 (Or.inl rfl) rfl
theorem ok_X12_line_113 : ok_S 188 113 (sf_ld 0 6 115) := ok_iload (by decide +kernel : decode (mb_ 188) 113 = .ok (.iload 6, 2))
theorem ok_X12_line_115 : ok_S 188 115 (sf_push (0, 1) 116) := ok_iconst (by decide +kernel : decode (mb_ 188) 115 = .ok (.iconst 1, 1)) ⟨by decide, by decide⟩
theorem ok_X12_line_116 : ok_S 188 116 (sf_i2 mx_add 117) := ok_iadd (by decide +kernel : decode (mb_ 188) 116 = .ok (.iadd, 1))
theorem ok_X12_line_117 : ok_S 188 117 (sf_ld 0 2 118) := ok_iload_n (by decide +kernel : decode (mb_ 188) 117 = .ok (.iload_n 2, 1)) rfl
theorem ok_X12_line_118 : ok_S 188 118 (sf_iast 119) := ok_iast (by decide +kernel : decode (mb_ 188) 118 = .ok (.iastore, 1))
theorem ok_X12_line_119 : ok_S 188 119 (sf_ld 2 0 120) := ok_aload_n (by decide +kernel : decode (mb_ 188) 119 = .ok (.aload_n 0, 1)) rfl
theorem ok_X12_line_120 : ok_S 188 120 (sf_gr 13 13 0 123) := ok_gr fd_13_0 (by decide +kernel : decode (mb_ 188) 120 = .ok (.getfield 7, 3)) tw_1126 (Or.inl rfl) rfl
theorem ok_X12_line_123 : ok_S 188 123 (sf_ld 0 6 125) := ok_iload (by decide +kernel : decode (mb_ 188) 123 = .ok (.iload 6, 2))
theorem ok_X12_line_125 : ok_S 188 125 (sf_push (0, 2) 126) := ok_iconst (by decide +kernel : decode (mb_ 188) 125 = .ok (.iconst 2, 1)) ⟨by decide, by decide⟩
theorem ok_X12_line_126 : ok_S 188 126 (sf_i2 mx_add 127) := ok_iadd (by decide +kernel : decode (mb_ 188) 126 = .ok (.iadd, 1))
theorem ok_X12_line_127 : ok_S 188 127 (sf_ld 0 1 128) := ok_iload_n (by decide +kernel : decode (mb_ 188) 127 = .ok (.iload_n 1, 1)) rfl
theorem ok_X12_line_128 : ok_S 188 128 (sf_push (0, 3) 129) := ok_iconst (by decide +kernel : decode (mb_ 188) 128 = .ok (.iconst 3, 1)) ⟨by decide, by decide⟩
theorem ok_X12_line_129 : ok_S 188 129 (sf_ic 1 136 132) := ok_ic1 (by decide +kernel : decode (mb_ 188) 129 = .ok (.if_icmp .ne 7, 3)) (by decide)
theorem ok_X12_line_132 : ok_S 188 132 (sf_push (0, 0) 133) := ok_iconst (by decide +kernel : decode (mb_ 188) 132 = .ok (.iconst 0, 1)) ⟨by decide, by decide⟩
theorem ok_X12_line_133 : ok_S 188 133 (sf_go 137) := ok_goto (by decide +kernel : decode (mb_ 188) 133 = .ok (.goto 4, 3)) (by decide)
theorem ok_X12_line_136 : ok_S 188 136 (sf_ld 0 3 137) := ok_iload_n (by decide +kernel : decode (mb_ 188) 136 = .ok (.iload_n 3, 1)) rfl
theorem ok_X12_line_137 : ok_S 188 137 (sf_iast 138) := ok_iast (by decide +kernel : decode (mb_ 188) 137 = .ok (.iastore, 1))
theorem ok_X12_line_138 : ok_S 188 138 (sf_ld 2 0 139) := ok_aload_n (by decide +kernel : decode (mb_ 188) 138 = .ok (.aload_n 0, 1)) rfl
theorem ok_X12_line_139 : ok_S 188 139 (sf_gr 13 13 0 142) := ok_gr fd_13_0 (by decide +kernel : decode (mb_ 188) 139 = .ok (.getfield 7, 3)) tw_1126 (Or.inl rfl) rfl
theorem ok_X12_line_142 : ok_S 188 142 (sf_ld 0 6 144) := ok_iload (by decide +kernel : decode (mb_ 188) 142 = .ok (.iload 6, 2))
theorem ok_X12_line_144 : ok_S 188 144 (sf_push (0, 3) 145) := ok_iconst (by decide +kernel : decode (mb_ 188) 144 = .ok (.iconst 3, 1)) ⟨by decide, by decide⟩
theorem ok_X12_line_145 : ok_S 188 145 (sf_i2 mx_add 146) := ok_iadd (by decide +kernel : decode (mb_ 188) 145 = .ok (.iadd, 1))
theorem ok_X12_line_146 : ok_S 188 146 (sf_ld 0 1 147) := ok_iload_n (by decide +kernel : decode (mb_ 188) 146 = .ok (.iload_n 1, 1)) rfl
theorem ok_X12_line_147 : ok_S 188 147 (sf_push (0, 2) 148) := ok_iconst (by decide +kernel : decode (mb_ 188) 147 = .ok (.iconst 2, 1)) ⟨by decide, by decide⟩
theorem ok_X12_line_148 : ok_S 188 148 (sf_ic 0 156 151) := ok_ic0 (by decide +kernel : decode (mb_ 188) 148 = .ok (.if_icmp .eq 8, 3)) (by decide)
theorem ok_X12_line_151 : ok_S 188 151 (sf_ld 0 1 152) := ok_iload_n (by decide +kernel : decode (mb_ 188) 151 = .ok (.iload_n 1, 1)) rfl
theorem ok_X12_line_152 : ok_S 188 152 (sf_push (0, 3) 153) := ok_iconst (by decide +kernel : decode (mb_ 188) 152 = .ok (.iconst 3, 1)) ⟨by decide, by decide⟩
theorem ok_X12_line_153 : ok_S 188 153 (sf_ic 1 161 156) := ok_ic1 (by decide +kernel : decode (mb_ 188) 153 = .ok (.if_icmp .ne 8, 3)) (by decide)
theorem ok_X12_line_156 : ok_S 188 156 (sf_ld 0 4 158) := ok_iload (by decide +kernel : decode (mb_ 188) 156 = .ok (.iload 4, 2))
theorem ok_X12_line_158 : ok_S 188 158 (sf_go 162) := ok_goto (by decide +kernel : decode (mb_ 188) 158 = .ok (.goto 4, 3)) (by decide)
theorem ok_X12_line_161 : ok_S 188 161 (sf_push (0, 0) 162) := ok_iconst (by decide +kernel : decode (mb_ 188) 161 = .ok (.iconst 0, 1)) ⟨by decide, by decide⟩
theorem ok_X12_line_162 : ok_S 188 162 (sf_iast 163) := ok_iast (by decide +kernel : decode (mb_ 188) 162 = .ok (.iastore, 1))
theorem ok_X12_line_163 : ok_S 188 163 (sf_ld 2 0 164) := ok_aload_n (by decide +kernel : decode (mb_ 188) 163 = .ok (.aload_n 0, 1)) rfl
theorem ok_X12_line_164 : ok_S 188 164 (sf_gr 13 13 0 167) := ok_gr fd_13_0 (by decide +kernel : decode (mb_ 188) 164 = .ok (.getfield 7, 3)) tw_1126 (Or.inl rfl) rfl
theorem ok_X12_line_167 : ok_S 188 167 (sf_push (0, 1) 168) := ok_iconst (by decide +kernel : decode (mb_ 188) 167 = .ok (.iconst 1, 1)) ⟨by decide, by decide⟩
theorem ok_X12_line_168 : ok_S 188 168 (sf_dup2 169) := ok_dup2 (by decide +kernel : decode (mb_ 188) 168 = .ok (.dup2, 1))
theorem ok_X12_line_169 : ok_S 188 169 (sf_iald 170) := ok_iald (by decide +kernel : decode (mb_ 188) 169 = .ok (.iaload, 1))
theorem ok_X12_line_170 : ok_S 188 170 (sf_push (0, 1) 171) := ok_iconst (by decide +kernel : decode (mb_ 188) 170 = .ok (.iconst 1, 1)) ⟨by decide, by decide⟩
theorem ok_X12_line_171 : ok_S 188 171 (sf_i2 mx_add 172) := ok_iadd (by decide +kernel : decode (mb_ 188) 171 = .ok (.iadd, 1))
theorem ok_X12_line_172 : ok_S 188 172 (sf_iast 173) := ok_iast (by decide +kernel : decode (mb_ 188) 172 = .ok (.iastore, 1))
theorem ok_X12_line_173 : ok_S 188 173 (sf_ld 2 0 174) := ok_aload_n (by decide +kernel : decode (mb_ 188) 173 = .ok (.aload_n 0, 1)) rfl
theorem ok_X12_line_174 : ok_S 188 174 (sf_gr 13 13 0 177) := ok_gr fd_13_0 (by decide +kernel : decode (mb_ 188) 174 = .ok (.getfield 7, 3)) tw_1126 (Or.inl rfl) rfl
theorem ok_X12_line_177 : ok_S 188 177 (sf_push (0, 1) 178) := ok_iconst (by decide +kernel : decode (mb_ 188) 177 = .ok (.iconst 1, 1)) ⟨by decide, by decide⟩
theorem ok_X12_line_178 : ok_S 188 178 (sf_iald 179) := ok_iald (by decide +kernel : decode (mb_ 188) 178 = .ok (.iaload, 1))
theorem ok_X12_line_179 : ok_S 188 179 (sf_push (0, 1) 180) := ok_iconst (by decide +kernel : decode (mb_ 188) 179 = .ok (.iconst 1, 1)) ⟨by decide, by decide⟩
theorem ok_X12_line_180 : ok_S 188 180 (sf_i2 mx_sub 181) := ok_isub (by decide +kernel : decode (mb_ 188) 180 = .ok (.isub, 1))
theorem ok_X12_line_181 : ok_S 188 181 (sf_ret 0) := ok_ret0 (by decide +kernel : decode (mb_ 188) 181 = .ok (.ireturn, 1)) rfl
theorem ok_X12_line (pc : Nat) : ok_S 188 pc (cd_X12_line pc) :=
  (ok_bf (ok_bf (ok_bf (ok_bf (ok_bf (ok_bf (ok_bf (ok_lf pc ok_X12_line_181) (ok_lf pc ok_X12_line_180)) (ok_bf (ok_lf pc ok_X12_line_179) (ok_lf pc ok_X12_line_178))) (ok_bf (ok_bf (ok_lf pc ok_X12_line_177) (ok_lf pc ok_X12_line_174)) (ok_lf pc ok_X12_line_173))) (ok_bf (ok_bf (ok_bf (ok_lf pc ok_X12_line_172) (ok_lf pc ok_X12_line_171)) (ok_bf (ok_lf pc ok_X12_line_170) (ok_lf pc ok_X12_line_169))) (ok_bf (ok_bf (ok_lf pc ok_X12_line_168) (ok_lf pc ok_X12_line_167)) (ok_lf pc ok_X12_line_164)))) (ok_bf (ok_bf (ok_bf (ok_bf (ok_lf pc ok_X12_line_163) (ok_lf pc ok_X12_line_162)) (ok_bf (ok_lf pc ok_X12_line_161) (ok_lf pc ok_X12_line_158))) (ok_bf (ok_bf (ok_lf pc ok_X12_line_156) (ok_lf pc ok_X12_line_153)) (ok_lf pc ok_X12_line_152))) (ok_bf (ok_bf (ok_bf (ok_lf pc ok_X12_line_151) (ok_lf pc ok_X12_line_148)) (ok_bf (ok_lf pc ok_X12_line_147) (ok_lf pc ok_X12_line_146))) (ok_bf (ok_bf (ok_lf pc ok_X12_line_145) (ok_lf pc ok_X12_line_144)) (ok_lf pc ok_X12_line_142))))) (ok_bf (ok_bf (ok_bf (ok_bf (ok_bf (ok_lf pc ok_X12_line_139) (ok_lf pc ok_X12_line_138)) (ok_bf (ok_lf pc ok_X12_line_137) (ok_lf pc ok_X12_line_136))) (ok_bf (ok_bf (ok_lf pc ok_X12_line_133) (ok_lf pc ok_X12_line_132)) (ok_lf pc ok_X12_line_129))) (ok_bf (ok_bf (ok_bf (ok_lf pc ok_X12_line_128) (ok_lf pc ok_X12_line_127)) (ok_bf (ok_lf pc ok_X12_line_126) (ok_lf pc ok_X12_line_125))) (ok_bf (ok_bf (ok_lf pc ok_X12_line_123) (ok_lf pc ok_X12_line_120)) (ok_lf pc ok_X12_line_119)))) (ok_bf (ok_bf (ok_bf (ok_bf (ok_lf pc ok_X12_line_118) (ok_lf pc ok_X12_line_117)) (ok_bf (ok_lf pc ok_X12_line_116) (ok_lf pc ok_X12_line_115))) (ok_bf (ok_bf (ok_lf pc ok_X12_line_113) (ok_lf pc ok_X12_line_110)) (ok_lf pc ok_X12_line_109))) (ok_bf (ok_bf (ok_bf (ok_lf pc ok_X12_line_108) (ok_lf pc ok_X12_line_107)) (ok_lf pc ok_X12_line_105)) (ok_bf (ok_bf (ok_lf pc ok_X12_line_102) (ok_lf pc ok_X12_line_101)) (ok_lf pc ok_X12_line_99)))))) (ok_bf (ok_bf (ok_bf (ok_bf (ok_bf (ok_bf (ok_lf pc ok_X12_line_98) (ok_lf pc ok_X12_line_97)) (ok_bf (ok_lf pc ok_X12_line_96) (ok_lf pc ok_X12_line_95))) (ok_bf (ok_bf (ok_lf pc ok_X12_line_92) (ok_lf pc ok_X12_line_91)) (ok_lf pc ok_X12_line_90))) (ok_bf (ok_bf (ok_bf (ok_lf pc ok_X12_line_88) (ok_lf pc ok_X12_line_87)) (ok_bf (ok_lf pc ok_X12_line_85) (ok_lf pc ok_X12_line_82))) (ok_bf (ok_bf (ok_lf pc ok_X12_line_80) (ok_lf pc ok_X12_line_79)) (ok_lf pc ok_X12_line_78)))) (ok_bf (ok_bf (ok_bf (ok_bf (ok_lf pc ok_X12_line_75) (ok_lf pc ok_X12_line_74)) (ok_bf (ok_lf pc ok_X12_line_73) (ok_lf pc ok_X12_line_72))) (ok_bf (ok_bf (ok_lf pc ok_X12_line_69) (ok_lf pc ok_X12_line_66)) (ok_lf pc ok_X12_line_64))) (ok_bf (ok_bf (ok_bf (ok_lf pc ok_X12_line_63) (ok_lf pc ok_X12_line_61)) (ok_bf (ok_lf pc ok_X12_line_58) (ok_lf pc ok_X12_line_57))) (ok_bf (ok_bf (ok_lf pc ok_X12_line_56) (ok_lf pc ok_X12_line_53)) (ok_lf pc ok_X12_line_50))))) (ok_bf (ok_bf (ok_bf (ok_bf (ok_bf (ok_lf pc ok_X12_line_48) (ok_lf pc ok_X12_line_47)) (ok_bf (ok_lf pc ok_X12_line_44) (ok_lf pc ok_X12_line_43))) (ok_bf (ok_bf (ok_lf pc ok_X12_line_42) (ok_lf pc ok_X12_line_39)) (ok_lf pc ok_X12_line_37))) (ok_bf (ok_bf (ok_bf (ok_lf pc ok_X12_line_35) (ok_lf pc ok_X12_line_34)) (ok_bf (ok_lf pc ok_X12_line_31) (ok_lf pc ok_X12_line_30))) (ok_bf (ok_bf (ok_lf pc ok_X12_line_27) (ok_lf pc ok_X12_line_24)) (ok_lf pc ok_X12_line_23)))) (ok_bf (ok_bf (ok_bf (ok_bf (ok_lf pc ok_X12_line_22) (ok_lf pc ok_X12_line_19)) (ok_bf (ok_lf pc ok_X12_line_18) (ok_lf pc ok_X12_line_17))) (ok_bf (ok_bf (ok_lf pc ok_X12_line_14) (ok_lf pc ok_X12_line_11)) (ok_lf pc ok_X12_line_10))) (ok_bf (ok_bf (ok_bf (ok_lf pc ok_X12_line_9) (ok_lf pc ok_X12_line_6)) (ok_lf pc ok_X12_line_3)) (ok_bf (ok_bf (ok_lf pc ok_X12_line_2) (ok_lf pc ok_X12_line_1)) (ok_lf pc ok_X12_line_0)))))))
theorem mo_X12_line (pc : Nat) : mo_S (cd_X12_line pc) :=
  (mo_bf (mo_bf (mo_bf (mo_bf (mo_bf (mo_bf (mo_bf (mo_bf mo_ret mo_no) (mo_bf mo_i2 mo_no)) (mo_bf (mo_bf mo_push mo_no) (mo_bf mo_iald mo_no))) (mo_bf (mo_bf (mo_bf mo_push mo_no) (mo_bf mo_gr mo_no)) (mo_bf mo_ld mo_no))) (mo_bf (mo_bf (mo_bf (mo_bf mo_iast mo_no) (mo_bf mo_i2 mo_no)) (mo_bf (mo_bf mo_push mo_no) (mo_bf mo_iald mo_no))) (mo_bf (mo_bf (mo_bf mo_dup2 mo_no) (mo_bf mo_push mo_no)) (mo_bf mo_gr mo_no)))) (mo_bf (mo_bf (mo_bf (mo_bf (mo_bf mo_ld mo_no) (mo_bf mo_iast mo_no)) (mo_bf (mo_bf mo_push mo_no) (mo_bf mo_go mo_no))) (mo_bf (mo_bf (mo_bf mo_ld mo_no) (mo_bf mo_ic mo_no)) (mo_bf mo_push mo_no))) (mo_bf (mo_bf (mo_bf (mo_bf mo_ld mo_no) (mo_bf mo_ic mo_no)) (mo_bf (mo_bf mo_push mo_no) (mo_bf mo_ld mo_no))) (mo_bf (mo_bf (mo_bf mo_i2 mo_no) (mo_bf mo_push mo_no)) (mo_bf mo_ld mo_no))))) (mo_bf (mo_bf (mo_bf (mo_bf (mo_bf (mo_bf mo_gr mo_no) (mo_bf mo_ld mo_no)) (mo_bf (mo_bf mo_iast mo_no) (mo_bf mo_ld mo_no))) (mo_bf (mo_bf (mo_bf mo_go mo_no) (mo_bf mo_push mo_no)) (mo_bf mo_ic mo_no))) (mo_bf (mo_bf (mo_bf (mo_bf mo_push mo_no) (mo_bf mo_ld mo_no)) (mo_bf (mo_bf mo_i2 mo_no) (mo_bf mo_push mo_no))) (mo_bf (mo_bf (mo_bf mo_ld mo_no) (mo_bf mo_gr mo_no)) (mo_bf mo_ld mo_no)))) (mo_bf (mo_bf (mo_bf (mo_bf (mo_bf mo_iast mo_no) (mo_bf mo_ld mo_no)) (mo_bf (mo_bf mo_i2 mo_no) (mo_bf mo_push mo_no))) (mo_bf (mo_bf (mo_bf mo_ld mo_no) (mo_bf mo_gr mo_no)) (mo_bf mo_ld mo_no))) (mo_bf (mo_bf (mo_bf (mo_bf mo_iast mo_no) (mo_bf mo_ld mo_no)) (mo_bf mo_ld mo_no)) (mo_bf (mo_bf (mo_bf mo_gr mo_no) (mo_bf mo_ld mo_no)) (mo_bf mo_st mo_no)))))) (mo_bf (mo_bf (mo_bf (mo_bf (mo_bf (mo_bf (mo_bf mo_i2 mo_no) (mo_bf mo_i2 mo_no)) (mo_bf (mo_bf mo_iald mo_no) (mo_bf mo_push mo_no))) (mo_bf (mo_bf (mo_bf mo_gr mo_no) (mo_bf mo_ld mo_no)) (mo_bf mo_push mo_no))) (mo_bf (mo_bf (mo_bf (mo_bf mo_push mo_no) (mo_bf mo_ret mo_no)) (mo_bf (mo_bf mo_push mo_no) (mo_bf mo_ic mo_no))) (mo_bf (mo_bf (mo_bf mo_push mo_no) (mo_bf mo_iald mo_no)) (mo_bf mo_push mo_no)))) (mo_bf (mo_bf (mo_bf (mo_bf (mo_bf mo_gr mo_no) (mo_bf mo_ld mo_no)) (mo_bf (mo_bf mo_ret mo_no) (mo_bf mo_push mo_no))) (mo_bf (mo_bf (mo_bf mo_if mo_no) (mo_bf mo_cs mo_no)) (mo_bf mo_push mo_no))) (mo_bf (mo_bf (mo_bf (mo_bf mo_push mo_no) (mo_bf mo_ld mo_no)) (mo_bf (mo_bf mo_ic mo_no) (mo_bf mo_push mo_no))) (mo_bf (mo_bf (mo_bf mo_ld mo_no) (mo_bf mo_if mo_no)) (mo_bf mo_cv mo_no))))) (mo_bf (mo_bf (mo_bf (mo_bf (mo_bf (mo_bf mo_ld mo_no) (mo_bf mo_ld mo_no)) (mo_bf (mo_bf mo_ic mo_no) (mo_bf mo_push mo_no))) (mo_bf (mo_bf (mo_bf mo_ld mo_no) (mo_bf mo_if mo_no)) (mo_bf mo_ld mo_no))) (mo_bf (mo_bf (mo_bf (mo_bf mo_st mo_no) (mo_bf mo_push mo_no)) (mo_bf (mo_bf mo_go mo_no) (mo_bf mo_push mo_no))) (mo_bf (mo_bf (mo_bf mo_if mo_no) (mo_bf mo_cv mo_no)) (mo_bf mo_ld mo_no)))) (mo_bf (mo_bf (mo_bf (mo_bf (mo_bf mo_ld mo_no) (mo_bf mo_ic mo_no)) (mo_bf (mo_bf mo_push mo_no) (mo_bf mo_ld mo_no))) (mo_bf (mo_bf (mo_bf mo_if mo_no) (mo_bf mo_cv mo_no)) (mo_bf mo_ld mo_no))) (mo_bf (mo_bf (mo_bf (mo_bf mo_ld mo_no) (mo_bf mo_if mo_no)) (mo_bf mo_cs mo_no)) (mo_bf (mo_bf (mo_bf mo_push mo_no) (mo_bf mo_push mo_no)) (mo_bf mo_ld mo_no)))))))
theorem ok_X12_lineOf_0 : ok_S 189 0 (sf_ld 2 0 1) := ok_aload_n (by decide +kernel : decode (mb_ 189) 0 = .ok (.aload_n 0, 1)) rfl
theorem ok_X12_lineOf_1 : ok_S 189 1 (sf_ld 0 1 2) := ok_iload_n (by decide +kernel : decode (mb_ 189) 1 = .ok (.iload_n 1, 1)) rfl
theorem ok_X12_lineOf_2 : ok_S 189 2 (sf_cv 13 [2, 0] 187 5) := ok_cv mt_187 cl_13 (by decide +kernel : decode (mb_ 189) 2 = .ok (.invokevirtual 185, 3)) tw_1342 tw_1344 ts_46 tw_7 rfl (by decide +kernel) (mh_ok rfl) (by decide) (by decide)
theorem ok_X12_lineOf_5 : ok_S 189 5 (sf_if 0 26 8) := ok_if0 (by decide +kernel : decode (mb_ 189) 5 = .ok (.ifCond .eq 21, 3)) (by decide)
theorem ok_X12_lineOf_8 : ok_S 189 8 (sf_ld 0 2 9) := ok_iload_n (by decide +kernel : decode (mb_ 189) 8 = .ok (.iload_n 2, 1)) rfl
theorem ok_X12_lineOf_9 : ok_S 189 9 (sf_push (0, 0) 10) := ok_iconst (by decide +kernel : decode (mb_ 189) 9 = .ok (.iconst 0, 1)) ⟨by decide, by decide⟩
theorem ok_X12_lineOf_10 : ok_S 189 10 (sf_push (0, 3) 11) := ok_iconst (by decide +kernel : decode (mb_ 189) 10 = .ok (.iconst 3, 1)) ⟨by decide, by decide⟩
theorem ok_X12_lineOf_11 : ok_S 189 11 (sf_cs [0, 0, 0] 157 14) := ok_cs mt_157 (by decide +kernel : decode (mb_ 189) 11 = .ok (.invokestatic 56, 3)) tw_1206 tw_1207 tw_7 (by decide +kernel) (mh_ok rfl) (by decide) (by decide)
theorem ok_X12_lineOf_14 : ok_S 189 14 (sf_if 0 26 17) := ok_if0 (by decide +kernel : decode (mb_ 189) 14 = .ok (.ifCond .eq 12, 3)) (by decide)
theorem ok_X12_lineOf_17 : ok_S 189 17 (sf_ld 2 0 18) := ok_aload_n (by decide +kernel : decode (mb_ 189) 17 = .ok (.aload_n 0, 1)) rfl
theorem ok_X12_lineOf_18 : ok_S 189 18 (sf_ld 0 1 19) := ok_iload_n (by decide +kernel : decode (mb_ 189) 18 = .ok (.iload_n 1, 1)) rfl
theorem ok_X12_lineOf_19 : ok_S 189 19 (sf_ld 0 2 20) := ok_iload_n (by decide +kernel : decode (mb_ 189) 19 = .ok (.iload_n 2, 1)) rfl
theorem ok_X12_lineOf_20 : ok_S 189 20 (sf_cv 13 [2, 0, 0] 162 23) := ok_cv mt_162 cl_13 (by decide +kernel : decode (mb_ 189) 20 = .ok (.invokevirtual 188, 3)) tw_1346 tw_1348 ts_47 tw_7 rfl (by decide +kernel) (mh_ok rfl) (by decide) (by decide)
theorem ok_X12_lineOf_23 : ok_S 189 23 (sf_go 27) := ok_goto (by decide +kernel : decode (mb_ 189) 23 = .ok (.goto 4, 3)) (by decide)
theorem ok_X12_lineOf_26 : ok_S 189 26 (sf_push (0, (-1)) 27) := ok_iconst (by decide +kernel : decode (mb_ 189) 26 = .ok (.iconst (-1), 1)) ⟨by decide, by decide⟩
theorem ok_X12_lineOf_27 : ok_S 189 27 (sf_ret 0) := ok_ret0 (by decide +kernel : decode (mb_ 189) 27 = .ok (.ireturn, 1)) rfl
theorem ok_X12_lineOf (pc : Nat) : ok_S 189 pc (cd_X12_lineOf pc) :=
  (ok_bf (ok_bf (ok_bf (ok_bf (ok_lf pc ok_X12_lineOf_27) (ok_lf pc ok_X12_lineOf_26)) (ok_bf (ok_lf pc ok_X12_lineOf_23) (ok_lf pc ok_X12_lineOf_20))) (ok_bf (ok_bf (ok_lf pc ok_X12_lineOf_19) (ok_lf pc ok_X12_lineOf_18)) (ok_bf (ok_lf pc ok_X12_lineOf_17) (ok_lf pc ok_X12_lineOf_14)))) (ok_bf (ok_bf (ok_bf (ok_lf pc ok_X12_lineOf_11) (ok_lf pc ok_X12_lineOf_10)) (ok_bf (ok_lf pc ok_X12_lineOf_9) (ok_lf pc ok_X12_lineOf_8))) (ok_bf (ok_bf (ok_lf pc ok_X12_lineOf_5) (ok_lf pc ok_X12_lineOf_2)) (ok_bf (ok_lf pc ok_X12_lineOf_1) (ok_lf pc ok_X12_lineOf_0)))))
theorem mo_X12_lineOf (pc : Nat) : mo_S (cd_X12_lineOf pc) :=
  (mo_bf (mo_bf (mo_bf (mo_bf (mo_bf mo_ret mo_no) (mo_bf mo_push mo_no)) (mo_bf (mo_bf mo_go mo_no) (mo_bf mo_cv mo_no))) (mo_bf (mo_bf (mo_bf mo_ld mo_no) (mo_bf mo_ld mo_no)) (mo_bf (mo_bf mo_ld mo_no) (mo_bf mo_if mo_no)))) (mo_bf (mo_bf (mo_bf (mo_bf mo_cs mo_no) (mo_bf mo_push mo_no)) (mo_bf (mo_bf mo_push mo_no) (mo_bf mo_ld mo_no))) (mo_bf (mo_bf (mo_bf mo_if mo_no) (mo_bf mo_cv mo_no)) (mo_bf (mo_bf mo_ld mo_no) (mo_bf mo_ld mo_no)))))
theorem ok_X12_strike_0 : ok_S 190 0 (sf_ld 2 0 1) := ok_aload_n (by decide +kernel : decode (mb_ 190) 0 = .ok (.aload_n 0, 1)) rfl
theorem ok_X12_strike_1 : ok_S 190 1 (sf_ld 0 1 2) := ok_iload_n (by decide +kernel : decode (mb_ 190) 1 = .ok (.iload_n 1, 1)) rfl
theorem ok_X12_strike_2 : ok_S 190 2 (sf_cv 13 [2, 0] 187 5) := ok_cv mt_187 cl_13 (by decide +kernel : decode (mb_ 190) 2 = .ok (.invokevirtual 185, 3)) tw_1342 tw_1344 ts_46 tw_7 rfl (by decide +kernel) (mh_ok rfl) (by decide) (by decide)
theorem ok_X12_strike_5 : ok_S 190 5 (sf_if 1 10 8) := ok_if1 (by decide +kernel : decode (mb_ 190) 5 = .ok (.ifCond .ne 5, 3)) (by decide)
theorem ok_X12_strike_8 : ok_S 190 8 (sf_push (0, (-1)) 9) := ok_iconst (by decide +kernel : decode (mb_ 190) 8 = .ok (.iconst (-1), 1)) ⟨by decide, by decide⟩
theorem ok_X12_strike_9 : ok_S 190 9 (sf_ret 0) := ok_ret0 (by decide +kernel : decode (mb_ 190) 9 = .ok (.ireturn, 1)) rfl
theorem ok_X12_strike_10 : ok_S 190 10 (sf_ld 2 0 11) := ok_aload_n (by decide +kernel : decode (mb_ 190) 10 = .ok (.aload_n 0, 1)) rfl
theorem ok_X12_strike_11 : ok_S 190 11 (sf_gr 13 13 0 14) := ok_gr fd_13_0 (by decide +kernel : decode (mb_ 190) 11 = .ok (.getfield 7, 3)) tw_1126 (Or.inl rfl) rfl
theorem ok_X12_strike_14 : ok_S 190 14 (sf_push (0, 1) 15) := ok_iconst (by decide +kernel : decode (mb_ 190) 14 = .ok (.iconst 1, 1)) ⟨by decide, by decide⟩
theorem ok_X12_strike_15 : ok_S 190 15 (sf_dup2 16) := ok_dup2 (by decide +kernel : decode (mb_ 190) 15 = .ok (.dup2, 1))
theorem ok_X12_strike_16 : ok_S 190 16 (sf_iald 17) := ok_iald (by decide +kernel : decode (mb_ 190) 16 = .ok (.iaload, 1))
theorem ok_X12_strike_17 : ok_S 190 17 (sf_push (0, 1) 18) := ok_iconst (by decide +kernel : decode (mb_ 190) 17 = .ok (.iconst 1, 1)) ⟨by decide, by decide⟩
theorem ok_X12_strike_18 : ok_S 190 18 (sf_i2 mx_sub 19) := ok_isub (by decide +kernel : decode (mb_ 190) 18 = .ok (.isub, 1))
theorem ok_X12_strike_19 : ok_S 190 19 (sf_iast 20) := ok_iast (by decide +kernel : decode (mb_ 190) 19 = .ok (.iastore, 1))
theorem ok_X12_strike_20 : ok_S 190 20 (sf_push (0, 69) 22) := ok_bipush (by decide +kernel : decode (mb_ 190) 20 = .ok (.bipush 69, 2)) ⟨by decide, by decide⟩ (by decide +kernel)
theorem ok_X12_strike_22 : ok_S 190 22 (sf_push (0, 4) 23) := ok_iconst (by decide +kernel : decode (mb_ 190) 22 = .ok (.iconst 4, 1)) ⟨by decide, by decide⟩
theorem ok_X12_strike_23 : ok_S 190 23 (sf_ld 0 1 24) := ok_iload_n (by decide +kernel : decode (mb_ 190) 23 = .ok (.iload_n 1, 1)) rfl
theorem ok_X12_strike_24 : ok_S 190 24 (sf_i2 mx_mul 25) := ok_imul (by decide +kernel : decode (mb_ 190) 24 = .ok (.imul, 1))
theorem ok_X12_strike_25 : ok_S 190 25 (sf_i2 mx_add 26) := ok_iadd (by decide +kernel : decode (mb_ 190) 25 = .ok (.iadd, 1))
theorem ok_X12_strike_26 : ok_S 190 26 (sf_st 0 2 27) := ok_istore_n (by decide +kernel : decode (mb_ 190) 26 = .ok (.istore_n 2, 1)) rfl
theorem ok_X12_strike_27 : ok_S 190 27 (sf_ld 0 2 28) := ok_iload_n (by decide +kernel : decode (mb_ 190) 27 = .ok (.iload_n 2, 1)) rfl
theorem ok_X12_strike_28 : ok_S 190 28 (sf_push (0, 69) 30) := ok_bipush (by decide +kernel : decode (mb_ 190) 28 = .ok (.bipush 69, 2)) ⟨by decide, by decide⟩ (by decide +kernel)
theorem ok_X12_strike_30 : ok_S 190 30 (sf_push (0, 4) 31) := ok_iconst (by decide +kernel : decode (mb_ 190) 30 = .ok (.iconst 4, 1)) ⟨by decide, by decide⟩
theorem ok_X12_strike_31 : ok_S 190 31 (sf_ld 2 0 32) := ok_aload_n (by decide +kernel : decode (mb_ 190) 31 = .ok (.aload_n 0, 1)) rfl
theorem ok_X12_strike_32 : ok_S 190 32 (sf_gr 13 13 0 35) := ok_gr fd_13_0 (by decide +kernel : decode (mb_ 190) 32 = .ok (.getfield 7, 3)) tw_1126 (Or.inl rfl) rfl
theorem ok_X12_strike_35 : ok_S 190 35 (sf_push (0, 1) 36) := ok_iconst (by decide +kernel : decode (mb_ 190) 35 = .ok (.iconst 1, 1)) ⟨by decide, by decide⟩
theorem ok_X12_strike_36 : ok_S 190 36 (sf_iald 37) := ok_iald (by decide +kernel : decode (mb_ 190) 36 = .ok (.iaload, 1))
theorem ok_X12_strike_37 : ok_S 190 37 (sf_i2 mx_mul 38) := ok_imul (by decide +kernel : decode (mb_ 190) 37 = .ok (.imul, 1))
theorem ok_X12_strike_38 : ok_S 190 38 (sf_i2 mx_add 39) := ok_iadd (by decide +kernel : decode (mb_ 190) 38 = .ok (.iadd, 1))
theorem ok_X12_strike_39 : ok_S 190 39 (sf_ic 3 62 42) := ok_ic3 (by decide +kernel : decode (mb_ 190) 39 = .ok (.if_icmp .ge 23, 3)) (by decide)
theorem ok_X12_strike_42 : ok_S 190 42 (sf_ld 2 0 43) := ok_aload_n (by decide +kernel : decode (mb_ 190) 42 = .ok (.aload_n 0, 1)) rfl
theorem ok_X12_strike_43 : ok_S 190 43 (sf_gr 13 13 0 46) := ok_gr fd_13_0 (by decide +kernel : decode (mb_ 190) 43 = .ok (.getfield 7, 3)) tw_1126 (Or.inl rfl) rfl
theorem ok_X12_strike_46 : ok_S 190 46 (sf_ld 0 2 47) := ok_iload_n (by decide +kernel : decode (mb_ 190) 46 = .ok (.iload_n 2, 1)) rfl
theorem ok_X12_strike_47 : ok_S 190 47 (sf_ld 2 0 48) := ok_aload_n (by decide +kernel : decode (mb_ 190) 47 = .ok (.aload_n 0, 1)) rfl
theorem ok_X12_strike_48 : ok_S 190 48 (sf_gr 13 13 0 51) := ok_gr fd_13_0 (by decide +kernel : decode (mb_ 190) 48 = .ok (.getfield 7, 3)) tw_1126 (Or.inl rfl) rfl
theorem ok_X12_strike_51 : ok_S 190 51 (sf_ld 0 2 52) := ok_iload_n (by decide +kernel : decode (mb_ 190) 51 = .ok (.iload_n 2, 1)) rfl
theorem ok_X12_strike_52 : ok_S 190 52 (sf_push (0, 4) 53) := ok_iconst (by decide +kernel : decode (mb_ 190) 52 = .ok (.iconst 4, 1)) ⟨by decide, by decide⟩
theorem ok_X12_strike_53 : ok_S 190 53 (sf_i2 mx_add 54) := ok_iadd (by decide +kernel : decode (mb_ 190) 53 = .ok (.iadd, 1))
theorem ok_X12_strike_54 : ok_S 190 54 (sf_iald 55) := ok_iald (by decide +kernel : decode (mb_ 190) 54 = .ok (.iaload, 1))
theorem ok_X12_strike_55 : ok_S 190 55 (sf_iast 56) := ok_iast (by decide +kernel : decode (mb_ 190) 55 = .ok (.iastore, 1))
theorem ok_X12_strike_56 : ok_S 190 56 (sf_inc 2 1 59) := ok_iinc (by decide +kernel : decode (mb_ 190) 56 = .ok (.iinc 2 1, 3))
theorem ok_X12_strike_59 : ok_S 190 59 (sf_go 27) := ok_goto (by decide +kernel : decode (mb_ 190) 59 = .ok (.goto (-32), 3)) (by decide)
theorem ok_X12_strike_62 : ok_S 190 62 (sf_ld 2 0 63) := ok_aload_n (by decide +kernel : decode (mb_ 190) 62 = .ok (.aload_n 0, 1)) rfl
theorem ok_X12_strike_63 : ok_S 190 63 (sf_gr 13 13 0 66) := ok_gr fd_13_0 (by decide +kernel : decode (mb_ 190) 63 = .ok (.getfield 7, 3)) tw_1126 (Or.inl rfl) rfl
theorem ok_X12_strike_66 : ok_S 190 66 (sf_push (0, 1) 67) := ok_iconst (by decide +kernel : decode (mb_ 190) 66 = .ok (.iconst 1, 1)) ⟨by decide, by decide⟩
theorem ok_X12_strike_67 : ok_S 190 67 (sf_iald 68) := ok_iald (by decide +kernel : decode (mb_ 190) 67 = .ok (.iaload, 1))
theorem ok_X12_strike_68 : ok_S 190 68 (sf_ret 0) := ok_ret0 (by decide +kernel : decode (mb_ 190) 68 = .ok (.ireturn, 1)) rfl
theorem ok_X12_strike (pc : Nat) : ok_S 190 pc (cd_X12_strike pc) :=
  (ok_bf (ok_bf (ok_bf (ok_bf (ok_bf (ok_bf (ok_lf pc ok_X12_strike_68) (ok_lf pc ok_X12_strike_67)) (ok_lf pc ok_X12_strike_66)) (ok_bf (ok_bf (ok_lf pc ok_X12_strike_63) (ok_lf pc ok_X12_strike_62)) (ok_lf pc ok_X12_strike_59))) (ok_bf (ok_bf (ok_bf (ok_lf pc ok_X12_strike_56) (ok_lf pc ok_X12_strike_55)) (ok_lf pc ok_X12_strike_54)) (ok_bf (ok_bf (ok_lf pc ok_X12_strike_53) (ok_lf pc ok_X12_strike_52)) (ok_lf pc ok_X12_strike_51)))) (ok_bf (ok_bf (ok_bf (ok_bf (ok_lf pc ok_X12_strike_48) (ok_lf pc ok_X12_strike_47)) (ok_lf pc ok_X12_strike_46)) (ok_bf (ok_bf (ok_lf pc ok_X12_strike_43) (ok_lf pc ok_X12_strike_42)) (ok_lf pc ok_X12_strike_39))) (ok_bf (ok_bf (ok_bf (ok_lf pc ok_X12_strike_38) (ok_lf pc ok_X12_strike_37)) (ok_lf pc ok_X12_strike_36)) (ok_bf (ok_bf (ok_lf pc ok_X12_strike_35) (ok_lf pc ok_X12_strike_32)) (ok_lf pc ok_X12_strike_31))))) (ok_bf (ok_bf (ok_bf (ok_bf (ok_bf (ok_lf pc ok_X12_strike_30) (ok_lf pc ok_X12_strike_28)) (ok_lf pc ok_X12_strike_27)) (ok_bf (ok_bf (ok_lf pc ok_X12_strike_26) (ok_lf pc ok_X12_strike_25)) (ok_lf pc ok_X12_strike_24))) (ok_bf (ok_bf (ok_bf (ok_lf pc ok_X12_strike_23) (ok_lf pc ok_X12_strike_22)) (ok_lf pc ok_X12_strike_20)) (ok_bf (ok_bf (ok_lf pc ok_X12_strike_19) (ok_lf pc ok_X12_strike_18)) (ok_lf pc ok_X12_strike_17)))) (ok_bf (ok_bf (ok_bf (ok_bf (ok_lf pc ok_X12_strike_16) (ok_lf pc ok_X12_strike_15)) (ok_lf pc ok_X12_strike_14)) (ok_bf (ok_bf (ok_lf pc ok_X12_strike_11) (ok_lf pc ok_X12_strike_10)) (ok_lf pc ok_X12_strike_9))) (ok_bf (ok_bf (ok_bf (ok_lf pc ok_X12_strike_8) (ok_lf pc ok_X12_strike_5)) (ok_lf pc ok_X12_strike_2)) (ok_bf (ok_lf pc ok_X12_strike_1) (ok_lf pc ok_X12_strike_0))))))
theorem mo_X12_strike (pc : Nat) : mo_S (cd_X12_strike pc) :=
  (mo_bf (mo_bf (mo_bf (mo_bf (mo_bf (mo_bf (mo_bf mo_ret mo_no) (mo_bf mo_iald mo_no)) (mo_bf mo_push mo_no)) (mo_bf (mo_bf (mo_bf mo_gr mo_no) (mo_bf mo_ld mo_no)) (mo_bf mo_go mo_no))) (mo_bf (mo_bf (mo_bf (mo_bf mo_inc mo_no) (mo_bf mo_iast mo_no)) (mo_bf mo_iald mo_no)) (mo_bf (mo_bf (mo_bf mo_i2 mo_no) (mo_bf mo_push mo_no)) (mo_bf mo_ld mo_no)))) (mo_bf (mo_bf (mo_bf (mo_bf (mo_bf mo_gr mo_no) (mo_bf mo_ld mo_no)) (mo_bf mo_ld mo_no)) (mo_bf (mo_bf (mo_bf mo_gr mo_no) (mo_bf mo_ld mo_no)) (mo_bf mo_ic mo_no))) (mo_bf (mo_bf (mo_bf (mo_bf mo_i2 mo_no) (mo_bf mo_i2 mo_no)) (mo_bf mo_iald mo_no)) (mo_bf (mo_bf (mo_bf mo_push mo_no) (mo_bf mo_gr mo_no)) (mo_bf mo_ld mo_no))))) (mo_bf (mo_bf (mo_bf (mo_bf (mo_bf (mo_bf mo_push mo_no) (mo_bf mo_push mo_no)) (mo_bf mo_ld mo_no)) (mo_bf (mo_bf (mo_bf mo_st mo_no) (mo_bf mo_i2 mo_no)) (mo_bf mo_i2 mo_no))) (mo_bf (mo_bf (mo_bf (mo_bf mo_ld mo_no) (mo_bf mo_push mo_no)) (mo_bf mo_push mo_no)) (mo_bf (mo_bf (mo_bf mo_iast mo_no) (mo_bf mo_i2 mo_no)) (mo_bf mo_push mo_no)))) (mo_bf (mo_bf (mo_bf (mo_bf (mo_bf mo_iald mo_no) (mo_bf mo_dup2 mo_no)) (mo_bf mo_push mo_no)) (mo_bf (mo_bf (mo_bf mo_gr mo_no) (mo_bf mo_ld mo_no)) (mo_bf mo_ret mo_no))) (mo_bf (mo_bf (mo_bf (mo_bf mo_push mo_no) (mo_bf mo_if mo_no)) (mo_bf mo_cv mo_no)) (mo_bf (mo_bf mo_ld mo_no) (mo_bf mo_ld mo_no))))))
theorem ok_X12_worthNow_0 : ok_S 191 0 (sf_ld 2 0 1) := ok_aload_n (by decide +kernel : decode (mb_ 191) 0 = .ok (.aload_n 0, 1)) rfl
theorem ok_X12_worthNow_1 : ok_S 191 1 (sf_ld 0 1 2) := ok_iload_n (by decide +kernel : decode (mb_ 191) 1 = .ok (.iload_n 1, 1)) rfl
theorem ok_X12_worthNow_2 : ok_S 191 2 (sf_ld 2 0 3) := ok_aload_n (by decide +kernel : decode (mb_ 191) 2 = .ok (.aload_n 0, 1)) rfl
theorem ok_X12_worthNow_3 : ok_S 191 3 (sf_gr 13 13 11 6) := ok_gr fd_13_11 (by decide +kernel : decode (mb_ 191) 3 = .ok (.getfield 22, 3)) tw_1137 (Or.inl rfl) rfl
theorem ok_X12_worthNow_6 : ok_S 191 6 (sf_ld 2 0 7) := ok_aload_n (by decide +kernel : decode (mb_ 191) 6 = .ok (.aload_n 0, 1)) rfl
theorem ok_X12_worthNow_7 : ok_S 191 7 (sf_ld 0 1 8) := ok_iload_n (by decide +kernel : decode (mb_ 191) 7 = .ok (.iload_n 1, 1)) rfl
theorem ok_X12_worthNow_8 : ok_S 191 8 (sf_push (0, 1) 9) := ok_iconst (by decide +kernel : decode (mb_ 191) 8 = .ok (.iconst 1, 1)) ⟨by decide, by decide⟩
theorem ok_X12_worthNow_9 : ok_S 191 9 (sf_cv 13 [2, 0, 0] 161 12) := ok_cv mt_161 cl_13 (by decide +kernel : decode (mb_ 191) 9 = .ok (.invokevirtual 162, 3)) tw_1285 tw_1287 ts_40 tw_7 rfl (by decide +kernel) (mh_ok rfl) (by decide) (by decide)
theorem ok_X12_worthNow_12 : ok_S 191 12 (sf_iald 13) := ok_iald (by decide +kernel : decode (mb_ 191) 12 = .ok (.iaload, 1))
theorem ok_X12_worthNow_13 : ok_S 191 13 (sf_cv 13 [2, 0, 0] 183 16) := ok_cv mt_183 cl_13 (by decide +kernel : decode (mb_ 191) 13 = .ok (.invokevirtual 176, 3)) tw_1317 tw_1319 ts_43 tw_7 rfl (by decide +kernel) (mh_ok rfl) (by decide) (by decide)
theorem ok_X12_worthNow_16 : ok_S 191 16 (sf_ret 1) := ok_ret1 (by decide +kernel : decode (mb_ 191) 16 = .ok (.lreturn, 1)) rfl
theorem ok_X12_worthNow (pc : Nat) : ok_S 191 pc (cd_X12_worthNow pc) :=
  (ok_bf (ok_bf (ok_bf (ok_bf (ok_lf pc ok_X12_worthNow_16) (ok_lf pc ok_X12_worthNow_13)) (ok_lf pc ok_X12_worthNow_12)) (ok_bf (ok_bf (ok_lf pc ok_X12_worthNow_9) (ok_lf pc ok_X12_worthNow_8)) (ok_lf pc ok_X12_worthNow_7))) (ok_bf (ok_bf (ok_bf (ok_lf pc ok_X12_worthNow_6) (ok_lf pc ok_X12_worthNow_3)) (ok_lf pc ok_X12_worthNow_2)) (ok_bf (ok_lf pc ok_X12_worthNow_1) (ok_lf pc ok_X12_worthNow_0))))
theorem mo_X12_worthNow (pc : Nat) : mo_S (cd_X12_worthNow pc) :=
  (mo_bf (mo_bf (mo_bf (mo_bf (mo_bf mo_ret mo_no) (mo_bf mo_cv mo_no)) (mo_bf mo_iald mo_no)) (mo_bf (mo_bf (mo_bf mo_cv mo_no) (mo_bf mo_push mo_no)) (mo_bf mo_ld mo_no))) (mo_bf (mo_bf (mo_bf (mo_bf mo_ld mo_no) (mo_bf mo_gr mo_no)) (mo_bf mo_ld mo_no)) (mo_bf (mo_bf mo_ld mo_no) (mo_bf mo_ld mo_no))))
theorem ok_X12_holdsNow_0 : ok_S 192 0 (sf_ld 2 0 1) := ok_aload_n (by decide +kernel : decode (mb_ 192) 0 = .ok (.aload_n 0, 1)) rfl
theorem ok_X12_holdsNow_1 : ok_S 192 1 (sf_ld 2 0 2) := ok_aload_n (by decide +kernel : decode (mb_ 192) 1 = .ok (.aload_n 0, 1)) rfl
theorem ok_X12_holdsNow_2 : ok_S 192 2 (sf_ld 0 1 3) := ok_iload_n (by decide +kernel : decode (mb_ 192) 2 = .ok (.iload_n 1, 1)) rfl
theorem ok_X12_holdsNow_3 : ok_S 192 3 (sf_push (0, 1) 4) := ok_iconst (by decide +kernel : decode (mb_ 192) 3 = .ok (.iconst 1, 1)) ⟨by decide, by decide⟩
theorem ok_X12_holdsNow_4 : ok_S 192 4 (sf_cv 13 [2, 0, 0] 162 7) := ok_cv mt_162 cl_13 (by decide +kernel : decode (mb_ 192) 4 = .ok (.invokevirtual 188, 3)) tw_1346 tw_1348 ts_47 tw_7 rfl (by decide +kernel) (mh_ok rfl) (by decide) (by decide)
theorem ok_X12_holdsNow_7 : ok_S 192 7 (sf_cv 13 [2, 0] 191 10) := ok_cv mt_191 cl_13 (by decide +kernel : decode (mb_ 192) 7 = .ok (.invokevirtual 191, 3)) tw_1374 tw_1376 ts_52 tw_7 rfl (by decide +kernel) (mh_ok rfl) (by decide) (by decide)
theorem ok_X12_holdsNow_10 : ok_S 192 10 (sf_st2 2 11) := ok_lstore_n (by decide +kernel : decode (mb_ 192) 10 = .ok (.lstore_n 2, 1)) rfl
theorem ok_X12_holdsNow_11 : ok_S 192 11 (sf_ld 2 0 12) := ok_aload_n (by decide +kernel : decode (mb_ 192) 11 = .ok (.aload_n 0, 1)) rfl
theorem ok_X12_holdsNow_12 : ok_S 192 12 (sf_ld 0 1 13) := ok_iload_n (by decide +kernel : decode (mb_ 192) 12 = .ok (.iload_n 1, 1)) rfl
theorem ok_X12_holdsNow_13 : ok_S 192 13 (sf_push (0, 0) 14) := ok_iconst (by decide +kernel : decode (mb_ 192) 13 = .ok (.iconst 0, 1)) ⟨by decide, by decide⟩
theorem ok_X12_holdsNow_14 : ok_S 192 14 (sf_cv 13 [2, 0, 0] 162 17) := ok_cv mt_162 cl_13 (by decide +kernel : decode (mb_ 192) 14 = .ok (.invokevirtual 188, 3)) tw_1346 tw_1348 ts_47 tw_7 rfl (by decide +kernel) (mh_ok rfl) (by decide) (by decide)
theorem ok_X12_holdsNow_17 : ok_S 192 17 (sf_sw [(0, 44), (1, 65), (2, 86)] 118) := ok_tsw (by decide +kernel : decode (mb_ 192) 17 = .ok (.tableswitch 101 0 2 #[27, 48, 69], 27)) (by decide) (by decide) (by decide) (by decide)
theorem ok_X12_holdsNow_44 : ok_S 192 44 (sf_ld 1 2 45) := ok_lload_n (by decide +kernel : decode (mb_ 192) 44 = .ok (.lload_n 2, 1)) rfl
theorem ok_X12_holdsNow_45 : ok_S 192 45 (sf_ld 2 0 46) := ok_aload_n (by decide +kernel : decode (mb_ 192) 45 = .ok (.aload_n 0, 1)) rfl
theorem ok_X12_holdsNow_46 : ok_S 192 46 (sf_ld 2 0 47) := ok_aload_n (by decide +kernel : decode (mb_ 192) 46 = .ok (.aload_n 0, 1)) rfl
theorem ok_X12_holdsNow_47 : ok_S 192 47 (sf_ld 0 1 48) := ok_iload_n (by decide +kernel : decode (mb_ 192) 47 = .ok (.iload_n 1, 1)) rfl
theorem ok_X12_holdsNow_48 : ok_S 192 48 (sf_push (0, 2) 49) := ok_iconst (by decide +kernel : decode (mb_ 192) 48 = .ok (.iconst 2, 1)) ⟨by decide, by decide⟩
theorem ok_X12_holdsNow_49 : ok_S 192 49 (sf_cv 13 [2, 0, 0] 162 52) := ok_cv mt_162 cl_13 (by decide +kernel : decode (mb_ 192) 49 = .ok (.invokevirtual 188, 3)) tw_1346 tw_1348 ts_47 tw_7 rfl (by decide +kernel) (mh_ok rfl) (by decide) (by decide)
theorem ok_X12_holdsNow_52 : ok_S 192 52 (sf_cv 13 [2, 0] 191 55) := ok_cv mt_191 cl_13 (by decide +kernel : decode (mb_ 192) 52 = .ok (.invokevirtual 191, 3)) tw_1374 tw_1376 ts_52 tw_7 rfl (by decide +kernel) (mh_ok rfl) (by decide) (by decide)
theorem ok_X12_holdsNow_55 : ok_S 192 55 (sf_lcmp 56) := ok_lcmp (by decide +kernel : decode (mb_ 192) 55 = .ok (.lcmp, 1))
theorem ok_X12_holdsNow_56 : ok_S 192 56 (sf_if 1 63 59) := ok_if1 (by decide +kernel : decode (mb_ 192) 56 = .ok (.ifCond .ne 7, 3)) (by decide)
theorem ok_X12_holdsNow_59 : ok_S 192 59 (sf_push (0, 1) 60) := ok_iconst (by decide +kernel : decode (mb_ 192) 59 = .ok (.iconst 1, 1)) ⟨by decide, by decide⟩
theorem ok_X12_holdsNow_60 : ok_S 192 60 (sf_go 64) := ok_goto (by decide +kernel : decode (mb_ 192) 60 = .ok (.goto 4, 3)) (by decide)
theorem ok_X12_holdsNow_63 : ok_S 192 63 (sf_push (0, 0) 64) := ok_iconst (by decide +kernel : decode (mb_ 192) 63 = .ok (.iconst 0, 1)) ⟨by decide, by decide⟩
theorem ok_X12_holdsNow_64 : ok_S 192 64 (sf_rr 0 1) := ok_rr (by decide +kernel : decode (mb_ 192) 64 = .ok (.ireturn, 1)) rfl (so_nz .boolean rfl rfl)
theorem ok_X12_holdsNow_65 : ok_S 192 65 (sf_ld 1 2 66) := ok_lload_n (by decide +kernel : decode (mb_ 192) 65 = .ok (.lload_n 2, 1)) rfl
theorem ok_X12_holdsNow_66 : ok_S 192 66 (sf_ld 2 0 67) := ok_aload_n (by decide +kernel : decode (mb_ 192) 66 = .ok (.aload_n 0, 1)) rfl
theorem ok_X12_holdsNow_67 : ok_S 192 67 (sf_ld 2 0 68) := ok_aload_n (by decide +kernel : decode (mb_ 192) 67 = .ok (.aload_n 0, 1)) rfl
theorem ok_X12_holdsNow_68 : ok_S 192 68 (sf_ld 0 1 69) := ok_iload_n (by decide +kernel : decode (mb_ 192) 68 = .ok (.iload_n 1, 1)) rfl
theorem ok_X12_holdsNow_69 : ok_S 192 69 (sf_push (0, 2) 70) := ok_iconst (by decide +kernel : decode (mb_ 192) 69 = .ok (.iconst 2, 1)) ⟨by decide, by decide⟩
theorem ok_X12_holdsNow_70 : ok_S 192 70 (sf_cv 13 [2, 0, 0] 162 73) := ok_cv mt_162 cl_13 (by decide +kernel : decode (mb_ 192) 70 = .ok (.invokevirtual 188, 3)) tw_1346 tw_1348 ts_47 tw_7 rfl (by decide +kernel) (mh_ok rfl) (by decide) (by decide)
theorem ok_X12_holdsNow_73 : ok_S 192 73 (sf_cv 13 [2, 0] 191 76) := ok_cv mt_191 cl_13 (by decide +kernel : decode (mb_ 192) 73 = .ok (.invokevirtual 191, 3)) tw_1374 tw_1376 ts_52 tw_7 rfl (by decide +kernel) (mh_ok rfl) (by decide) (by decide)
theorem ok_X12_holdsNow_76 : ok_S 192 76 (sf_lcmp 77) := ok_lcmp (by decide +kernel : decode (mb_ 192) 76 = .ok (.lcmp, 1))
theorem ok_X12_holdsNow_77 : ok_S 192 77 (sf_if 5 84 80) := ok_if5 (by decide +kernel : decode (mb_ 192) 77 = .ok (.ifCond .le 7, 3)) (by decide)
theorem ok_X12_holdsNow_80 : ok_S 192 80 (sf_push (0, 1) 81) := ok_iconst (by decide +kernel : decode (mb_ 192) 80 = .ok (.iconst 1, 1)) ⟨by decide, by decide⟩
theorem ok_X12_holdsNow_81 : ok_S 192 81 (sf_go 85) := ok_goto (by decide +kernel : decode (mb_ 192) 81 = .ok (.goto 4, 3)) (by decide)
theorem ok_X12_holdsNow_84 : ok_S 192 84 (sf_push (0, 0) 85) := ok_iconst (by decide +kernel : decode (mb_ 192) 84 = .ok (.iconst 0, 1)) ⟨by decide, by decide⟩
theorem ok_X12_holdsNow_85 : ok_S 192 85 (sf_rr 0 1) := ok_rr (by decide +kernel : decode (mb_ 192) 85 = .ok (.ireturn, 1)) rfl (so_nz .boolean rfl rfl)
theorem ok_X12_holdsNow_86 : ok_S 192 86 (sf_ld 1 2 87) := ok_lload_n (by decide +kernel : decode (mb_ 192) 86 = .ok (.lload_n 2, 1)) rfl
theorem ok_X12_holdsNow_87 : ok_S 192 87 (sf_ld 2 0 88) := ok_aload_n (by decide +kernel : decode (mb_ 192) 87 = .ok (.aload_n 0, 1)) rfl
theorem ok_X12_holdsNow_88 : ok_S 192 88 (sf_ld 2 0 89) := ok_aload_n (by decide +kernel : decode (mb_ 192) 88 = .ok (.aload_n 0, 1)) rfl
theorem ok_X12_holdsNow_89 : ok_S 192 89 (sf_ld 0 1 90) := ok_iload_n (by decide +kernel : decode (mb_ 192) 89 = .ok (.iload_n 1, 1)) rfl
theorem ok_X12_holdsNow_90 : ok_S 192 90 (sf_push (0, 2) 91) := ok_iconst (by decide +kernel : decode (mb_ 192) 90 = .ok (.iconst 2, 1)) ⟨by decide, by decide⟩
theorem ok_X12_holdsNow_91 : ok_S 192 91 (sf_cv 13 [2, 0, 0] 162 94) := ok_cv mt_162 cl_13 (by decide +kernel : decode (mb_ 192) 91 = .ok (.invokevirtual 188, 3)) tw_1346 tw_1348 ts_47 tw_7 rfl (by decide +kernel) (mh_ok rfl) (by decide) (by decide)
theorem ok_X12_holdsNow_94 : ok_S 192 94 (sf_cv 13 [2, 0] 191 97) := ok_cv mt_191 cl_13 (by decide +kernel : decode (mb_ 192) 94 = .ok (.invokevirtual 191, 3)) tw_1374 tw_1376 ts_52 tw_7 rfl (by decide +kernel) (mh_ok rfl) (by decide) (by decide)
theorem ok_X12_holdsNow_97 : ok_S 192 97 (sf_l2 ml_add 98) := ok_ladd (by decide +kernel : decode (mb_ 192) 97 = .ok (.ladd, 1))
theorem ok_X12_holdsNow_98 : ok_S 192 98 (sf_ld 2 0 99) := ok_aload_n (by decide +kernel : decode (mb_ 192) 98 = .ok (.aload_n 0, 1)) rfl
theorem ok_X12_holdsNow_99 : ok_S 192 99 (sf_ld 2 0 100) := ok_aload_n (by decide +kernel : decode (mb_ 192) 99 = .ok (.aload_n 0, 1)) rfl
theorem ok_X12_holdsNow_100 : ok_S 192 100 (sf_ld 0 1 101) := ok_iload_n (by decide +kernel : decode (mb_ 192) 100 = .ok (.iload_n 1, 1)) rfl
theorem ok_X12_holdsNow_101 : ok_S 192 101 (sf_push (0, 3) 102) := ok_iconst (by decide +kernel : decode (mb_ 192) 101 = .ok (.iconst 3, 1)) ⟨by decide, by decide⟩
theorem ok_X12_holdsNow_102 : ok_S 192 102 (sf_cv 13 [2, 0, 0] 162 105) := ok_cv mt_162 cl_13 (by decide +kernel : decode (mb_ 192) 102 = .ok (.invokevirtual 188, 3)) tw_1346 tw_1348 ts_47 tw_7 rfl (by decide +kernel) (mh_ok rfl) (by decide) (by decide)
theorem ok_X12_holdsNow_105 : ok_S 192 105 (sf_cv 13 [2, 0] 191 108) := ok_cv mt_191 cl_13 (by decide +kernel : decode (mb_ 192) 105 = .ok (.invokevirtual 191, 3)) tw_1374 tw_1376 ts_52 tw_7 rfl (by decide +kernel) (mh_ok rfl) (by decide) (by decide)
theorem ok_X12_holdsNow_108 : ok_S 192 108 (sf_lcmp 109) := ok_lcmp (by decide +kernel : decode (mb_ 192) 108 = .ok (.lcmp, 1))
theorem ok_X12_holdsNow_109 : ok_S 192 109 (sf_if 1 116 112) := ok_if1 (by decide +kernel : decode (mb_ 192) 109 = .ok (.ifCond .ne 7, 3)) (by decide)
theorem ok_X12_holdsNow_112 : ok_S 192 112 (sf_push (0, 1) 113) := ok_iconst (by decide +kernel : decode (mb_ 192) 112 = .ok (.iconst 1, 1)) ⟨by decide, by decide⟩
theorem ok_X12_holdsNow_113 : ok_S 192 113 (sf_go 117) := ok_goto (by decide +kernel : decode (mb_ 192) 113 = .ok (.goto 4, 3)) (by decide)
theorem ok_X12_holdsNow_116 : ok_S 192 116 (sf_push (0, 0) 117) := ok_iconst (by decide +kernel : decode (mb_ 192) 116 = .ok (.iconst 0, 1)) ⟨by decide, by decide⟩
theorem ok_X12_holdsNow_117 : ok_S 192 117 (sf_rr 0 1) := ok_rr (by decide +kernel : decode (mb_ 192) 117 = .ok (.ireturn, 1)) rfl (so_nz .boolean rfl rfl)
theorem ok_X12_holdsNow_118 : ok_S 192 118 (sf_ld 1 2 119) := ok_lload_n (by decide +kernel : decode (mb_ 192) 118 = .ok (.lload_n 2, 1)) rfl
theorem ok_X12_holdsNow_119 : ok_S 192 119 (sf_ld 2 0 120) := ok_aload_n (by decide +kernel : decode (mb_ 192) 119 = .ok (.aload_n 0, 1)) rfl
theorem ok_X12_holdsNow_120 : ok_S 192 120 (sf_ld 0 1 121) := ok_iload_n (by decide +kernel : decode (mb_ 192) 120 = .ok (.iload_n 1, 1)) rfl
theorem ok_X12_holdsNow_121 : ok_S 192 121 (sf_push (0, 3) 122) := ok_iconst (by decide +kernel : decode (mb_ 192) 121 = .ok (.iconst 3, 1)) ⟨by decide, by decide⟩
theorem ok_X12_holdsNow_122 : ok_S 192 122 (sf_cv 13 [2, 0, 0] 162 125) := ok_cv mt_162 cl_13 (by decide +kernel : decode (mb_ 192) 122 = .ok (.invokevirtual 188, 3)) tw_1346 tw_1348 ts_47 tw_7 rfl (by decide +kernel) (mh_ok rfl) (by decide) (by decide)
theorem ok_X12_holdsNow_125 : ok_S 192 125 (sf_i2l 126) := ok_i2l (by decide +kernel : decode (mb_ 192) 125 = .ok (.i2l, 1))
theorem ok_X12_holdsNow_126 : ok_S 192 126 (sf_l2d ml_rem 127) := ok_lrem (by decide +kernel : decode (mb_ 192) 126 = .ok (.lrem, 1))
theorem ok_X12_holdsNow_127 : ok_S 192 127 (sf_push (1, 0) 128) := ok_lconst (by decide +kernel : decode (mb_ 192) 127 = .ok (.lconst 0, 1)) ⟨by decide, by decide⟩ rfl
theorem ok_X12_holdsNow_128 : ok_S 192 128 (sf_lcmp 129) := ok_lcmp (by decide +kernel : decode (mb_ 192) 128 = .ok (.lcmp, 1))
theorem ok_X12_holdsNow_129 : ok_S 192 129 (sf_if 1 136 132) := ok_if1 (by decide +kernel : decode (mb_ 192) 129 = .ok (.ifCond .ne 7, 3)) (by decide)
theorem ok_X12_holdsNow_132 : ok_S 192 132 (sf_push (0, 1) 133) := ok_iconst (by decide +kernel : decode (mb_ 192) 132 = .ok (.iconst 1, 1)) ⟨by decide, by decide⟩
theorem ok_X12_holdsNow_133 : ok_S 192 133 (sf_go 137) := ok_goto (by decide +kernel : decode (mb_ 192) 133 = .ok (.goto 4, 3)) (by decide)
theorem ok_X12_holdsNow_136 : ok_S 192 136 (sf_push (0, 0) 137) := ok_iconst (by decide +kernel : decode (mb_ 192) 136 = .ok (.iconst 0, 1)) ⟨by decide, by decide⟩
theorem ok_X12_holdsNow_137 : ok_S 192 137 (sf_rr 0 1) := ok_rr (by decide +kernel : decode (mb_ 192) 137 = .ok (.ireturn, 1)) rfl (so_nz .boolean rfl rfl)
theorem ok_X12_holdsNow (pc : Nat) : ok_S 192 pc (cd_X12_holdsNow pc) :=
  (ok_bf (ok_bf (ok_bf (ok_bf (ok_bf (ok_bf (ok_bf (ok_lf pc ok_X12_holdsNow_137) (ok_lf pc ok_X12_holdsNow_136)) (ok_lf pc ok_X12_holdsNow_133)) (ok_bf (ok_lf pc ok_X12_holdsNow_132) (ok_lf pc ok_X12_holdsNow_129))) (ok_bf (ok_bf (ok_lf pc ok_X12_holdsNow_128) (ok_lf pc ok_X12_holdsNow_127)) (ok_bf (ok_lf pc ok_X12_holdsNow_126) (ok_lf pc ok_X12_holdsNow_125)))) (ok_bf (ok_bf (ok_bf (ok_bf (ok_lf pc ok_X12_holdsNow_122) (ok_lf pc ok_X12_holdsNow_121)) (ok_lf pc ok_X12_holdsNow_120)) (ok_bf (ok_lf pc ok_X12_holdsNow_119) (ok_lf pc ok_X12_holdsNow_118))) (ok_bf (ok_bf (ok_lf pc ok_X12_holdsNow_117) (ok_lf pc ok_X12_holdsNow_116)) (ok_bf (ok_lf pc ok_X12_holdsNow_113) (ok_lf pc ok_X12_holdsNow_112))))) (ok_bf (ok_bf (ok_bf (ok_bf (ok_bf (ok_lf pc ok_X12_holdsNow_109) (ok_lf pc ok_X12_holdsNow_108)) (ok_lf pc ok_X12_holdsNow_105)) (ok_bf (ok_lf pc ok_X12_holdsNow_102) (ok_lf pc ok_X12_holdsNow_101))) (ok_bf (ok_bf (ok_lf pc ok_X12_holdsNow_100) (ok_lf pc ok_X12_holdsNow_99)) (ok_bf (ok_lf pc ok_X12_holdsNow_98) (ok_lf pc ok_X12_holdsNow_97)))) (ok_bf (ok_bf (ok_bf (ok_bf (ok_lf pc ok_X12_holdsNow_94) (ok_lf pc ok_X12_holdsNow_91)) (ok_lf pc ok_X12_holdsNow_90)) (ok_bf (ok_lf pc ok_X12_holdsNow_89) (ok_lf pc ok_X12_holdsNow_88))) (ok_bf (ok_bf (ok_lf pc ok_X12_holdsNow_87) (ok_lf pc ok_X12_holdsNow_86)) (ok_bf (ok_lf pc ok_X12_holdsNow_85) (ok_lf pc ok_X12_holdsNow_84)))))) (ok_bf (ok_bf (ok_bf (ok_bf (ok_bf (ok_bf (ok_lf pc ok_X12_holdsNow_81) (ok_lf pc ok_X12_holdsNow_80)) (ok_lf pc ok_X12_holdsNow_77)) (ok_bf (ok_lf pc ok_X12_holdsNow_76) (ok_lf pc ok_X12_holdsNow_73))) (ok_bf (ok_bf (ok_lf pc ok_X12_holdsNow_70) (ok_lf pc ok_X12_holdsNow_69)) (ok_bf (ok_lf pc ok_X12_holdsNow_68) (ok_lf pc ok_X12_holdsNow_67)))) (ok_bf (ok_bf (ok_bf (ok_bf (ok_lf pc ok_X12_holdsNow_66) (ok_lf pc ok_X12_holdsNow_65)) (ok_lf pc ok_X12_holdsNow_64)) (ok_bf (ok_lf pc ok_X12_holdsNow_63) (ok_lf pc ok_X12_holdsNow_60))) (ok_bf (ok_bf (ok_lf pc ok_X12_holdsNow_59) (ok_lf pc ok_X12_holdsNow_56)) (ok_bf (ok_lf pc ok_X12_holdsNow_55) (ok_lf pc ok_X12_holdsNow_52))))) (ok_bf (ok_bf (ok_bf (ok_bf (ok_bf (ok_lf pc ok_X12_holdsNow_49) (ok_lf pc ok_X12_holdsNow_48)) (ok_lf pc ok_X12_holdsNow_47)) (ok_bf (ok_lf pc ok_X12_holdsNow_46) (ok_lf pc ok_X12_holdsNow_45))) (ok_bf (ok_bf (ok_lf pc ok_X12_holdsNow_44) (ok_lf pc ok_X12_holdsNow_17)) (ok_bf (ok_lf pc ok_X12_holdsNow_14) (ok_lf pc ok_X12_holdsNow_13)))) (ok_bf (ok_bf (ok_bf (ok_bf (ok_lf pc ok_X12_holdsNow_12) (ok_lf pc ok_X12_holdsNow_11)) (ok_lf pc ok_X12_holdsNow_10)) (ok_bf (ok_lf pc ok_X12_holdsNow_7) (ok_lf pc ok_X12_holdsNow_4))) (ok_bf (ok_bf (ok_lf pc ok_X12_holdsNow_3) (ok_lf pc ok_X12_holdsNow_2)) (ok_bf (ok_lf pc ok_X12_holdsNow_1) (ok_lf pc ok_X12_holdsNow_0)))))))
theorem mo_X12_holdsNow (pc : Nat) : mo_S (cd_X12_holdsNow pc) :=
  (mo_bf (mo_bf (mo_bf (mo_bf (mo_bf (mo_bf (mo_bf (mo_bf mo_rr mo_no) (mo_bf mo_push mo_no)) (mo_bf mo_go mo_no)) (mo_bf (mo_bf mo_push mo_no) (mo_bf mo_if mo_no))) (mo_bf (mo_bf (mo_bf mo_lcmp mo_no) (mo_bf mo_push mo_no)) (mo_bf (mo_bf mo_l2d mo_no) (mo_bf mo_i2l mo_no)))) (mo_bf (mo_bf (mo_bf (mo_bf (mo_bf mo_cv mo_no) (mo_bf mo_push mo_no)) (mo_bf mo_ld mo_no)) (mo_bf (mo_bf mo_ld mo_no) (mo_bf mo_ld mo_no))) (mo_bf (mo_bf (mo_bf mo_rr mo_no) (mo_bf mo_push mo_no)) (mo_bf (mo_bf mo_go mo_no) (mo_bf mo_push mo_no))))) (mo_bf (mo_bf (mo_bf (mo_bf (mo_bf (mo_bf mo_if mo_no) (mo_bf mo_lcmp mo_no)) (mo_bf mo_cv mo_no)) (mo_bf (mo_bf mo_cv mo_no) (mo_bf mo_push mo_no))) (mo_bf (mo_bf (mo_bf mo_ld mo_no) (mo_bf mo_ld mo_no)) (mo_bf (mo_bf mo_ld mo_no) (mo_bf mo_l2 mo_no)))) (mo_bf (mo_bf (mo_bf (mo_bf (mo_bf mo_cv mo_no) (mo_bf mo_cv mo_no)) (mo_bf mo_push mo_no)) (mo_bf (mo_bf mo_ld mo_no) (mo_bf mo_ld mo_no))) (mo_bf (mo_bf (mo_bf mo_ld mo_no) (mo_bf mo_ld mo_no)) (mo_bf (mo_bf mo_rr mo_no) (mo_bf mo_push mo_no)))))) (mo_bf (mo_bf (mo_bf (mo_bf (mo_bf (mo_bf (mo_bf mo_go mo_no) (mo_bf mo_push mo_no)) (mo_bf mo_if mo_no)) (mo_bf (mo_bf mo_lcmp mo_no) (mo_bf mo_cv mo_no))) (mo_bf (mo_bf (mo_bf mo_cv mo_no) (mo_bf mo_push mo_no)) (mo_bf (mo_bf mo_ld mo_no) (mo_bf mo_ld mo_no)))) (mo_bf (mo_bf (mo_bf (mo_bf (mo_bf mo_ld mo_no) (mo_bf mo_ld mo_no)) (mo_bf mo_rr mo_no)) (mo_bf (mo_bf mo_push mo_no) (mo_bf mo_go mo_no))) (mo_bf (mo_bf (mo_bf mo_push mo_no) (mo_bf mo_if mo_no)) (mo_bf (mo_bf mo_lcmp mo_no) (mo_bf mo_cv mo_no))))) (mo_bf (mo_bf (mo_bf (mo_bf (mo_bf (mo_bf mo_cv mo_no) (mo_bf mo_push mo_no)) (mo_bf mo_ld mo_no)) (mo_bf (mo_bf mo_ld mo_no) (mo_bf mo_ld mo_no))) (mo_bf (mo_bf (mo_bf mo_ld mo_no) (mo_bf mo_sw mo_no)) (mo_bf (mo_bf mo_cv mo_no) (mo_bf mo_push mo_no)))) (mo_bf (mo_bf (mo_bf (mo_bf (mo_bf mo_ld mo_no) (mo_bf mo_ld mo_no)) (mo_bf mo_st2 mo_no)) (mo_bf (mo_bf mo_cv mo_no) (mo_bf mo_cv mo_no))) (mo_bf (mo_bf (mo_bf mo_push mo_no) (mo_bf mo_ld mo_no)) (mo_bf (mo_bf mo_ld mo_no) (mo_bf mo_ld mo_no)))))))
theorem ok_X12_holdAll_0 : ok_S 193 0 (sf_push (0, 0) 1) := ok_iconst (by decide +kernel : decode (mb_ 193) 0 = .ok (.iconst 0, 1)) ⟨by decide, by decide⟩
theorem ok_X12_holdAll_1 : ok_S 193 1 (sf_st 0 2 2) := ok_istore_n (by decide +kernel : decode (mb_ 193) 1 = .ok (.istore_n 2, 1)) rfl
theorem ok_X12_holdAll_2 : ok_S 193 2 (sf_ld 0 2 3) := ok_iload_n (by decide +kernel : decode (mb_ 193) 2 = .ok (.iload_n 2, 1)) rfl
theorem ok_X12_holdAll_3 : ok_S 193 3 (sf_ld 2 0 4) := ok_aload_n (by decide +kernel : decode (mb_ 193) 3 = .ok (.aload_n 0, 1)) rfl
theorem ok_X12_holdAll_4 : ok_S 193 4 (sf_gr 13 13 0 7) := ok_gr fd_13_0 (by decide +kernel : decode (mb_ 193) 4 = .ok (.getfield 7, 3)) tw_1126 (Or.inl rfl) rfl
theorem ok_X12_holdAll_7 : ok_S 193 7 (sf_push (0, 1) 8) := ok_iconst (by decide +kernel : decode (mb_ 193) 7 = .ok (.iconst 1, 1)) ⟨by decide, by decide⟩
theorem ok_X12_holdAll_8 : ok_S 193 8 (sf_iald 9) := ok_iald (by decide +kernel : decode (mb_ 193) 8 = .ok (.iaload, 1))
theorem ok_X12_holdAll_9 : ok_S 193 9 (sf_ic 3 37 12) := ok_ic3 (by decide +kernel : decode (mb_ 193) 9 = .ok (.if_icmp .ge 28, 3)) (by decide)
theorem ok_X12_holdAll_12 : ok_S 193 12 (sf_ld 0 1 13) := ok_iload_n (by decide +kernel : decode (mb_ 193) 12 = .ok (.iload_n 1, 1)) rfl
theorem ok_X12_holdAll_13 : ok_S 193 13 (sf_ld 0 2 14) := ok_iload_n (by decide +kernel : decode (mb_ 193) 13 = .ok (.iload_n 2, 1)) rfl
theorem ok_X12_holdAll_14 : ok_S 193 14 (sf_i2 mx_shr 15) := ok_ishr (by decide +kernel : decode (mb_ 193) 14 = .ok (.ishr, 1))
theorem ok_X12_holdAll_15 : ok_S 193 15 (sf_push (0, 1) 16) := ok_iconst (by decide +kernel : decode (mb_ 193) 15 = .ok (.iconst 1, 1)) ⟨by decide, by decide⟩
theorem ok_X12_holdAll_16 : ok_S 193 16 (sf_i2 mx_and 17) := ok_iand (by decide +kernel : decode (mb_ 193) 16 = .ok (.iand, 1))
theorem ok_X12_holdAll_17 : ok_S 193 17 (sf_push (0, 1) 18) := ok_iconst (by decide +kernel : decode (mb_ 193) 17 = .ok (.iconst 1, 1)) ⟨by decide, by decide⟩
theorem ok_X12_holdAll_18 : ok_S 193 18 (sf_ic 1 31 21) := ok_ic1 (by decide +kernel : decode (mb_ 193) 18 = .ok (.if_icmp .ne 13, 3)) (by decide)
theorem ok_X12_holdAll_21 : ok_S 193 21 (sf_ld 2 0 22) := ok_aload_n (by decide +kernel : decode (mb_ 193) 21 = .ok (.aload_n 0, 1)) rfl
theorem ok_X12_holdAll_22 : ok_S 193 22 (sf_ld 0 2 23) := ok_iload_n (by decide +kernel : decode (mb_ 193) 22 = .ok (.iload_n 2, 1)) rfl
theorem ok_X12_holdAll_23 : ok_S 193 23 (sf_cv 13 [2, 0] 192 26) := ok_cv mt_192 cl_13 (by decide +kernel : decode (mb_ 193) 23 = .ok (.invokevirtual 195, 3)) tw_1370 tw_1372 ts_51 tw_7 rfl (by decide +kernel) (mh_ok rfl) (by decide) (by decide)
theorem ok_X12_holdAll_26 : ok_S 193 26 (sf_if 1 31 29) := ok_if1 (by decide +kernel : decode (mb_ 193) 26 = .ok (.ifCond .ne 5, 3)) (by decide)
theorem ok_X12_holdAll_29 : ok_S 193 29 (sf_push (0, 0) 30) := ok_iconst (by decide +kernel : decode (mb_ 193) 29 = .ok (.iconst 0, 1)) ⟨by decide, by decide⟩
theorem ok_X12_holdAll_30 : ok_S 193 30 (sf_rr 0 1) := ok_rr (by decide +kernel : decode (mb_ 193) 30 = .ok (.ireturn, 1)) rfl (so_nz .boolean rfl rfl)
theorem ok_X12_holdAll_31 : ok_S 193 31 (sf_inc 2 1 34) := ok_iinc (by decide +kernel : decode (mb_ 193) 31 = .ok (.iinc 2 1, 3))
theorem ok_X12_holdAll_34 : ok_S 193 34 (sf_go 2) := ok_goto (by decide +kernel : decode (mb_ 193) 34 = .ok (.goto (-32), 3)) (by decide)
theorem ok_X12_holdAll_37 : ok_S 193 37 (sf_push (0, 1) 38) := ok_iconst (by decide +kernel : decode (mb_ 193) 37 = .ok (.iconst 1, 1)) ⟨by decide, by decide⟩
theorem ok_X12_holdAll_38 : ok_S 193 38 (sf_rr 0 1) := ok_rr (by decide +kernel : decode (mb_ 193) 38 = .ok (.ireturn, 1)) rfl (so_nz .boolean rfl rfl)
theorem ok_X12_holdAll (pc : Nat) : ok_S 193 pc (cd_X12_holdAll pc) :=
  (ok_bf (ok_bf (ok_bf (ok_bf (ok_bf (ok_lf pc ok_X12_holdAll_38) (ok_lf pc ok_X12_holdAll_37)) (ok_bf (ok_lf pc ok_X12_holdAll_34) (ok_lf pc ok_X12_holdAll_31))) (ok_bf (ok_bf (ok_lf pc ok_X12_holdAll_30) (ok_lf pc ok_X12_holdAll_29)) (ok_lf pc ok_X12_holdAll_26))) (ok_bf (ok_bf (ok_bf (ok_lf pc ok_X12_holdAll_23) (ok_lf pc ok_X12_holdAll_22)) (ok_lf pc ok_X12_holdAll_21)) (ok_bf (ok_bf (ok_lf pc ok_X12_holdAll_18) (ok_lf pc ok_X12_holdAll_17)) (ok_lf pc ok_X12_holdAll_16)))) (ok_bf (ok_bf (ok_bf (ok_bf (ok_lf pc ok_X12_holdAll_15) (ok_lf pc ok_X12_holdAll_14)) (ok_lf pc ok_X12_holdAll_13)) (ok_bf (ok_bf (ok_lf pc ok_X12_holdAll_12) (ok_lf pc ok_X12_holdAll_9)) (ok_lf pc ok_X12_holdAll_8))) (ok_bf (ok_bf (ok_bf (ok_lf pc ok_X12_holdAll_7) (ok_lf pc ok_X12_holdAll_4)) (ok_lf pc ok_X12_holdAll_3)) (ok_bf (ok_bf (ok_lf pc ok_X12_holdAll_2) (ok_lf pc ok_X12_holdAll_1)) (ok_lf pc ok_X12_holdAll_0)))))
theorem mo_X12_holdAll (pc : Nat) : mo_S (cd_X12_holdAll pc) :=
  (mo_bf (mo_bf (mo_bf (mo_bf (mo_bf (mo_bf mo_rr mo_no) (mo_bf mo_push mo_no)) (mo_bf (mo_bf mo_go mo_no) (mo_bf mo_inc mo_no))) (mo_bf (mo_bf (mo_bf mo_rr mo_no) (mo_bf mo_push mo_no)) (mo_bf mo_if mo_no))) (mo_bf (mo_bf (mo_bf (mo_bf mo_cv mo_no) (mo_bf mo_ld mo_no)) (mo_bf mo_ld mo_no)) (mo_bf (mo_bf (mo_bf mo_ic mo_no) (mo_bf mo_push mo_no)) (mo_bf mo_i2 mo_no)))) (mo_bf (mo_bf (mo_bf (mo_bf (mo_bf mo_push mo_no) (mo_bf mo_i2 mo_no)) (mo_bf mo_ld mo_no)) (mo_bf (mo_bf (mo_bf mo_ld mo_no) (mo_bf mo_ic mo_no)) (mo_bf mo_iald mo_no))) (mo_bf (mo_bf (mo_bf (mo_bf mo_push mo_no) (mo_bf mo_gr mo_no)) (mo_bf mo_ld mo_no)) (mo_bf (mo_bf (mo_bf mo_ld mo_no) (mo_bf mo_st mo_no)) (mo_bf mo_push mo_no)))))
theorem ok_X12_may1_0 : ok_S 194 0 (sf_push (0, 0) 1) := ok_iconst (by decide +kernel : decode (mb_ 194) 0 = .ok (.iconst 0, 1)) ⟨by decide, by decide⟩
theorem ok_X12_may1_1 : ok_S 194 1 (sf_st 0 2 2) := ok_istore_n (by decide +kernel : decode (mb_ 194) 1 = .ok (.istore_n 2, 1)) rfl
theorem ok_X12_may1_2 : ok_S 194 2 (sf_ld 2 0 3) := ok_aload_n (by decide +kernel : decode (mb_ 194) 2 = .ok (.aload_n 0, 1)) rfl
theorem ok_X12_may1_3 : ok_S 194 3 (sf_gr 13 13 0 6) := ok_gr fd_13_0 (by decide +kernel : decode (mb_ 194) 3 = .ok (.getfield 7, 3)) tw_1126 (Or.inl rfl) rfl
theorem ok_X12_may1_6 : ok_S 194 6 (sf_push (0, 3) 7) := ok_iconst (by decide +kernel : decode (mb_ 194) 6 = .ok (.iconst 3, 1)) ⟨by decide, by decide⟩
theorem ok_X12_may1_7 : ok_S 194 7 (sf_push (0, 2) 8) := ok_iconst (by decide +kernel : decode (mb_ 194) 7 = .ok (.iconst 2, 1)) ⟨by decide, by decide⟩
theorem ok_X12_may1_8 : ok_S 194 8 (sf_ld 0 1 9) := ok_iload_n (by decide +kernel : decode (mb_ 194) 8 = .ok (.iload_n 1, 1)) rfl
theorem ok_X12_may1_9 : ok_S 194 9 (sf_i2 mx_mul 10) := ok_imul (by decide +kernel : decode (mb_ 194) 9 = .ok (.imul, 1))
theorem ok_X12_may1_10 : ok_S 194 10 (sf_i2 mx_add 11) := ok_iadd (by decide +kernel : decode (mb_ 194) 10 = .ok (.iadd, 1))
theorem ok_X12_may1_11 : ok_S 194 11 (sf_iald 12) := ok_iald (by decide +kernel : decode (mb_ 194) 11 = .ok (.iaload, 1))
theorem ok_X12_may1_12 : ok_S 194 12 (sf_st 0 3 13) := ok_istore_n (by decide +kernel : decode (mb_ 194) 12 = .ok (.istore_n 3, 1)) rfl
theorem ok_X12_may1_13 : ok_S 194 13 (sf_ld 0 3 14) := ok_iload_n (by decide +kernel : decode (mb_ 194) 13 = .ok (.iload_n 3, 1)) rfl
theorem ok_X12_may1_14 : ok_S 194 14 (sf_ld 2 0 15) := ok_aload_n (by decide +kernel : decode (mb_ 194) 14 = .ok (.aload_n 0, 1)) rfl
theorem ok_X12_may1_15 : ok_S 194 15 (sf_gr 13 13 0 18) := ok_gr fd_13_0 (by decide +kernel : decode (mb_ 194) 15 = .ok (.getfield 7, 3)) tw_1126 (Or.inl rfl) rfl
theorem ok_X12_may1_18 : ok_S 194 18 (sf_push (0, 3) 19) := ok_iconst (by decide +kernel : decode (mb_ 194) 18 = .ok (.iconst 3, 1)) ⟨by decide, by decide⟩
theorem ok_X12_may1_19 : ok_S 194 19 (sf_push (0, 2) 20) := ok_iconst (by decide +kernel : decode (mb_ 194) 19 = .ok (.iconst 2, 1)) ⟨by decide, by decide⟩
theorem ok_X12_may1_20 : ok_S 194 20 (sf_ld 0 1 21) := ok_iload_n (by decide +kernel : decode (mb_ 194) 20 = .ok (.iload_n 1, 1)) rfl
theorem ok_X12_may1_21 : ok_S 194 21 (sf_i2 mx_mul 22) := ok_imul (by decide +kernel : decode (mb_ 194) 21 = .ok (.imul, 1))
theorem ok_X12_may1_22 : ok_S 194 22 (sf_i2 mx_add 23) := ok_iadd (by decide +kernel : decode (mb_ 194) 22 = .ok (.iadd, 1))
theorem ok_X12_may1_23 : ok_S 194 23 (sf_push (0, 1) 24) := ok_iconst (by decide +kernel : decode (mb_ 194) 23 = .ok (.iconst 1, 1)) ⟨by decide, by decide⟩
theorem ok_X12_may1_24 : ok_S 194 24 (sf_i2 mx_add 25) := ok_iadd (by decide +kernel : decode (mb_ 194) 24 = .ok (.iadd, 1))
theorem ok_X12_may1_25 : ok_S 194 25 (sf_iald 26) := ok_iald (by decide +kernel : decode (mb_ 194) 25 = .ok (.iaload, 1))
theorem ok_X12_may1_26 : ok_S 194 26 (sf_ic 4 106 29) := ok_ic4 (by decide +kernel : decode (mb_ 194) 26 = .ok (.if_icmp .gt 80, 3)) (by decide)
theorem ok_X12_may1_29 : ok_S 194 29 (sf_push (0, 1) 30) := ok_iconst (by decide +kernel : decode (mb_ 194) 29 = .ok (.iconst 1, 1)) ⟨by decide, by decide⟩
theorem ok_X12_may1_30 : ok_S 194 30 (sf_st 0 4 32) := ok_istore (by decide +kernel : decode (mb_ 194) 30 = .ok (.istore 4, 2))
theorem ok_X12_may1_32 : ok_S 194 32 (sf_push (0, 0) 33) := ok_iconst (by decide +kernel : decode (mb_ 194) 32 = .ok (.iconst 0, 1)) ⟨by decide, by decide⟩
theorem ok_X12_may1_33 : ok_S 194 33 (sf_st 0 5 35) := ok_istore (by decide +kernel : decode (mb_ 194) 33 = .ok (.istore 5, 2))
theorem ok_X12_may1_35 : ok_S 194 35 (sf_ld 0 5 37) := ok_iload (by decide +kernel : decode (mb_ 194) 35 = .ok (.iload 5, 2))
theorem ok_X12_may1_37 : ok_S 194 37 (sf_ld 2 0 38) := ok_aload_n (by decide +kernel : decode (mb_ 194) 37 = .ok (.aload_n 0, 1)) rfl
theorem ok_X12_may1_38 : ok_S 194 38 (sf_gr 13 13 0 41) := ok_gr fd_13_0 (by decide +kernel : decode (mb_ 194) 38 = .ok (.getfield 7, 3)) tw_1126 (Or.inl rfl) rfl
theorem ok_X12_may1_41 : ok_S 194 41 (sf_push (0, 0) 42) := ok_iconst (by decide +kernel : decode (mb_ 194) 41 = .ok (.iconst 0, 1)) ⟨by decide, by decide⟩
theorem ok_X12_may1_42 : ok_S 194 42 (sf_iald 43) := ok_iald (by decide +kernel : decode (mb_ 194) 42 = .ok (.iaload, 1))
theorem ok_X12_may1_43 : ok_S 194 43 (sf_ic 3 85 46) := ok_ic3 (by decide +kernel : decode (mb_ 194) 43 = .ok (.if_icmp .ge 42, 3)) (by decide)
theorem ok_X12_may1_46 : ok_S 194 46 (sf_ld 0 4 48) := ok_iload (by decide +kernel : decode (mb_ 194) 46 = .ok (.iload 4, 2))
theorem ok_X12_may1_48 : ok_S 194 48 (sf_if 0 85 51) := ok_if0 (by decide +kernel : decode (mb_ 194) 48 = .ok (.ifCond .eq 37, 3)) (by decide)
theorem ok_X12_may1_51 : ok_S 194 51 (sf_ld 2 0 52) := ok_aload_n (by decide +kernel : decode (mb_ 194) 51 = .ok (.aload_n 0, 1)) rfl
theorem ok_X12_may1_52 : ok_S 194 52 (sf_ld 0 5 54) := ok_iload (by decide +kernel : decode (mb_ 194) 52 = .ok (.iload 5, 2))
theorem ok_X12_may1_54 : ok_S 194 54 (sf_push (0, 1) 55) := ok_iconst (by decide +kernel : decode (mb_ 194) 54 = .ok (.iconst 1, 1)) ⟨by decide, by decide⟩
theorem ok_X12_may1_55 : ok_S 194 55 (sf_cv 13 [2, 0, 0] 161 58) := ok_cv mt_161 cl_13 (by decide +kernel : decode (mb_ 194) 55 = .ok (.invokevirtual 162, 3)) tw_1285 tw_1287 ts_40 tw_7 rfl (by decide +kernel) (mh_ok rfl) (by decide) (by decide)
theorem ok_X12_may1_58 : ok_S 194 58 (sf_ld 0 1 59) := ok_iload_n (by decide +kernel : decode (mb_ 194) 58 = .ok (.iload_n 1, 1)) rfl
theorem ok_X12_may1_59 : ok_S 194 59 (sf_ic 1 72 62) := ok_ic1 (by decide +kernel : decode (mb_ 194) 59 = .ok (.if_icmp .ne 13, 3)) (by decide)
theorem ok_X12_may1_62 : ok_S 194 62 (sf_ld 2 0 63) := ok_aload_n (by decide +kernel : decode (mb_ 194) 62 = .ok (.aload_n 0, 1)) rfl
theorem ok_X12_may1_63 : ok_S 194 63 (sf_ld 0 5 65) := ok_iload (by decide +kernel : decode (mb_ 194) 63 = .ok (.iload 5, 2))
theorem ok_X12_may1_65 : ok_S 194 65 (sf_ld 0 3 66) := ok_iload_n (by decide +kernel : decode (mb_ 194) 65 = .ok (.iload_n 3, 1)) rfl
theorem ok_X12_may1_66 : ok_S 194 66 (sf_cv 13 [2, 0, 0] 184 69) := ok_cv mt_184 cl_13 (by decide +kernel : decode (mb_ 194) 66 = .ok (.invokevirtual 182, 3)) tw_1330 tw_1332 ts_45 tw_7 rfl (by decide +kernel) (mh_ok rfl) (by decide) (by decide)
theorem ok_X12_may1_69 : ok_S 194 69 (sf_if 0 76 72) := ok_if0 (by decide +kernel : decode (mb_ 194) 69 = .ok (.ifCond .eq 7, 3)) (by decide)
theorem ok_X12_may1_72 : ok_S 194 72 (sf_push (0, 1) 73) := ok_iconst (by decide +kernel : decode (mb_ 194) 72 = .ok (.iconst 1, 1)) ⟨by decide, by decide⟩
theorem ok_X12_may1_73 : ok_S 194 73 (sf_go 77) := ok_goto (by decide +kernel : decode (mb_ 194) 73 = .ok (.goto 4, 3)) (by decide)
theorem ok_X12_may1_76 : ok_S 194 76 (sf_push (0, 0) 77) := ok_iconst (by decide +kernel : decode (mb_ 194) 76 = .ok (.iconst 0, 1)) ⟨by decide, by decide⟩
theorem ok_X12_may1_77 : ok_S 194 77 (sf_st 0 4 79) := ok_istore (by decide +kernel : decode (mb_ 194) 77 = .ok (.istore 4, 2))
theorem ok_X12_may1_79 : ok_S 194 79 (sf_inc 5 1 82) := ok_iinc (by decide +kernel : decode (mb_ 194) 79 = .ok (.iinc 5 1, 3))
theorem ok_X12_may1_82 : ok_S 194 82 (sf_go 35) := ok_goto (by decide +kernel : decode (mb_ 194) 82 = .ok (.goto (-47), 3)) (by decide)
theorem ok_X12_may1_85 : ok_S 194 85 (sf_ld 0 2 86) := ok_iload_n (by decide +kernel : decode (mb_ 194) 85 = .ok (.iload_n 2, 1)) rfl
theorem ok_X12_may1_86 : ok_S 194 86 (sf_ld 0 4 88) := ok_iload (by decide +kernel : decode (mb_ 194) 86 = .ok (.iload 4, 2))
theorem ok_X12_may1_88 : ok_S 194 88 (sf_if 0 97 91) := ok_if0 (by decide +kernel : decode (mb_ 194) 88 = .ok (.ifCond .eq 9, 3)) (by decide)
theorem ok_X12_may1_91 : ok_S 194 91 (sf_push (0, 1) 92) := ok_iconst (by decide +kernel : decode (mb_ 194) 91 = .ok (.iconst 1, 1)) ⟨by decide, by decide⟩
theorem ok_X12_may1_92 : ok_S 194 92 (sf_ld 0 3 93) := ok_iload_n (by decide +kernel : decode (mb_ 194) 92 = .ok (.iload_n 3, 1)) rfl
theorem ok_X12_may1_93 : ok_S 194 93 (sf_i2 mx_shl 94) := ok_ishl (by decide +kernel : decode (mb_ 194) 93 = .ok (.ishl, 1))
theorem ok_X12_may1_94 : ok_S 194 94 (sf_go 98) := ok_goto (by decide +kernel : decode (mb_ 194) 94 = .ok (.goto 4, 3)) (by decide)
theorem ok_X12_may1_97 : ok_S 194 97 (sf_push (0, 0) 98) := ok_iconst (by decide +kernel : decode (mb_ 194) 97 = .ok (.iconst 0, 1)) ⟨by decide, by decide⟩
theorem ok_X12_may1_98 : ok_S 194 98 (sf_i2 mx_or 99) := ok_ior (by decide +kernel : decode (mb_ 194) 98 = .ok (.ior, 1))
theorem ok_X12_may1_99 : ok_S 194 99 (sf_st 0 2 100) := ok_istore_n (by decide +kernel : decode (mb_ 194) 99 = .ok (.istore_n 2, 1)) rfl
theorem ok_X12_may1_100 : ok_S 194 100 (sf_inc 3 1 103) := ok_iinc (by decide +kernel : decode (mb_ 194) 100 = .ok (.iinc 3 1, 3))
theorem ok_X12_may1_103 : ok_S 194 103 (sf_go 13) := ok_goto (by decide +kernel : decode (mb_ 194) 103 = .ok (.goto (-90), 3)) (by decide)
theorem ok_X12_may1_106 : ok_S 194 106 (sf_ld 0 2 107) := ok_iload_n (by decide +kernel : decode (mb_ 194) 106 = .ok (.iload_n 2, 1)) rfl
theorem ok_X12_may1_107 : ok_S 194 107 (sf_ret 0) := ok_ret0 (by decide +kernel : decode (mb_ 194) 107 = .ok (.ireturn, 1)) rfl
theorem ok_X12_may1 (pc : Nat) : ok_S 194 pc (cd_X12_may1 pc) :=
  (ok_bf (ok_bf (ok_bf (ok_bf (ok_bf (ok_bf (ok_bf (ok_lf pc ok_X12_may1_107) (ok_lf pc ok_X12_may1_106)) (ok_lf pc ok_X12_may1_103)) (ok_bf (ok_lf pc ok_X12_may1_100) (ok_lf pc ok_X12_may1_99))) (ok_bf (ok_bf (ok_lf pc ok_X12_may1_98) (ok_lf pc ok_X12_may1_97)) (ok_bf (ok_lf pc ok_X12_may1_94) (ok_lf pc ok_X12_may1_93)))) (ok_bf (ok_bf (ok_bf (ok_lf pc ok_X12_may1_92) (ok_lf pc ok_X12_may1_91)) (ok_bf (ok_lf pc ok_X12_may1_88) (ok_lf pc ok_X12_may1_86))) (ok_bf (ok_bf (ok_lf pc ok_X12_may1_85) (ok_lf pc ok_X12_may1_82)) (ok_bf (ok_lf pc ok_X12_may1_79) (ok_lf pc ok_X12_may1_77))))) (ok_bf (ok_bf (ok_bf (ok_bf (ok_lf pc ok_X12_may1_76) (ok_lf pc ok_X12_may1_73)) (ok_bf (ok_lf pc ok_X12_may1_72) (ok_lf pc ok_X12_may1_69))) (ok_bf (ok_bf (ok_lf pc ok_X12_may1_66) (ok_lf pc ok_X12_may1_65)) (ok_bf (ok_lf pc ok_X12_may1_63) (ok_lf pc ok_X12_may1_62)))) (ok_bf (ok_bf (ok_bf (ok_lf pc ok_X12_may1_59) (ok_lf pc ok_X12_may1_58)) (ok_bf (ok_lf pc ok_X12_may1_55) (ok_lf pc ok_X12_may1_54))) (ok_bf (ok_bf (ok_lf pc ok_X12_may1_52) (ok_lf pc ok_X12_may1_51)) (ok_bf (ok_lf pc ok_X12_may1_48) (ok_lf pc ok_X12_may1_46)))))) (ok_bf (ok_bf (ok_bf (ok_bf (ok_bf (ok_bf (ok_lf pc ok_X12_may1_43) (ok_lf pc ok_X12_may1_42)) (ok_lf pc ok_X12_may1_41)) (ok_bf (ok_lf pc ok_X12_may1_38) (ok_lf pc ok_X12_may1_37))) (ok_bf (ok_bf (ok_lf pc ok_X12_may1_35) (ok_lf pc ok_X12_may1_33)) (ok_bf (ok_lf pc ok_X12_may1_32) (ok_lf pc ok_X12_may1_30)))) (ok_bf (ok_bf (ok_bf (ok_lf pc ok_X12_may1_29) (ok_lf pc ok_X12_may1_26)) (ok_bf (ok_lf pc ok_X12_may1_25) (ok_lf pc ok_X12_may1_24))) (ok_bf (ok_bf (ok_lf pc ok_X12_may1_23) (ok_lf pc ok_X12_may1_22)) (ok_bf (ok_lf pc ok_X12_may1_21) (ok_lf pc ok_X12_may1_20))))) (ok_bf (ok_bf (ok_bf (ok_bf (ok_lf pc ok_X12_may1_19) (ok_lf pc ok_X12_may1_18)) (ok_bf (ok_lf pc ok_X12_may1_15) (ok_lf pc ok_X12_may1_14))) (ok_bf (ok_bf (ok_lf pc ok_X12_may1_13) (ok_lf pc ok_X12_may1_12)) (ok_bf (ok_lf pc ok_X12_may1_11) (ok_lf pc ok_X12_may1_10)))) (ok_bf (ok_bf (ok_bf (ok_lf pc ok_X12_may1_9) (ok_lf pc ok_X12_may1_8)) (ok_bf (ok_lf pc ok_X12_may1_7) (ok_lf pc ok_X12_may1_6))) (ok_bf (ok_bf (ok_lf pc ok_X12_may1_3) (ok_lf pc ok_X12_may1_2)) (ok_bf (ok_lf pc ok_X12_may1_1) (ok_lf pc ok_X12_may1_0)))))))
theorem mo_X12_may1 (pc : Nat) : mo_S (cd_X12_may1 pc) :=
  (mo_bf (mo_bf (mo_bf (mo_bf (mo_bf (mo_bf (mo_bf (mo_bf mo_ret mo_no) (mo_bf mo_ld mo_no)) (mo_bf mo_go mo_no)) (mo_bf (mo_bf mo_inc mo_no) (mo_bf mo_st mo_no))) (mo_bf (mo_bf (mo_bf mo_i2 mo_no) (mo_bf mo_push mo_no)) (mo_bf (mo_bf mo_go mo_no) (mo_bf mo_i2 mo_no)))) (mo_bf (mo_bf (mo_bf (mo_bf mo_ld mo_no) (mo_bf mo_push mo_no)) (mo_bf (mo_bf mo_if mo_no) (mo_bf mo_ld mo_no))) (mo_bf (mo_bf (mo_bf mo_ld mo_no) (mo_bf mo_go mo_no)) (mo_bf (mo_bf mo_inc mo_no) (mo_bf mo_st mo_no))))) (mo_bf (mo_bf (mo_bf (mo_bf (mo_bf mo_push mo_no) (mo_bf mo_go mo_no)) (mo_bf (mo_bf mo_push mo_no) (mo_bf mo_if mo_no))) (mo_bf (mo_bf (mo_bf mo_cv mo_no) (mo_bf mo_ld mo_no)) (mo_bf (mo_bf mo_ld mo_no) (mo_bf mo_ld mo_no)))) (mo_bf (mo_bf (mo_bf (mo_bf mo_ic mo_no) (mo_bf mo_ld mo_no)) (mo_bf (mo_bf mo_cv mo_no) (mo_bf mo_push mo_no))) (mo_bf (mo_bf (mo_bf mo_ld mo_no) (mo_bf mo_ld mo_no)) (mo_bf (mo_bf mo_if mo_no) (mo_bf mo_ld mo_no)))))) (mo_bf (mo_bf (mo_bf (mo_bf (mo_bf (mo_bf (mo_bf mo_ic mo_no) (mo_bf mo_iald mo_no)) (mo_bf mo_push mo_no)) (mo_bf (mo_bf mo_gr mo_no) (mo_bf mo_ld mo_no))) (mo_bf (mo_bf (mo_bf mo_ld mo_no) (mo_bf mo_st mo_no)) (mo_bf (mo_bf mo_push mo_no) (mo_bf mo_st mo_no)))) (mo_bf (mo_bf (mo_bf (mo_bf mo_push mo_no) (mo_bf mo_ic mo_no)) (mo_bf (mo_bf mo_iald mo_no) (mo_bf mo_i2 mo_no))) (mo_bf (mo_bf (mo_bf mo_push mo_no) (mo_bf mo_i2 mo_no)) (mo_bf (mo_bf mo_i2 mo_no) (mo_bf mo_ld mo_no))))) (mo_bf (mo_bf (mo_bf (mo_bf (mo_bf mo_push mo_no) (mo_bf mo_push mo_no)) (mo_bf (mo_bf mo_gr mo_no) (mo_bf mo_ld mo_no))) (mo_bf (mo_bf (mo_bf mo_ld mo_no) (mo_bf mo_st mo_no)) (mo_bf (mo_bf mo_iald mo_no) (mo_bf mo_i2 mo_no)))) (mo_bf (mo_bf (mo_bf (mo_bf mo_i2 mo_no) (mo_bf mo_ld mo_no)) (mo_bf (mo_bf mo_push mo_no) (mo_bf mo_push mo_no))) (mo_bf (mo_bf (mo_bf mo_gr mo_no) (mo_bf mo_ld mo_no)) (mo_bf (mo_bf mo_st mo_no) (mo_bf mo_push mo_no)))))))
theorem ok_X12_findWorlds_0 : ok_S 195 0 (sf_push (0, 0) 1) := ok_iconst (by decide +kernel : decode (mb_ 195) 0 = .ok (.iconst 0, 1)) ⟨by decide, by decide⟩
theorem ok_X12_findWorlds_1 : ok_S 195 1 (sf_st 0 3 2) := ok_istore_n (by decide +kernel : decode (mb_ 195) 1 = .ok (.istore_n 3, 1)) rfl
theorem ok_X12_findWorlds_2 : ok_S 195 2 (sf_ld 0 3 3) := ok_iload_n (by decide +kernel : decode (mb_ 195) 2 = .ok (.iload_n 3, 1)) rfl
theorem ok_X12_findWorlds_3 : ok_S 195 3 (sf_push (0, 3) 4) := ok_iconst (by decide +kernel : decode (mb_ 195) 3 = .ok (.iconst 3, 1)) ⟨by decide, by decide⟩
theorem ok_X12_findWorlds_4 : ok_S 195 4 (sf_ic 3 31 7) := ok_ic3 (by decide +kernel : decode (mb_ 195) 4 = .ok (.if_icmp .ge 27, 3)) (by decide)
theorem ok_X12_findWorlds_7 : ok_S 195 7 (sf_ld 2 0 8) := ok_aload_n (by decide +kernel : decode (mb_ 195) 7 = .ok (.aload_n 0, 1)) rfl
theorem ok_X12_findWorlds_8 : ok_S 195 8 (sf_gr 13 13 12 11) := ok_gr fd_13_12 (by decide +kernel : decode (mb_ 195) 8 = .ok (.getfield 25, 3)) tw_1138 (Or.inl rfl) rfl
theorem ok_X12_findWorlds_11 : ok_S 195 11 (sf_ld 0 3 12) := ok_iload_n (by decide +kernel : decode (mb_ 195) 11 = .ok (.iload_n 3, 1)) rfl
theorem ok_X12_findWorlds_12 : ok_S 195 12 (sf_ld 2 0 13) := ok_aload_n (by decide +kernel : decode (mb_ 195) 12 = .ok (.aload_n 0, 1)) rfl
theorem ok_X12_findWorlds_13 : ok_S 195 13 (sf_ld 0 3 14) := ok_iload_n (by decide +kernel : decode (mb_ 195) 13 = .ok (.iload_n 3, 1)) rfl
theorem ok_X12_findWorlds_14 : ok_S 195 14 (sf_cv 13 [2, 0] 194 17) := ok_cv mt_194 cl_13 (by decide +kernel : decode (mb_ 195) 14 = .ok (.invokevirtual 198, 3)) tw_1362 tw_1364 ts_49 tw_7 rfl (by decide +kernel) (mh_ok rfl) (by decide) (by decide)
theorem ok_X12_findWorlds_17 : ok_S 195 17 (sf_iast 18) := ok_iast (by decide +kernel : decode (mb_ 195) 17 = .ok (.iastore, 1))
theorem ok_X12_findWorlds_18 : ok_S 195 18 (sf_ld 2 0 19) := ok_aload_n (by decide +kernel : decode (mb_ 195) 18 = .ok (.aload_n 0, 1)) rfl
theorem ok_X12_findWorlds_19 : ok_S 195 19 (sf_gr 13 13 13 22) := ok_gr fd_13_13 (by decide +kernel : decode (mb_ 195) 19 = .ok (.getfield 28, 3)) tw_1139 (Or.inl rfl) rfl
theorem ok_X12_findWorlds_22 : ok_S 195 22 (sf_ld 0 3 23) := ok_iload_n (by decide +kernel : decode (mb_ 195) 22 = .ok (.iload_n 3, 1)) rfl
theorem ok_X12_findWorlds_23 : ok_S 195 23 (sf_push (0, 0) 24) := ok_iconst (by decide +kernel : decode (mb_ 195) 23 = .ok (.iconst 0, 1)) ⟨by decide, by decide⟩
theorem ok_X12_findWorlds_24 : ok_S 195 24 (sf_iast 25) := ok_iast (by decide +kernel : decode (mb_ 195) 24 = .ok (.iastore, 1))
theorem ok_X12_findWorlds_25 : ok_S 195 25 (sf_inc 3 1 28) := ok_iinc (by decide +kernel : decode (mb_ 195) 25 = .ok (.iinc 3 1, 3))
theorem ok_X12_findWorlds_28 : ok_S 195 28 (sf_go 2) := ok_goto (by decide +kernel : decode (mb_ 195) 28 = .ok (.goto (-26), 3)) (by decide)
theorem ok_X12_findWorlds_31 : ok_S 195 31 (sf_push (0, 0) 32) := ok_iconst (by decide +kernel : decode (mb_ 195) 31 = .ok (.iconst 0, 1)) ⟨by decide, by decide⟩
theorem ok_X12_findWorlds_32 : ok_S 195 32 (sf_st 0 3 33) := ok_istore_n (by decide +kernel : decode (mb_ 195) 32 = .ok (.istore_n 3, 1)) rfl
theorem ok_X12_findWorlds_33 : ok_S 195 33 (sf_push (0, 2) 34) := ok_iconst (by decide +kernel : decode (mb_ 195) 33 = .ok (.iconst 2, 1)) ⟨by decide, by decide⟩
theorem ok_X12_findWorlds_34 : ok_S 195 34 (sf_st 0 4 36) := ok_istore (by decide +kernel : decode (mb_ 195) 34 = .ok (.istore 4, 2))
theorem ok_X12_findWorlds_36 : ok_S 195 36 (sf_ld 0 4 38) := ok_iload (by decide +kernel : decode (mb_ 195) 36 = .ok (.iload 4, 2))
theorem ok_X12_findWorlds_38 : ok_S 195 38 (sf_push (0, 16) 40) := ok_bipush (by decide +kernel : decode (mb_ 195) 38 = .ok (.bipush 16, 2)) ⟨by decide, by decide⟩ (by decide +kernel)
theorem ok_X12_findWorlds_40 : ok_S 195 40 (sf_ic 4 207 43) := ok_ic4 (by decide +kernel : decode (mb_ 195) 40 = .ok (.if_icmp .gt 167, 3)) (by decide)
theorem ok_X12_findWorlds_43 : ok_S 195 43 (sf_push (0, 2) 44) := ok_iconst (by decide +kernel : decode (mb_ 195) 43 = .ok (.iconst 2, 1)) ⟨by decide, by decide⟩
theorem ok_X12_findWorlds_44 : ok_S 195 44 (sf_st 0 5 46) := ok_istore (by decide +kernel : decode (mb_ 195) 44 = .ok (.istore 5, 2))
theorem ok_X12_findWorlds_46 : ok_S 195 46 (sf_ld 0 5 48) := ok_iload (by decide +kernel : decode (mb_ 195) 46 = .ok (.iload 5, 2))
theorem ok_X12_findWorlds_48 : ok_S 195 48 (sf_push (0, 16) 50) := ok_bipush (by decide +kernel : decode (mb_ 195) 48 = .ok (.bipush 16, 2)) ⟨by decide, by decide⟩ (by decide +kernel)
theorem ok_X12_findWorlds_50 : ok_S 195 50 (sf_ic 4 201 53) := ok_ic4 (by decide +kernel : decode (mb_ 195) 50 = .ok (.if_icmp .gt 151, 3)) (by decide)
theorem ok_X12_findWorlds_53 : ok_S 195 53 (sf_ld 2 0 54) := ok_aload_n (by decide +kernel : decode (mb_ 195) 53 = .ok (.aload_n 0, 1)) rfl
theorem ok_X12_findWorlds_54 : ok_S 195 54 (sf_gr 13 13 12 57) := ok_gr fd_13_12 (by decide +kernel : decode (mb_ 195) 54 = .ok (.getfield 25, 3)) tw_1138 (Or.inl rfl) rfl
theorem ok_X12_findWorlds_57 : ok_S 195 57 (sf_push (0, 0) 58) := ok_iconst (by decide +kernel : decode (mb_ 195) 57 = .ok (.iconst 0, 1)) ⟨by decide, by decide⟩
theorem ok_X12_findWorlds_58 : ok_S 195 58 (sf_iald 59) := ok_iald (by decide +kernel : decode (mb_ 195) 58 = .ok (.iaload, 1))
theorem ok_X12_findWorlds_59 : ok_S 195 59 (sf_ld 0 4 61) := ok_iload (by decide +kernel : decode (mb_ 195) 59 = .ok (.iload 4, 2))
theorem ok_X12_findWorlds_61 : ok_S 195 61 (sf_i2 mx_shr 62) := ok_ishr (by decide +kernel : decode (mb_ 195) 61 = .ok (.ishr, 1))
theorem ok_X12_findWorlds_62 : ok_S 195 62 (sf_push (0, 1) 63) := ok_iconst (by decide +kernel : decode (mb_ 195) 62 = .ok (.iconst 1, 1)) ⟨by decide, by decide⟩
theorem ok_X12_findWorlds_63 : ok_S 195 63 (sf_i2 mx_and 64) := ok_iand (by decide +kernel : decode (mb_ 195) 63 = .ok (.iand, 1))
theorem ok_X12_findWorlds_64 : ok_S 195 64 (sf_push (0, 1) 65) := ok_iconst (by decide +kernel : decode (mb_ 195) 64 = .ok (.iconst 1, 1)) ⟨by decide, by decide⟩
theorem ok_X12_findWorlds_65 : ok_S 195 65 (sf_ic 1 201 68) := ok_ic1 (by decide +kernel : decode (mb_ 195) 65 = .ok (.if_icmp .ne 136, 3)) (by decide)
theorem ok_X12_findWorlds_68 : ok_S 195 68 (sf_push (0, 2) 69) := ok_iconst (by decide +kernel : decode (mb_ 195) 68 = .ok (.iconst 2, 1)) ⟨by decide, by decide⟩
theorem ok_X12_findWorlds_69 : ok_S 195 69 (sf_st 0 6 71) := ok_istore (by decide +kernel : decode (mb_ 195) 69 = .ok (.istore 6, 2))
theorem ok_X12_findWorlds_71 : ok_S 195 71 (sf_ld 0 6 73) := ok_iload (by decide +kernel : decode (mb_ 195) 71 = .ok (.iload 6, 2))
theorem ok_X12_findWorlds_73 : ok_S 195 73 (sf_push (0, 16) 75) := ok_bipush (by decide +kernel : decode (mb_ 195) 73 = .ok (.bipush 16, 2)) ⟨by decide, by decide⟩ (by decide +kernel)
theorem ok_X12_findWorlds_75 : ok_S 195 75 (sf_ic 4 195 78) := ok_ic4 (by decide +kernel : decode (mb_ 195) 75 = .ok (.if_icmp .gt 120, 3)) (by decide)
theorem ok_X12_findWorlds_78 : ok_S 195 78 (sf_ld 2 0 79) := ok_aload_n (by decide +kernel : decode (mb_ 195) 78 = .ok (.aload_n 0, 1)) rfl
theorem ok_X12_findWorlds_79 : ok_S 195 79 (sf_gr 13 13 12 82) := ok_gr fd_13_12 (by decide +kernel : decode (mb_ 195) 79 = .ok (.getfield 25, 3)) tw_1138 (Or.inl rfl) rfl
theorem ok_X12_findWorlds_82 : ok_S 195 82 (sf_push (0, 1) 83) := ok_iconst (by decide +kernel : decode (mb_ 195) 82 = .ok (.iconst 1, 1)) ⟨by decide, by decide⟩
theorem ok_X12_findWorlds_83 : ok_S 195 83 (sf_iald 84) := ok_iald (by decide +kernel : decode (mb_ 195) 83 = .ok (.iaload, 1))
theorem ok_X12_findWorlds_84 : ok_S 195 84 (sf_ld 0 5 86) := ok_iload (by decide +kernel : decode (mb_ 195) 84 = .ok (.iload 5, 2))
theorem ok_X12_findWorlds_86 : ok_S 195 86 (sf_i2 mx_shr 87) := ok_ishr (by decide +kernel : decode (mb_ 195) 86 = .ok (.ishr, 1))
theorem ok_X12_findWorlds_87 : ok_S 195 87 (sf_push (0, 1) 88) := ok_iconst (by decide +kernel : decode (mb_ 195) 87 = .ok (.iconst 1, 1)) ⟨by decide, by decide⟩
theorem ok_X12_findWorlds_88 : ok_S 195 88 (sf_i2 mx_and 89) := ok_iand (by decide +kernel : decode (mb_ 195) 88 = .ok (.iand, 1))
theorem ok_X12_findWorlds_89 : ok_S 195 89 (sf_push (0, 1) 90) := ok_iconst (by decide +kernel : decode (mb_ 195) 89 = .ok (.iconst 1, 1)) ⟨by decide, by decide⟩
theorem ok_X12_findWorlds_90 : ok_S 195 90 (sf_ic 1 195 93) := ok_ic1 (by decide +kernel : decode (mb_ 195) 90 = .ok (.if_icmp .ne 105, 3)) (by decide)
theorem ok_X12_findWorlds_93 : ok_S 195 93 (sf_ld 2 0 94) := ok_aload_n (by decide +kernel : decode (mb_ 195) 93 = .ok (.aload_n 0, 1)) rfl
theorem ok_X12_findWorlds_94 : ok_S 195 94 (sf_gr 13 13 11 97) := ok_gr fd_13_11 (by decide +kernel : decode (mb_ 195) 94 = .ok (.getfield 22, 3)) tw_1137 (Or.inl rfl) rfl
theorem ok_X12_findWorlds_97 : ok_S 195 97 (sf_push (0, 0) 98) := ok_iconst (by decide +kernel : decode (mb_ 195) 97 = .ok (.iconst 0, 1)) ⟨by decide, by decide⟩
theorem ok_X12_findWorlds_98 : ok_S 195 98 (sf_ld 0 4 100) := ok_iload (by decide +kernel : decode (mb_ 195) 98 = .ok (.iload 4, 2))
theorem ok_X12_findWorlds_100 : ok_S 195 100 (sf_iast 101) := ok_iast (by decide +kernel : decode (mb_ 195) 100 = .ok (.iastore, 1))
theorem ok_X12_findWorlds_101 : ok_S 195 101 (sf_ld 2 0 102) := ok_aload_n (by decide +kernel : decode (mb_ 195) 101 = .ok (.aload_n 0, 1)) rfl
theorem ok_X12_findWorlds_102 : ok_S 195 102 (sf_gr 13 13 11 105) := ok_gr fd_13_11 (by decide +kernel : decode (mb_ 195) 102 = .ok (.getfield 22, 3)) tw_1137 (Or.inl rfl) rfl
theorem ok_X12_findWorlds_105 : ok_S 195 105 (sf_push (0, 1) 106) := ok_iconst (by decide +kernel : decode (mb_ 195) 105 = .ok (.iconst 1, 1)) ⟨by decide, by decide⟩
theorem ok_X12_findWorlds_106 : ok_S 195 106 (sf_ld 0 5 108) := ok_iload (by decide +kernel : decode (mb_ 195) 106 = .ok (.iload 5, 2))
theorem ok_X12_findWorlds_108 : ok_S 195 108 (sf_iast 109) := ok_iast (by decide +kernel : decode (mb_ 195) 108 = .ok (.iastore, 1))
theorem ok_X12_findWorlds_109 : ok_S 195 109 (sf_ld 2 0 110) := ok_aload_n (by decide +kernel : decode (mb_ 195) 109 = .ok (.aload_n 0, 1)) rfl
theorem ok_X12_findWorlds_110 : ok_S 195 110 (sf_gr 13 13 11 113) := ok_gr fd_13_11 (by decide +kernel : decode (mb_ 195) 110 = .ok (.getfield 22, 3)) tw_1137 (Or.inl rfl) rfl
theorem ok_X12_findWorlds_113 : ok_S 195 113 (sf_push (0, 2) 114) := ok_iconst (by decide +kernel : decode (mb_ 195) 113 = .ok (.iconst 2, 1)) ⟨by decide, by decide⟩
theorem ok_X12_findWorlds_114 : ok_S 195 114 (sf_ld 0 6 116) := ok_iload (by decide +kernel : decode (mb_ 195) 114 = .ok (.iload 6, 2))
theorem ok_X12_findWorlds_116 : ok_S 195 116 (sf_iast 117) := ok_iast (by decide +kernel : decode (mb_ 195) 116 = .ok (.iastore, 1))
theorem ok_X12_findWorlds_117 : ok_S 195 117 (sf_ld 2 0 118) := ok_aload_n (by decide +kernel : decode (mb_ 195) 117 = .ok (.aload_n 0, 1)) rfl
theorem ok_X12_findWorlds_118 : ok_S 195 118 (sf_gr 13 13 12 121) := ok_gr fd_13_12 (by decide +kernel : decode (mb_ 195) 118 = .ok (.getfield 25, 3)) tw_1138 (Or.inl rfl) rfl
theorem ok_X12_findWorlds_121 : ok_S 195 121 (sf_push (0, 2) 122) := ok_iconst (by decide +kernel : decode (mb_ 195) 121 = .ok (.iconst 2, 1)) ⟨by decide, by decide⟩
theorem ok_X12_findWorlds_122 : ok_S 195 122 (sf_iald 123) := ok_iald (by decide +kernel : decode (mb_ 195) 122 = .ok (.iaload, 1))
theorem ok_X12_findWorlds_123 : ok_S 195 123 (sf_ld 0 6 125) := ok_iload (by decide +kernel : decode (mb_ 195) 123 = .ok (.iload 6, 2))
theorem ok_X12_findWorlds_125 : ok_S 195 125 (sf_i2 mx_shr 126) := ok_ishr (by decide +kernel : decode (mb_ 195) 125 = .ok (.ishr, 1))
theorem ok_X12_findWorlds_126 : ok_S 195 126 (sf_push (0, 1) 127) := ok_iconst (by decide +kernel : decode (mb_ 195) 126 = .ok (.iconst 1, 1)) ⟨by decide, by decide⟩
theorem ok_X12_findWorlds_127 : ok_S 195 127 (sf_i2 mx_and 128) := ok_iand (by decide +kernel : decode (mb_ 195) 127 = .ok (.iand, 1))
theorem ok_X12_findWorlds_128 : ok_S 195 128 (sf_push (0, 1) 129) := ok_iconst (by decide +kernel : decode (mb_ 195) 128 = .ok (.iconst 1, 1)) ⟨by decide, by decide⟩
theorem ok_X12_findWorlds_129 : ok_S 195 129 (sf_ic 1 189 132) := ok_ic1 (by decide +kernel : decode (mb_ 195) 129 = .ok (.if_icmp .ne 60, 3)) (by decide)
theorem ok_X12_findWorlds_132 : ok_S 195 132 (sf_ld 2 0 133) := ok_aload_n (by decide +kernel : decode (mb_ 195) 132 = .ok (.aload_n 0, 1)) rfl
theorem ok_X12_findWorlds_133 : ok_S 195 133 (sf_ld 0 1 134) := ok_iload_n (by decide +kernel : decode (mb_ 195) 133 = .ok (.iload_n 1, 1)) rfl
theorem ok_X12_findWorlds_134 : ok_S 195 134 (sf_cv 13 [2, 0] 193 137) := ok_cv mt_193 cl_13 (by decide +kernel : decode (mb_ 195) 134 = .ok (.invokevirtual 201, 3)) tw_1366 tw_1368 ts_50 tw_7 rfl (by decide +kernel) (mh_ok rfl) (by decide) (by decide)
theorem ok_X12_findWorlds_137 : ok_S 195 137 (sf_if 0 189 140) := ok_if0 (by decide +kernel : decode (mb_ 195) 137 = .ok (.ifCond .eq 52, 3)) (by decide)
theorem ok_X12_findWorlds_140 : ok_S 195 140 (sf_ld 2 0 141) := ok_aload_n (by decide +kernel : decode (mb_ 195) 140 = .ok (.aload_n 0, 1)) rfl
theorem ok_X12_findWorlds_141 : ok_S 195 141 (sf_gr 13 13 13 144) := ok_gr fd_13_13 (by decide +kernel : decode (mb_ 195) 141 = .ok (.getfield 28, 3)) tw_1139 (Or.inl rfl) rfl
theorem ok_X12_findWorlds_144 : ok_S 195 144 (sf_push (0, 0) 145) := ok_iconst (by decide +kernel : decode (mb_ 195) 144 = .ok (.iconst 0, 1)) ⟨by decide, by decide⟩
theorem ok_X12_findWorlds_145 : ok_S 195 145 (sf_dup2 146) := ok_dup2 (by decide +kernel : decode (mb_ 195) 145 = .ok (.dup2, 1))
theorem ok_X12_findWorlds_146 : ok_S 195 146 (sf_iald 147) := ok_iald (by decide +kernel : decode (mb_ 195) 146 = .ok (.iaload, 1))
theorem ok_X12_findWorlds_147 : ok_S 195 147 (sf_push (0, 1) 148) := ok_iconst (by decide +kernel : decode (mb_ 195) 147 = .ok (.iconst 1, 1)) ⟨by decide, by decide⟩
theorem ok_X12_findWorlds_148 : ok_S 195 148 (sf_ld 0 4 150) := ok_iload (by decide +kernel : decode (mb_ 195) 148 = .ok (.iload 4, 2))
theorem ok_X12_findWorlds_150 : ok_S 195 150 (sf_i2 mx_shl 151) := ok_ishl (by decide +kernel : decode (mb_ 195) 150 = .ok (.ishl, 1))
theorem ok_X12_findWorlds_151 : ok_S 195 151 (sf_i2 mx_or 152) := ok_ior (by decide +kernel : decode (mb_ 195) 151 = .ok (.ior, 1))
theorem ok_X12_findWorlds_152 : ok_S 195 152 (sf_iast 153) := ok_iast (by decide +kernel : decode (mb_ 195) 152 = .ok (.iastore, 1))
theorem ok_X12_findWorlds_153 : ok_S 195 153 (sf_ld 2 0 154) := ok_aload_n (by decide +kernel : decode (mb_ 195) 153 = .ok (.aload_n 0, 1)) rfl
theorem ok_X12_findWorlds_154 : ok_S 195 154 (sf_gr 13 13 13 157) := ok_gr fd_13_13 (by decide +kernel : decode (mb_ 195) 154 = .ok (.getfield 28, 3)) tw_1139 (Or.inl rfl) rfl
theorem ok_X12_findWorlds_157 : ok_S 195 157 (sf_push (0, 1) 158) := ok_iconst (by decide +kernel : decode (mb_ 195) 157 = .ok (.iconst 1, 1)) ⟨by decide, by decide⟩
theorem ok_X12_findWorlds_158 : ok_S 195 158 (sf_dup2 159) := ok_dup2 (by decide +kernel : decode (mb_ 195) 158 = .ok (.dup2, 1))
theorem ok_X12_findWorlds_159 : ok_S 195 159 (sf_iald 160) := ok_iald (by decide +kernel : decode (mb_ 195) 159 = .ok (.iaload, 1))
theorem ok_X12_findWorlds_160 : ok_S 195 160 (sf_push (0, 1) 161) := ok_iconst (by decide +kernel : decode (mb_ 195) 160 = .ok (.iconst 1, 1)) ⟨by decide, by decide⟩
theorem ok_X12_findWorlds_161 : ok_S 195 161 (sf_ld 0 5 163) := ok_iload (by decide +kernel : decode (mb_ 195) 161 = .ok (.iload 5, 2))
theorem ok_X12_findWorlds_163 : ok_S 195 163 (sf_i2 mx_shl 164) := ok_ishl (by decide +kernel : decode (mb_ 195) 163 = .ok (.ishl, 1))
theorem ok_X12_findWorlds_164 : ok_S 195 164 (sf_i2 mx_or 165) := ok_ior (by decide +kernel : decode (mb_ 195) 164 = .ok (.ior, 1))
theorem ok_X12_findWorlds_165 : ok_S 195 165 (sf_iast 166) := ok_iast (by decide +kernel : decode (mb_ 195) 165 = .ok (.iastore, 1))
theorem ok_X12_findWorlds_166 : ok_S 195 166 (sf_ld 2 0 167) := ok_aload_n (by decide +kernel : decode (mb_ 195) 166 = .ok (.aload_n 0, 1)) rfl
theorem ok_X12_findWorlds_167 : ok_S 195 167 (sf_gr 13 13 13 170) := ok_gr fd_13_13 (by decide +kernel : decode (mb_ 195) 167 = .ok (.getfield 28, 3)) tw_1139 (Or.inl rfl) rfl
theorem ok_X12_findWorlds_170 : ok_S 195 170 (sf_push (0, 2) 171) := ok_iconst (by decide +kernel : decode (mb_ 195) 170 = .ok (.iconst 2, 1)) ⟨by decide, by decide⟩
theorem ok_X12_findWorlds_171 : ok_S 195 171 (sf_dup2 172) := ok_dup2 (by decide +kernel : decode (mb_ 195) 171 = .ok (.dup2, 1))
theorem ok_X12_findWorlds_172 : ok_S 195 172 (sf_iald 173) := ok_iald (by decide +kernel : decode (mb_ 195) 172 = .ok (.iaload, 1))
theorem ok_X12_findWorlds_173 : ok_S 195 173 (sf_push (0, 1) 174) := ok_iconst (by decide +kernel : decode (mb_ 195) 173 = .ok (.iconst 1, 1)) ⟨by decide, by decide⟩
theorem ok_X12_findWorlds_174 : ok_S 195 174 (sf_ld 0 6 176) := ok_iload (by decide +kernel : decode (mb_ 195) 174 = .ok (.iload 6, 2))
theorem ok_X12_findWorlds_176 : ok_S 195 176 (sf_i2 mx_shl 177) := ok_ishl (by decide +kernel : decode (mb_ 195) 176 = .ok (.ishl, 1))
theorem ok_X12_findWorlds_177 : ok_S 195 177 (sf_i2 mx_or 178) := ok_ior (by decide +kernel : decode (mb_ 195) 177 = .ok (.ior, 1))
theorem ok_X12_findWorlds_178 : ok_S 195 178 (sf_iast 179) := ok_iast (by decide +kernel : decode (mb_ 195) 178 = .ok (.iastore, 1))
theorem ok_X12_findWorlds_179 : ok_S 195 179 (sf_inc 3 1 182) := ok_iinc (by decide +kernel : decode (mb_ 195) 179 = .ok (.iinc 3 1, 3))
theorem ok_X12_findWorlds_182 : ok_S 195 182 (sf_ld 0 3 183) := ok_iload_n (by decide +kernel : decode (mb_ 195) 182 = .ok (.iload_n 3, 1)) rfl
theorem ok_X12_findWorlds_183 : ok_S 195 183 (sf_ld 0 2 184) := ok_iload_n (by decide +kernel : decode (mb_ 195) 183 = .ok (.iload_n 2, 1)) rfl
theorem ok_X12_findWorlds_184 : ok_S 195 184 (sf_ic 1 189 187) := ok_ic1 (by decide +kernel : decode (mb_ 195) 184 = .ok (.if_icmp .ne 5, 3)) (by decide)
theorem ok_X12_findWorlds_187 : ok_S 195 187 (sf_ld 0 3 188) := ok_iload_n (by decide +kernel : decode (mb_ 195) 187 = .ok (.iload_n 3, 1)) rfl
theorem ok_X12_findWorlds_188 : ok_S 195 188 (sf_ret 0) := ok_ret0 (by decide +kernel : decode (mb_ 195) 188 = .ok (.ireturn, 1)) rfl
theorem ok_X12_findWorlds_189 : ok_S 195 189 (sf_inc 6 1 192) := ok_iinc (by decide +kernel : decode (mb_ 195) 189 = .ok (.iinc 6 1, 3))
theorem ok_X12_findWorlds_192 : ok_S 195 192 (sf_go 71) := ok_goto (by decide +kernel : decode (mb_ 195) 192 = .ok (.goto (-121), 3)) (by decide)
theorem ok_X12_findWorlds_195 : ok_S 195 195 (sf_inc 5 1 198) := ok_iinc (by decide +kernel : decode (mb_ 195) 195 = .ok (.iinc 5 1, 3))
theorem ok_X12_findWorlds_198 : ok_S 195 198 (sf_go 46) := ok_goto (by decide +kernel : decode (mb_ 195) 198 = .ok (.goto (-152), 3)) (by decide)
theorem ok_X12_findWorlds_201 : ok_S 195 201 (sf_inc 4 1 204) := ok_iinc (by decide +kernel : decode (mb_ 195) 201 = .ok (.iinc 4 1, 3))
theorem ok_X12_findWorlds_204 : ok_S 195 204 (sf_go 36) := ok_goto (by decide +kernel : decode (mb_ 195) 204 = .ok (.goto (-168), 3)) (by decide)
theorem ok_X12_findWorlds_207 : ok_S 195 207 (sf_ld 0 3 208) := ok_iload_n (by decide +kernel : decode (mb_ 195) 207 = .ok (.iload_n 3, 1)) rfl
theorem ok_X12_findWorlds_208 : ok_S 195 208 (sf_ret 0) := ok_ret0 (by decide +kernel : decode (mb_ 195) 208 = .ok (.ireturn, 1)) rfl
theorem ok_X12_findWorlds (pc : Nat) : ok_S 195 pc (cd_X12_findWorlds pc) :=
  (ok_bf (ok_bf (ok_bf (ok_bf (ok_bf (ok_bf (ok_bf (ok_bf (ok_lf pc ok_X12_findWorlds_208) (ok_lf pc ok_X12_findWorlds_207)) (ok_lf pc ok_X12_findWorlds_204)) (ok_bf (ok_lf pc ok_X12_findWorlds_201) (ok_lf pc ok_X12_findWorlds_198))) (ok_bf (ok_bf (ok_lf pc ok_X12_findWorlds_195) (ok_lf pc ok_X12_findWorlds_192)) (ok_bf (ok_lf pc ok_X12_findWorlds_189) (ok_lf pc ok_X12_findWorlds_188)))) (ok_bf (ok_bf (ok_bf (ok_lf pc ok_X12_findWorlds_187) (ok_lf pc ok_X12_findWorlds_184)) (ok_bf (ok_lf pc ok_X12_findWorlds_183) (ok_lf pc ok_X12_findWorlds_182))) (ok_bf (ok_bf (ok_lf pc ok_X12_findWorlds_179) (ok_lf pc ok_X12_findWorlds_178)) (ok_bf (ok_lf pc ok_X12_findWorlds_177) (ok_lf pc ok_X12_findWorlds_176))))) (ok_bf (ok_bf (ok_bf (ok_bf (ok_lf pc ok_X12_findWorlds_174) (ok_lf pc ok_X12_findWorlds_173)) (ok_bf (ok_lf pc ok_X12_findWorlds_172) (ok_lf pc ok_X12_findWorlds_171))) (ok_bf (ok_bf (ok_lf pc ok_X12_findWorlds_170) (ok_lf pc ok_X12_findWorlds_167)) (ok_bf (ok_lf pc ok_X12_findWorlds_166) (ok_lf pc ok_X12_findWorlds_165)))) (ok_bf (ok_bf (ok_bf (ok_lf pc ok_X12_findWorlds_164) (ok_lf pc ok_X12_findWorlds_163)) (ok_bf (ok_lf pc ok_X12_findWorlds_161) (ok_lf pc ok_X12_findWorlds_160))) (ok_bf (ok_bf (ok_lf pc ok_X12_findWorlds_159) (ok_lf pc ok_X12_findWorlds_158)) (ok_bf (ok_lf pc ok_X12_findWorlds_157) (ok_lf pc ok_X12_findWorlds_154)))))) (ok_bf (ok_bf (ok_bf (ok_bf (ok_bf (ok_lf pc ok_X12_findWorlds_153) (ok_lf pc ok_X12_findWorlds_152)) (ok_bf (ok_lf pc ok_X12_findWorlds_151) (ok_lf pc ok_X12_findWorlds_150))) (ok_bf (ok_bf (ok_lf pc ok_X12_findWorlds_148) (ok_lf pc ok_X12_findWorlds_147)) (ok_bf (ok_lf pc ok_X12_findWorlds_146) (ok_lf pc ok_X12_findWorlds_145)))) (ok_bf (ok_bf (ok_bf (ok_lf pc ok_X12_findWorlds_144) (ok_lf pc ok_X12_findWorlds_141)) (ok_bf (ok_lf pc ok_X12_findWorlds_140) (ok_lf pc ok_X12_findWorlds_137))) (ok_bf (ok_bf (ok_lf pc ok_X12_findWorlds_134) (ok_lf pc ok_X12_findWorlds_133)) (ok_bf (ok_lf pc ok_X12_findWorlds_132) (ok_lf pc ok_X12_findWorlds_129))))) (ok_bf (ok_bf (ok_bf (ok_bf (ok_lf pc ok_X12_findWorlds_128) (ok_lf pc ok_X12_findWorlds_127)) (ok_bf (ok_lf pc ok_X12_findWorlds_126) (ok_lf pc ok_X12_findWorlds_125))) (ok_bf (ok_bf (ok_lf pc ok_X12_findWorlds_123) (ok_lf pc ok_X12_findWorlds_122)) (ok_bf (ok_lf pc ok_X12_findWorlds_121) (ok_lf pc ok_X12_findWorlds_118)))) (ok_bf (ok_bf (ok_bf (ok_lf pc ok_X12_findWorlds_117) (ok_lf pc ok_X12_findWorlds_116)) (ok_bf (ok_lf pc ok_X12_findWorlds_114) (ok_lf pc ok_X12_findWorlds_113))) (ok_bf (ok_bf (ok_lf pc ok_X12_findWorlds_110) (ok_lf pc ok_X12_findWorlds_109)) (ok_bf (ok_lf pc ok_X12_findWorlds_108) (ok_lf pc ok_X12_findWorlds_106))))))) (ok_bf (ok_bf (ok_bf (ok_bf (ok_bf (ok_bf (ok_lf pc ok_X12_findWorlds_105) (ok_lf pc ok_X12_findWorlds_102)) (ok_bf (ok_lf pc ok_X12_findWorlds_101) (ok_lf pc ok_X12_findWorlds_100))) (ok_bf (ok_bf (ok_lf pc ok_X12_findWorlds_98) (ok_lf pc ok_X12_findWorlds_97)) (ok_bf (ok_lf pc ok_X12_findWorlds_94) (ok_lf pc ok_X12_findWorlds_93)))) (ok_bf (ok_bf (ok_bf (ok_lf pc ok_X12_findWorlds_90) (ok_lf pc ok_X12_findWorlds_89)) (ok_bf (ok_lf pc ok_X12_findWorlds_88) (ok_lf pc ok_X12_findWorlds_87))) (ok_bf (ok_bf (ok_lf pc ok_X12_findWorlds_86) (ok_lf pc ok_X12_findWorlds_84)) (ok_bf (ok_lf pc ok_X12_findWorlds_83) (ok_lf pc ok_X12_findWorlds_82))))) (ok_bf (ok_bf (ok_bf (ok_bf (ok_lf pc ok_X12_findWorlds_79) (ok_lf pc ok_X12_findWorlds_78)) (ok_bf (ok_lf pc ok_X12_findWorlds_75) (ok_lf pc ok_X12_findWorlds_73))) (ok_bf (ok_bf (ok_lf pc ok_X12_findWorlds_71) (ok_lf pc ok_X12_findWorlds_69)) (ok_bf (ok_lf pc ok_X12_findWorlds_68) (ok_lf pc ok_X12_findWorlds_65)))) (ok_bf (ok_bf (ok_bf (ok_lf pc ok_X12_findWorlds_64) (ok_lf pc ok_X12_findWorlds_63)) (ok_bf (ok_lf pc ok_X12_findWorlds_62) (ok_lf pc ok_X12_findWorlds_61))) (ok_bf (ok_bf (ok_lf pc ok_X12_findWorlds_59) (ok_lf pc ok_X12_findWorlds_58)) (ok_bf (ok_lf pc ok_X12_findWorlds_57) (ok_lf pc ok_X12_findWorlds_54)))))) (ok_bf (ok_bf (ok_bf (ok_bf (ok_bf (ok_lf pc ok_X12_findWorlds_53) (ok_lf pc ok_X12_findWorlds_50)) (ok_bf (ok_lf pc ok_X12_findWorlds_48) (ok_lf pc ok_X12_findWorlds_46))) (ok_bf (ok_bf (ok_lf pc ok_X12_findWorlds_44) (ok_lf pc ok_X12_findWorlds_43)) (ok_bf (ok_lf pc ok_X12_findWorlds_40) (ok_lf pc ok_X12_findWorlds_38)))) (ok_bf (ok_bf (ok_bf (ok_lf pc ok_X12_findWorlds_36) (ok_lf pc ok_X12_findWorlds_34)) (ok_bf (ok_lf pc ok_X12_findWorlds_33) (ok_lf pc ok_X12_findWorlds_32))) (ok_bf (ok_bf (ok_lf pc ok_X12_findWorlds_31) (ok_lf pc ok_X12_findWorlds_28)) (ok_bf (ok_lf pc ok_X12_findWorlds_25) (ok_lf pc ok_X12_findWorlds_24))))) (ok_bf (ok_bf (ok_bf (ok_bf (ok_lf pc ok_X12_findWorlds_23) (ok_lf pc ok_X12_findWorlds_22)) (ok_bf (ok_lf pc ok_X12_findWorlds_19) (ok_lf pc ok_X12_findWorlds_18))) (ok_bf (ok_bf (ok_lf pc ok_X12_findWorlds_17) (ok_lf pc ok_X12_findWorlds_14)) (ok_bf (ok_lf pc ok_X12_findWorlds_13) (ok_lf pc ok_X12_findWorlds_12)))) (ok_bf (ok_bf (ok_bf (ok_lf pc ok_X12_findWorlds_11) (ok_lf pc ok_X12_findWorlds_8)) (ok_bf (ok_lf pc ok_X12_findWorlds_7) (ok_lf pc ok_X12_findWorlds_4))) (ok_bf (ok_bf (ok_lf pc ok_X12_findWorlds_3) (ok_lf pc ok_X12_findWorlds_2)) (ok_bf (ok_lf pc ok_X12_findWorlds_1) (ok_lf pc ok_X12_findWorlds_0))))))))
theorem mo_X12_findWorlds (pc : Nat) : mo_S (cd_X12_findWorlds pc) :=
  (mo_bf (mo_bf (mo_bf (mo_bf (mo_bf (mo_bf (mo_bf (mo_bf (mo_bf mo_ret mo_no) (mo_bf mo_ld mo_no)) (mo_bf mo_go mo_no)) (mo_bf (mo_bf mo_inc mo_no) (mo_bf mo_go mo_no))) (mo_bf (mo_bf (mo_bf mo_inc mo_no) (mo_bf mo_go mo_no)) (mo_bf (mo_bf mo_inc mo_no) (mo_bf mo_ret mo_no)))) (mo_bf (mo_bf (mo_bf (mo_bf mo_ld mo_no) (mo_bf mo_ic mo_no)) (mo_bf (mo_bf mo_ld mo_no) (mo_bf mo_ld mo_no))) (mo_bf (mo_bf (mo_bf mo_inc mo_no) (mo_bf mo_iast mo_no)) (mo_bf (mo_bf mo_i2 mo_no) (mo_bf mo_i2 mo_no))))) (mo_bf (mo_bf (mo_bf (mo_bf (mo_bf mo_ld mo_no) (mo_bf mo_push mo_no)) (mo_bf (mo_bf mo_iald mo_no) (mo_bf mo_dup2 mo_no))) (mo_bf (mo_bf (mo_bf mo_push mo_no) (mo_bf mo_gr mo_no)) (mo_bf (mo_bf mo_ld mo_no) (mo_bf mo_iast mo_no)))) (mo_bf (mo_bf (mo_bf (mo_bf mo_i2 mo_no) (mo_bf mo_i2 mo_no)) (mo_bf (mo_bf mo_ld mo_no) (mo_bf mo_push mo_no))) (mo_bf (mo_bf (mo_bf mo_iald mo_no) (mo_bf mo_dup2 mo_no)) (mo_bf (mo_bf mo_push mo_no) (mo_bf mo_gr mo_no)))))) (mo_bf (mo_bf (mo_bf (mo_bf (mo_bf (mo_bf mo_ld mo_no) (mo_bf mo_iast mo_no)) (mo_bf (mo_bf mo_i2 mo_no) (mo_bf mo_i2 mo_no))) (mo_bf (mo_bf (mo_bf mo_ld mo_no) (mo_bf mo_push mo_no)) (mo_bf (mo_bf mo_iald mo_no) (mo_bf mo_dup2 mo_no)))) (mo_bf (mo_bf (mo_bf (mo_bf mo_push mo_no) (mo_bf mo_gr mo_no)) (mo_bf (mo_bf mo_ld mo_no) (mo_bf mo_if mo_no))) (mo_bf (mo_bf (mo_bf mo_cv mo_no) (mo_bf mo_ld mo_no)) (mo_bf (mo_bf mo_ld mo_no) (mo_bf mo_ic mo_no))))) (mo_bf (mo_bf (mo_bf (mo_bf (mo_bf mo_push mo_no) (mo_bf mo_i2 mo_no)) (mo_bf (mo_bf mo_push mo_no) (mo_bf mo_i2 mo_no))) (mo_bf (mo_bf (mo_bf mo_ld mo_no) (mo_bf mo_iald mo_no)) (mo_bf (mo_bf mo_push mo_no) (mo_bf mo_gr mo_no)))) (mo_bf (mo_bf (mo_bf (mo_bf mo_ld mo_no) (mo_bf mo_iast mo_no)) (mo_bf (mo_bf mo_ld mo_no) (mo_bf mo_push mo_no))) (mo_bf (mo_bf (mo_bf mo_gr mo_no) (mo_bf mo_ld mo_no)) (mo_bf (mo_bf mo_iast mo_no) (mo_bf mo_ld mo_no))))))) (mo_bf (mo_bf (mo_bf (mo_bf (mo_bf (mo_bf (mo_bf mo_push mo_no) (mo_bf mo_gr mo_no)) (mo_bf (mo_bf mo_ld mo_no) (mo_bf mo_iast mo_no))) (mo_bf (mo_bf (mo_bf mo_ld mo_no) (mo_bf mo_push mo_no)) (mo_bf (mo_bf mo_gr mo_no) (mo_bf mo_ld mo_no)))) (mo_bf (mo_bf (mo_bf (mo_bf mo_ic mo_no) (mo_bf mo_push mo_no)) (mo_bf (mo_bf mo_i2 mo_no) (mo_bf mo_push mo_no))) (mo_bf (mo_bf (mo_bf mo_i2 mo_no) (mo_bf mo_ld mo_no)) (mo_bf (mo_bf mo_iald mo_no) (mo_bf mo_push mo_no))))) (mo_bf (mo_bf (mo_bf (mo_bf (mo_bf mo_gr mo_no) (mo_bf mo_ld mo_no)) (mo_bf (mo_bf mo_ic mo_no) (mo_bf mo_push mo_no))) (mo_bf (mo_bf (mo_bf mo_ld mo_no) (mo_bf mo_st mo_no)) (mo_bf (mo_bf mo_push mo_no) (mo_bf mo_ic mo_no)))) (mo_bf (mo_bf (mo_bf (mo_bf mo_push mo_no) (mo_bf mo_i2 mo_no)) (mo_bf (mo_bf mo_push mo_no) (mo_bf mo_i2 mo_no))) (mo_bf (mo_bf (mo_bf mo_ld mo_no) (mo_bf mo_iald mo_no)) (mo_bf (mo_bf mo_push mo_no) (mo_bf mo_gr mo_no)))))) (mo_bf (mo_bf (mo_bf (mo_bf (mo_bf (mo_bf mo_ld mo_no) (mo_bf mo_ic mo_no)) (mo_bf (mo_bf mo_push mo_no) (mo_bf mo_ld mo_no))) (mo_bf (mo_bf (mo_bf mo_st mo_no) (mo_bf mo_push mo_no)) (mo_bf (mo_bf mo_ic mo_no) (mo_bf mo_push mo_no)))) (mo_bf (mo_bf (mo_bf (mo_bf mo_ld mo_no) (mo_bf mo_st mo_no)) (mo_bf (mo_bf mo_push mo_no) (mo_bf mo_st mo_no))) (mo_bf (mo_bf (mo_bf mo_push mo_no) (mo_bf mo_go mo_no)) (mo_bf (mo_bf mo_inc mo_no) (mo_bf mo_iast mo_no))))) (mo_bf (mo_bf (mo_bf (mo_bf (mo_bf mo_push mo_no) (mo_bf mo_ld mo_no)) (mo_bf (mo_bf mo_gr mo_no) (mo_bf mo_ld mo_no))) (mo_bf (mo_bf (mo_bf mo_iast mo_no) (mo_bf mo_cv mo_no)) (mo_bf (mo_bf mo_ld mo_no) (mo_bf mo_ld mo_no)))) (mo_bf (mo_bf (mo_bf (mo_bf mo_ld mo_no) (mo_bf mo_gr mo_no)) (mo_bf (mo_bf mo_ld mo_no) (mo_bf mo_ic mo_no))) (mo_bf (mo_bf (mo_bf mo_push mo_no) (mo_bf mo_ld mo_no)) (mo_bf (mo_bf mo_st mo_no) (mo_bf mo_push mo_no))))))))
theorem ok_X12_worlds_0 : ok_S 196 0 (sf_ld 2 0 1) := ok_aload_n (by decide +kernel : decode (mb_ 196) 0 = .ok (.aload_n 0, 1)) rfl
theorem ok_X12_worlds_1 : ok_S 196 1 (sf_push (0, 63) 3) := ok_bipush (by decide +kernel : decode (mb_ 196) 1 = .ok (.bipush 63, 2)) ⟨by decide, by decide⟩ (by decide +kernel)
theorem ok_X12_worlds_3 : ok_S 196 3 (sf_push (0, 9999) 6) := ok_sipush (by decide +kernel : decode (mb_ 196) 3 = .ok (.sipush 9999, 3)) ⟨by decide, by decide⟩ (by decide +kernel)
theorem ok_X12_worlds_6 : ok_S 196 6 (sf_cv 13 [2, 0, 0] 195 9) := ok_cv mt_195 cl_13 (by decide +kernel : decode (mb_ 196) 6 = .ok (.invokevirtual 204, 3)) tw_1358 tw_1360 ts_48 tw_7 rfl (by decide +kernel) (mh_ok rfl) (by decide) (by decide)
theorem ok_X12_worlds_9 : ok_S 196 9 (sf_ret 0) := ok_ret0 (by decide +kernel : decode (mb_ 196) 9 = .ok (.ireturn, 1)) rfl
theorem ok_X12_worlds (pc : Nat) : ok_S 196 pc (cd_X12_worlds pc) :=
  (ok_bf (ok_bf (ok_bf (ok_lf pc ok_X12_worlds_9) (ok_lf pc ok_X12_worlds_6)) (ok_lf pc ok_X12_worlds_3)) (ok_bf (ok_lf pc ok_X12_worlds_1) (ok_lf pc ok_X12_worlds_0)))
theorem mo_X12_worlds (pc : Nat) : mo_S (cd_X12_worlds pc) :=
  (mo_bf (mo_bf (mo_bf (mo_bf mo_ret mo_no) (mo_bf mo_cv mo_no)) (mo_bf mo_push mo_no)) (mo_bf (mo_bf mo_push mo_no) (mo_bf mo_ld mo_no)))
theorem ok_X12_hasWorld_0 : ok_S 197 0 (sf_ld 2 0 1) := ok_aload_n (by decide +kernel : decode (mb_ 197) 0 = .ok (.aload_n 0, 1)) rfl
theorem ok_X12_hasWorld_1 : ok_S 197 1 (sf_ld 0 1 2) := ok_iload_n (by decide +kernel : decode (mb_ 197) 1 = .ok (.iload_n 1, 1)) rfl
theorem ok_X12_hasWorld_2 : ok_S 197 2 (sf_push (0, 1) 3) := ok_iconst (by decide +kernel : decode (mb_ 197) 2 = .ok (.iconst 1, 1)) ⟨by decide, by decide⟩
theorem ok_X12_hasWorld_3 : ok_S 197 3 (sf_cv 13 [2, 0, 0] 195 6) := ok_cv mt_195 cl_13 (by decide +kernel : decode (mb_ 197) 3 = .ok (.invokevirtual 204, 3)) tw_1358 tw_1360 ts_48 tw_7 rfl (by decide +kernel) (mh_ok rfl) (by decide) (by decide)
theorem ok_X12_hasWorld_6 : ok_S 197 6 (sf_push (0, 1) 7) := ok_iconst (by decide +kernel : decode (mb_ 197) 6 = .ok (.iconst 1, 1)) ⟨by decide, by decide⟩
theorem ok_X12_hasWorld_7 : ok_S 197 7 (sf_ic 1 14 10) := ok_ic1 (by decide +kernel : decode (mb_ 197) 7 = .ok (.if_icmp .ne 7, 3)) (by decide)
theorem ok_X12_hasWorld_10 : ok_S 197 10 (sf_push (0, 1) 11) := ok_iconst (by decide +kernel : decode (mb_ 197) 10 = .ok (.iconst 1, 1)) ⟨by decide, by decide⟩
theorem ok_X12_hasWorld_11 : ok_S 197 11 (sf_go 15) := ok_goto (by decide +kernel : decode (mb_ 197) 11 = .ok (.goto 4, 3)) (by decide)
theorem ok_X12_hasWorld_14 : ok_S 197 14 (sf_push (0, 0) 15) := ok_iconst (by decide +kernel : decode (mb_ 197) 14 = .ok (.iconst 0, 1)) ⟨by decide, by decide⟩
theorem ok_X12_hasWorld_15 : ok_S 197 15 (sf_rr 0 1) := ok_rr (by decide +kernel : decode (mb_ 197) 15 = .ok (.ireturn, 1)) rfl (so_nz .boolean rfl rfl)
theorem ok_X12_hasWorld (pc : Nat) : ok_S 197 pc (cd_X12_hasWorld pc) :=
  (ok_bf (ok_bf (ok_bf (ok_bf (ok_lf pc ok_X12_hasWorld_15) (ok_lf pc ok_X12_hasWorld_14)) (ok_lf pc ok_X12_hasWorld_11)) (ok_bf (ok_lf pc ok_X12_hasWorld_10) (ok_lf pc ok_X12_hasWorld_7))) (ok_bf (ok_bf (ok_bf (ok_lf pc ok_X12_hasWorld_6) (ok_lf pc ok_X12_hasWorld_3)) (ok_lf pc ok_X12_hasWorld_2)) (ok_bf (ok_lf pc ok_X12_hasWorld_1) (ok_lf pc ok_X12_hasWorld_0))))
theorem mo_X12_hasWorld (pc : Nat) : mo_S (cd_X12_hasWorld pc) :=
  (mo_bf (mo_bf (mo_bf (mo_bf (mo_bf mo_rr mo_no) (mo_bf mo_push mo_no)) (mo_bf mo_go mo_no)) (mo_bf (mo_bf mo_push mo_no) (mo_bf mo_ic mo_no))) (mo_bf (mo_bf (mo_bf (mo_bf mo_push mo_no) (mo_bf mo_cv mo_no)) (mo_bf mo_push mo_no)) (mo_bf (mo_bf mo_ld mo_no) (mo_bf mo_ld mo_no))))
theorem ok_X12_findWorld_0 : ok_S 198 0 (sf_ld 0 1 1) := ok_iload_n (by decide +kernel : decode (mb_ 198) 0 = .ok (.iload_n 1, 1)) rfl
theorem ok_X12_findWorld_1 : ok_S 198 1 (sf_push (0, 0) 2) := ok_iconst (by decide +kernel : decode (mb_ 198) 1 = .ok (.iconst 0, 1)) ⟨by decide, by decide⟩
theorem ok_X12_findWorld_2 : ok_S 198 2 (sf_push (0, 9999) 5) := ok_sipush (by decide +kernel : decode (mb_ 198) 2 = .ok (.sipush 9999, 3)) ⟨by decide, by decide⟩ (by decide +kernel)
theorem ok_X12_findWorld_5 : ok_S 198 5 (sf_cs [0, 0, 0] 157 8) := ok_cs mt_157 (by decide +kernel : decode (mb_ 198) 5 = .ok (.invokestatic 56, 3)) tw_1206 tw_1207 tw_7 (by decide +kernel) (mh_ok rfl) (by decide) (by decide)
theorem ok_X12_findWorld_8 : ok_S 198 8 (sf_if 0 30 11) := ok_if0 (by decide +kernel : decode (mb_ 198) 8 = .ok (.ifCond .eq 22, 3)) (by decide)
theorem ok_X12_findWorld_11 : ok_S 198 11 (sf_ld 2 0 12) := ok_aload_n (by decide +kernel : decode (mb_ 198) 11 = .ok (.aload_n 0, 1)) rfl
theorem ok_X12_findWorld_12 : ok_S 198 12 (sf_push (0, 63) 14) := ok_bipush (by decide +kernel : decode (mb_ 198) 12 = .ok (.bipush 63, 2)) ⟨by decide, by decide⟩ (by decide +kernel)
theorem ok_X12_findWorld_14 : ok_S 198 14 (sf_ld 0 1 15) := ok_iload_n (by decide +kernel : decode (mb_ 198) 14 = .ok (.iload_n 1, 1)) rfl
theorem ok_X12_findWorld_15 : ok_S 198 15 (sf_push (0, 1) 16) := ok_iconst (by decide +kernel : decode (mb_ 198) 15 = .ok (.iconst 1, 1)) ⟨by decide, by decide⟩
theorem ok_X12_findWorld_16 : ok_S 198 16 (sf_i2 mx_add 17) := ok_iadd (by decide +kernel : decode (mb_ 198) 16 = .ok (.iadd, 1))
theorem ok_X12_findWorld_17 : ok_S 198 17 (sf_cv 13 [2, 0, 0] 195 20) := ok_cv mt_195 cl_13 (by decide +kernel : decode (mb_ 198) 17 = .ok (.invokevirtual 204, 3)) tw_1358 tw_1360 ts_48 tw_7 rfl (by decide +kernel) (mh_ok rfl) (by decide) (by decide)
theorem ok_X12_findWorld_20 : ok_S 198 20 (sf_ld 0 1 21) := ok_iload_n (by decide +kernel : decode (mb_ 198) 20 = .ok (.iload_n 1, 1)) rfl
theorem ok_X12_findWorld_21 : ok_S 198 21 (sf_push (0, 1) 22) := ok_iconst (by decide +kernel : decode (mb_ 198) 21 = .ok (.iconst 1, 1)) ⟨by decide, by decide⟩
theorem ok_X12_findWorld_22 : ok_S 198 22 (sf_i2 mx_add 23) := ok_iadd (by decide +kernel : decode (mb_ 198) 22 = .ok (.iadd, 1))
theorem ok_X12_findWorld_23 : ok_S 198 23 (sf_ic 1 30 26) := ok_ic1 (by decide +kernel : decode (mb_ 198) 23 = .ok (.if_icmp .ne 7, 3)) (by decide)
theorem ok_X12_findWorld_26 : ok_S 198 26 (sf_push (0, 1) 27) := ok_iconst (by decide +kernel : decode (mb_ 198) 26 = .ok (.iconst 1, 1)) ⟨by decide, by decide⟩
theorem ok_X12_findWorld_27 : ok_S 198 27 (sf_go 31) := ok_goto (by decide +kernel : decode (mb_ 198) 27 = .ok (.goto 4, 3)) (by decide)
theorem ok_X12_findWorld_30 : ok_S 198 30 (sf_push (0, 0) 31) := ok_iconst (by decide +kernel : decode (mb_ 198) 30 = .ok (.iconst 0, 1)) ⟨by decide, by decide⟩
theorem ok_X12_findWorld_31 : ok_S 198 31 (sf_rr 0 1) := ok_rr (by decide +kernel : decode (mb_ 198) 31 = .ok (.ireturn, 1)) rfl (so_nz .boolean rfl rfl)
theorem ok_X12_findWorld (pc : Nat) : ok_S 198 pc (cd_X12_findWorld pc) :=
  (ok_bf (ok_bf (ok_bf (ok_bf (ok_bf (ok_lf pc ok_X12_findWorld_31) (ok_lf pc ok_X12_findWorld_30)) (ok_lf pc ok_X12_findWorld_27)) (ok_bf (ok_lf pc ok_X12_findWorld_26) (ok_lf pc ok_X12_findWorld_23))) (ok_bf (ok_bf (ok_bf (ok_lf pc ok_X12_findWorld_22) (ok_lf pc ok_X12_findWorld_21)) (ok_lf pc ok_X12_findWorld_20)) (ok_bf (ok_lf pc ok_X12_findWorld_17) (ok_lf pc ok_X12_findWorld_16)))) (ok_bf (ok_bf (ok_bf (ok_bf (ok_lf pc ok_X12_findWorld_15) (ok_lf pc ok_X12_findWorld_14)) (ok_lf pc ok_X12_findWorld_12)) (ok_bf (ok_lf pc ok_X12_findWorld_11) (ok_lf pc ok_X12_findWorld_8))) (ok_bf (ok_bf (ok_lf pc ok_X12_findWorld_5) (ok_lf pc ok_X12_findWorld_2)) (ok_bf (ok_lf pc ok_X12_findWorld_1) (ok_lf pc ok_X12_findWorld_0)))))
theorem mo_X12_findWorld (pc : Nat) : mo_S (cd_X12_findWorld pc) :=
  (mo_bf (mo_bf (mo_bf (mo_bf (mo_bf (mo_bf mo_rr mo_no) (mo_bf mo_push mo_no)) (mo_bf mo_go mo_no)) (mo_bf (mo_bf mo_push mo_no) (mo_bf mo_ic mo_no))) (mo_bf (mo_bf (mo_bf (mo_bf mo_i2 mo_no) (mo_bf mo_push mo_no)) (mo_bf mo_ld mo_no)) (mo_bf (mo_bf mo_cv mo_no) (mo_bf mo_i2 mo_no)))) (mo_bf (mo_bf (mo_bf (mo_bf (mo_bf mo_push mo_no) (mo_bf mo_ld mo_no)) (mo_bf mo_push mo_no)) (mo_bf (mo_bf mo_ld mo_no) (mo_bf mo_if mo_no))) (mo_bf (mo_bf (mo_bf mo_cs mo_no) (mo_bf mo_push mo_no)) (mo_bf (mo_bf mo_push mo_no) (mo_bf mo_ld mo_no)))))
theorem ok_X12_world_0 : ok_S 199 0 (sf_ld 0 2 1) := ok_iload_n (by decide +kernel : decode (mb_ 199) 0 = .ok (.iload_n 2, 1)) rfl
theorem ok_X12_world_1 : ok_S 199 1 (sf_cs [0] 159 4) := ok_cs mt_159 (by decide +kernel : decode (mb_ 199) 1 = .ok (.invokestatic 156, 3)) tw_1275 tw_1276 tw_7 (by decide +kernel) (mh_ok rfl) (by decide) (by decide)
theorem ok_X12_world_4 : ok_S 199 4 (sf_if 1 9 7) := ok_if1 (by decide +kernel : decode (mb_ 199) 4 = .ok (.ifCond .ne 5, 3)) (by decide)
theorem ok_X12_world_7 : ok_S 199 7 (sf_push (0, (-1)) 8) := ok_iconst (by decide +kernel : decode (mb_ 199) 7 = .ok (.iconst (-1), 1)) ⟨by decide, by decide⟩
theorem ok_X12_world_8 : ok_S 199 8 (sf_ret 0) := ok_ret0 (by decide +kernel : decode (mb_ 199) 8 = .ok (.ireturn, 1)) rfl
theorem ok_X12_world_9 : ok_S 199 9 (sf_ld 2 0 10) := ok_aload_n (by decide +kernel : decode (mb_ 199) 9 = .ok (.aload_n 0, 1)) rfl
theorem ok_X12_world_10 : ok_S 199 10 (sf_ld 0 1 11) := ok_iload_n (by decide +kernel : decode (mb_ 199) 10 = .ok (.iload_n 1, 1)) rfl
theorem ok_X12_world_11 : ok_S 199 11 (sf_cv 13 [2, 0] 198 14) := ok_cv mt_198 cl_13 (by decide +kernel : decode (mb_ 199) 11 = .ok (.invokevirtual 207, 3)) tw_1382 tw_1384 ts_53 tw_7 rfl (by decide +kernel) (mh_ok rfl) (by decide) (by decide)
theorem ok_X12_world_14 : ok_S 199 14 (sf_if 0 26 17) := ok_if0 (by decide +kernel : decode (mb_ 199) 14 = .ok (.ifCond .eq 12, 3)) (by decide)
theorem ok_X12_world_17 : ok_S 199 17 (sf_ld 2 0 18) := ok_aload_n (by decide +kernel : decode (mb_ 199) 17 = .ok (.aload_n 0, 1)) rfl
theorem ok_X12_world_18 : ok_S 199 18 (sf_gr 13 13 11 21) := ok_gr fd_13_11 (by decide +kernel : decode (mb_ 199) 18 = .ok (.getfield 22, 3)) tw_1137 (Or.inl rfl) rfl
theorem ok_X12_world_21 : ok_S 199 21 (sf_ld 0 2 22) := ok_iload_n (by decide +kernel : decode (mb_ 199) 21 = .ok (.iload_n 2, 1)) rfl
theorem ok_X12_world_22 : ok_S 199 22 (sf_iald 23) := ok_iald (by decide +kernel : decode (mb_ 199) 22 = .ok (.iaload, 1))
theorem ok_X12_world_23 : ok_S 199 23 (sf_go 28) := ok_goto (by decide +kernel : decode (mb_ 199) 23 = .ok (.goto 5, 3)) (by decide)
theorem ok_X12_world_26 : ok_S 199 26 (sf_push (0, (-3)) 28) := ok_bipush (by decide +kernel : decode (mb_ 199) 26 = .ok (.bipush (-3), 2)) ⟨by decide, by decide⟩ (by decide +kernel)
theorem ok_X12_world_28 : ok_S 199 28 (sf_ret 0) := ok_ret0 (by decide +kernel : decode (mb_ 199) 28 = .ok (.ireturn, 1)) rfl
theorem ok_X12_world (pc : Nat) : ok_S 199 pc (cd_X12_world pc) :=
  (ok_bf (ok_bf (ok_bf (ok_bf (ok_lf pc ok_X12_world_28) (ok_lf pc ok_X12_world_26)) (ok_bf (ok_lf pc ok_X12_world_23) (ok_lf pc ok_X12_world_22))) (ok_bf (ok_bf (ok_lf pc ok_X12_world_21) (ok_lf pc ok_X12_world_18)) (ok_bf (ok_lf pc ok_X12_world_17) (ok_lf pc ok_X12_world_14)))) (ok_bf (ok_bf (ok_bf (ok_lf pc ok_X12_world_11) (ok_lf pc ok_X12_world_10)) (ok_bf (ok_lf pc ok_X12_world_9) (ok_lf pc ok_X12_world_8))) (ok_bf (ok_bf (ok_lf pc ok_X12_world_7) (ok_lf pc ok_X12_world_4)) (ok_bf (ok_lf pc ok_X12_world_1) (ok_lf pc ok_X12_world_0)))))
theorem mo_X12_world (pc : Nat) : mo_S (cd_X12_world pc) :=
  (mo_bf (mo_bf (mo_bf (mo_bf (mo_bf mo_ret mo_no) (mo_bf mo_push mo_no)) (mo_bf (mo_bf mo_go mo_no) (mo_bf mo_iald mo_no))) (mo_bf (mo_bf (mo_bf mo_ld mo_no) (mo_bf mo_gr mo_no)) (mo_bf (mo_bf mo_ld mo_no) (mo_bf mo_if mo_no)))) (mo_bf (mo_bf (mo_bf (mo_bf mo_cv mo_no) (mo_bf mo_ld mo_no)) (mo_bf (mo_bf mo_ld mo_no) (mo_bf mo_ret mo_no))) (mo_bf (mo_bf (mo_bf mo_push mo_no) (mo_bf mo_if mo_no)) (mo_bf (mo_bf mo_cs mo_no) (mo_bf mo_ld mo_no)))))
theorem ok_X12_may_0 : ok_S 200 0 (sf_ld 0 1 1) := ok_iload_n (by decide +kernel : decode (mb_ 200) 0 = .ok (.iload_n 1, 1)) rfl
theorem ok_X12_may_1 : ok_S 200 1 (sf_cs [0] 159 4) := ok_cs mt_159 (by decide +kernel : decode (mb_ 200) 1 = .ok (.invokestatic 156, 3)) tw_1275 tw_1276 tw_7 (by decide +kernel) (mh_ok rfl) (by decide) (by decide)
theorem ok_X12_may_4 : ok_S 200 4 (sf_if 1 9 7) := ok_if1 (by decide +kernel : decode (mb_ 200) 4 = .ok (.ifCond .ne 5, 3)) (by decide)
theorem ok_X12_may_7 : ok_S 200 7 (sf_push (0, (-1)) 8) := ok_iconst (by decide +kernel : decode (mb_ 200) 7 = .ok (.iconst (-1), 1)) ⟨by decide, by decide⟩
theorem ok_X12_may_8 : ok_S 200 8 (sf_ret 0) := ok_ret0 (by decide +kernel : decode (mb_ 200) 8 = .ok (.ireturn, 1)) rfl
theorem ok_X12_may_9 : ok_S 200 9 (sf_ld 2 0 10) := ok_aload_n (by decide +kernel : decode (mb_ 200) 9 = .ok (.aload_n 0, 1)) rfl
theorem ok_X12_may_10 : ok_S 200 10 (sf_push (0, 63) 12) := ok_bipush (by decide +kernel : decode (mb_ 200) 10 = .ok (.bipush 63, 2)) ⟨by decide, by decide⟩ (by decide +kernel)
theorem ok_X12_may_12 : ok_S 200 12 (sf_push (0, 9999) 15) := ok_sipush (by decide +kernel : decode (mb_ 200) 12 = .ok (.sipush 9999, 3)) ⟨by decide, by decide⟩ (by decide +kernel)
theorem ok_X12_may_15 : ok_S 200 15 (sf_cv 13 [2, 0, 0] 195 18) := ok_cv mt_195 cl_13 (by decide +kernel : decode (mb_ 200) 15 = .ok (.invokevirtual 204, 3)) tw_1358 tw_1360 ts_48 tw_7 rfl (by decide +kernel) (mh_ok rfl) (by decide) (by decide)
theorem ok_X12_may_18 : ok_S 200 18 (sf_st 0 2 19) := ok_istore_n (by decide +kernel : decode (mb_ 200) 18 = .ok (.istore_n 2, 1)) rfl
theorem ok_X12_may_19 : ok_S 200 19 (sf_ld 2 0 20) := ok_aload_n (by decide +kernel : decode (mb_ 200) 19 = .ok (.aload_n 0, 1)) rfl
theorem ok_X12_may_20 : ok_S 200 20 (sf_gr 13 13 13 23) := ok_gr fd_13_13 (by decide +kernel : decode (mb_ 200) 20 = .ok (.getfield 28, 3)) tw_1139 (Or.inl rfl) rfl
theorem ok_X12_may_23 : ok_S 200 23 (sf_ld 0 1 24) := ok_iload_n (by decide +kernel : decode (mb_ 200) 23 = .ok (.iload_n 1, 1)) rfl
theorem ok_X12_may_24 : ok_S 200 24 (sf_iald 25) := ok_iald (by decide +kernel : decode (mb_ 200) 24 = .ok (.iaload, 1))
theorem ok_X12_may_25 : ok_S 200 25 (sf_ret 0) := ok_ret0 (by decide +kernel : decode (mb_ 200) 25 = .ok (.ireturn, 1)) rfl
theorem ok_X12_may (pc : Nat) : ok_S 200 pc (cd_X12_may pc) :=
  (ok_bf (ok_bf (ok_bf (ok_bf (ok_lf pc ok_X12_may_25) (ok_lf pc ok_X12_may_24)) (ok_bf (ok_lf pc ok_X12_may_23) (ok_lf pc ok_X12_may_20))) (ok_bf (ok_bf (ok_lf pc ok_X12_may_19) (ok_lf pc ok_X12_may_18)) (ok_bf (ok_lf pc ok_X12_may_15) (ok_lf pc ok_X12_may_12)))) (ok_bf (ok_bf (ok_bf (ok_lf pc ok_X12_may_10) (ok_lf pc ok_X12_may_9)) (ok_bf (ok_lf pc ok_X12_may_8) (ok_lf pc ok_X12_may_7))) (ok_bf (ok_bf (ok_lf pc ok_X12_may_4) (ok_lf pc ok_X12_may_1)) (ok_lf pc ok_X12_may_0))))
theorem mo_X12_may (pc : Nat) : mo_S (cd_X12_may pc) :=
  (mo_bf (mo_bf (mo_bf (mo_bf (mo_bf mo_ret mo_no) (mo_bf mo_iald mo_no)) (mo_bf (mo_bf mo_ld mo_no) (mo_bf mo_gr mo_no))) (mo_bf (mo_bf (mo_bf mo_ld mo_no) (mo_bf mo_st mo_no)) (mo_bf (mo_bf mo_cv mo_no) (mo_bf mo_push mo_no)))) (mo_bf (mo_bf (mo_bf (mo_bf mo_push mo_no) (mo_bf mo_ld mo_no)) (mo_bf (mo_bf mo_ret mo_no) (mo_bf mo_push mo_no))) (mo_bf (mo_bf (mo_bf mo_if mo_no) (mo_bf mo_cs mo_no)) (mo_bf mo_ld mo_no))))
theorem ok_X12_sure_0 : ok_S 201 0 (sf_ld 0 1 1) := ok_iload_n (by decide +kernel : decode (mb_ 201) 0 = .ok (.iload_n 1, 1)) rfl
theorem ok_X12_sure_1 : ok_S 201 1 (sf_cs [0] 159 4) := ok_cs mt_159 (by decide +kernel : decode (mb_ 201) 1 = .ok (.invokestatic 156, 3)) tw_1275 tw_1276 tw_7 (by decide +kernel) (mh_ok rfl) (by decide) (by decide)
theorem ok_X12_sure_4 : ok_S 201 4 (sf_if 1 9 7) := ok_if1 (by decide +kernel : decode (mb_ 201) 4 = .ok (.ifCond .ne 5, 3)) (by decide)
theorem ok_X12_sure_7 : ok_S 201 7 (sf_push (0, (-1)) 8) := ok_iconst (by decide +kernel : decode (mb_ 201) 7 = .ok (.iconst (-1), 1)) ⟨by decide, by decide⟩
theorem ok_X12_sure_8 : ok_S 201 8 (sf_ret 0) := ok_ret0 (by decide +kernel : decode (mb_ 201) 8 = .ok (.ireturn, 1)) rfl
theorem ok_X12_sure_9 : ok_S 201 9 (sf_ld 2 0 10) := ok_aload_n (by decide +kernel : decode (mb_ 201) 9 = .ok (.aload_n 0, 1)) rfl
theorem ok_X12_sure_10 : ok_S 201 10 (sf_push (0, 63) 12) := ok_bipush (by decide +kernel : decode (mb_ 201) 10 = .ok (.bipush 63, 2)) ⟨by decide, by decide⟩ (by decide +kernel)
theorem ok_X12_sure_12 : ok_S 201 12 (sf_push (0, 9999) 15) := ok_sipush (by decide +kernel : decode (mb_ 201) 12 = .ok (.sipush 9999, 3)) ⟨by decide, by decide⟩ (by decide +kernel)
theorem ok_X12_sure_15 : ok_S 201 15 (sf_cv 13 [2, 0, 0] 195 18) := ok_cv mt_195 cl_13 (by decide +kernel : decode (mb_ 201) 15 = .ok (.invokevirtual 204, 3)) tw_1358 tw_1360 ts_48 tw_7 rfl (by decide +kernel) (mh_ok rfl) (by decide) (by decide)
theorem ok_X12_sure_18 : ok_S 201 18 (sf_st 0 2 19) := ok_istore_n (by decide +kernel : decode (mb_ 201) 18 = .ok (.istore_n 2, 1)) rfl
theorem ok_X12_sure_19 : ok_S 201 19 (sf_push (0, 2) 20) := ok_iconst (by decide +kernel : decode (mb_ 201) 19 = .ok (.iconst 2, 1)) ⟨by decide, by decide⟩
theorem ok_X12_sure_20 : ok_S 201 20 (sf_st 0 3 21) := ok_istore_n (by decide +kernel : decode (mb_ 201) 20 = .ok (.istore_n 3, 1)) rfl
theorem ok_X12_sure_21 : ok_S 201 21 (sf_ld 0 3 22) := ok_iload_n (by decide +kernel : decode (mb_ 201) 21 = .ok (.iload_n 3, 1)) rfl
theorem ok_X12_sure_22 : ok_S 201 22 (sf_push (0, 16) 24) := ok_bipush (by decide +kernel : decode (mb_ 201) 22 = .ok (.bipush 16, 2)) ⟨by decide, by decide⟩ (by decide +kernel)
theorem ok_X12_sure_24 : ok_S 201 24 (sf_ic 4 47 27) := ok_ic4 (by decide +kernel : decode (mb_ 201) 24 = .ok (.if_icmp .gt 23, 3)) (by decide)
theorem ok_X12_sure_27 : ok_S 201 27 (sf_ld 2 0 28) := ok_aload_n (by decide +kernel : decode (mb_ 201) 27 = .ok (.aload_n 0, 1)) rfl
theorem ok_X12_sure_28 : ok_S 201 28 (sf_gr 13 13 13 31) := ok_gr fd_13_13 (by decide +kernel : decode (mb_ 201) 28 = .ok (.getfield 28, 3)) tw_1139 (Or.inl rfl) rfl
theorem ok_X12_sure_31 : ok_S 201 31 (sf_ld 0 1 32) := ok_iload_n (by decide +kernel : decode (mb_ 201) 31 = .ok (.iload_n 1, 1)) rfl
theorem ok_X12_sure_32 : ok_S 201 32 (sf_iald 33) := ok_iald (by decide +kernel : decode (mb_ 201) 32 = .ok (.iaload, 1))
theorem ok_X12_sure_33 : ok_S 201 33 (sf_push (0, 1) 34) := ok_iconst (by decide +kernel : decode (mb_ 201) 33 = .ok (.iconst 1, 1)) ⟨by decide, by decide⟩
theorem ok_X12_sure_34 : ok_S 201 34 (sf_ld 0 3 35) := ok_iload_n (by decide +kernel : decode (mb_ 201) 34 = .ok (.iload_n 3, 1)) rfl
theorem ok_X12_sure_35 : ok_S 201 35 (sf_i2 mx_shl 36) := ok_ishl (by decide +kernel : decode (mb_ 201) 35 = .ok (.ishl, 1))
theorem ok_X12_sure_36 : ok_S 201 36 (sf_ic 1 41 39) := ok_ic1 (by decide +kernel : decode (mb_ 201) 36 = .ok (.if_icmp .ne 5, 3)) (by decide)
theorem ok_X12_sure_39 : ok_S 201 39 (sf_ld 0 3 40) := ok_iload_n (by decide +kernel : decode (mb_ 201) 39 = .ok (.iload_n 3, 1)) rfl
theorem ok_X12_sure_40 : ok_S 201 40 (sf_ret 0) := ok_ret0 (by decide +kernel : decode (mb_ 201) 40 = .ok (.ireturn, 1)) rfl
theorem ok_X12_sure_41 : ok_S 201 41 (sf_inc 3 1 44) := ok_iinc (by decide +kernel : decode (mb_ 201) 41 = .ok (.iinc 3 1, 3))
theorem ok_X12_sure_44 : ok_S 201 44 (sf_go 21) := ok_goto (by decide +kernel : decode (mb_ 201) 44 = .ok (.goto (-23), 3)) (by decide)
theorem ok_X12_sure_47 : ok_S 201 47 (sf_push (0, (-3)) 49) := ok_bipush (by decide +kernel : decode (mb_ 201) 47 = .ok (.bipush (-3), 2)) ⟨by decide, by decide⟩ (by decide +kernel)
theorem ok_X12_sure_49 : ok_S 201 49 (sf_ret 0) := ok_ret0 (by decide +kernel : decode (mb_ 201) 49 = .ok (.ireturn, 1)) rfl
theorem ok_X12_sure (pc : Nat) : ok_S 201 pc (cd_X12_sure pc) :=
  (ok_bf (ok_bf (ok_bf (ok_bf (ok_bf (ok_lf pc ok_X12_sure_49) (ok_lf pc ok_X12_sure_47)) (ok_bf (ok_lf pc ok_X12_sure_44) (ok_lf pc ok_X12_sure_41))) (ok_bf (ok_bf (ok_lf pc ok_X12_sure_40) (ok_lf pc ok_X12_sure_39)) (ok_bf (ok_lf pc ok_X12_sure_36) (ok_lf pc ok_X12_sure_35)))) (ok_bf (ok_bf (ok_bf (ok_lf pc ok_X12_sure_34) (ok_lf pc ok_X12_sure_33)) (ok_bf (ok_lf pc ok_X12_sure_32) (ok_lf pc ok_X12_sure_31))) (ok_bf (ok_bf (ok_lf pc ok_X12_sure_28) (ok_lf pc ok_X12_sure_27)) (ok_lf pc ok_X12_sure_24)))) (ok_bf (ok_bf (ok_bf (ok_bf (ok_lf pc ok_X12_sure_22) (ok_lf pc ok_X12_sure_21)) (ok_bf (ok_lf pc ok_X12_sure_20) (ok_lf pc ok_X12_sure_19))) (ok_bf (ok_bf (ok_lf pc ok_X12_sure_18) (ok_lf pc ok_X12_sure_15)) (ok_lf pc ok_X12_sure_12))) (ok_bf (ok_bf (ok_bf (ok_lf pc ok_X12_sure_10) (ok_lf pc ok_X12_sure_9)) (ok_bf (ok_lf pc ok_X12_sure_8) (ok_lf pc ok_X12_sure_7))) (ok_bf (ok_bf (ok_lf pc ok_X12_sure_4) (ok_lf pc ok_X12_sure_1)) (ok_lf pc ok_X12_sure_0)))))
theorem mo_X12_sure (pc : Nat) : mo_S (cd_X12_sure pc) :=
  (mo_bf (mo_bf (mo_bf (mo_bf (mo_bf (mo_bf mo_ret mo_no) (mo_bf mo_push mo_no)) (mo_bf (mo_bf mo_go mo_no) (mo_bf mo_inc mo_no))) (mo_bf (mo_bf (mo_bf mo_ret mo_no) (mo_bf mo_ld mo_no)) (mo_bf (mo_bf mo_ic mo_no) (mo_bf mo_i2 mo_no)))) (mo_bf (mo_bf (mo_bf (mo_bf mo_ld mo_no) (mo_bf mo_push mo_no)) (mo_bf (mo_bf mo_iald mo_no) (mo_bf mo_ld mo_no))) (mo_bf (mo_bf (mo_bf mo_gr mo_no) (mo_bf mo_ld mo_no)) (mo_bf mo_ic mo_no)))) (mo_bf (mo_bf (mo_bf (mo_bf (mo_bf mo_push mo_no) (mo_bf mo_ld mo_no)) (mo_bf (mo_bf mo_st mo_no) (mo_bf mo_push mo_no))) (mo_bf (mo_bf (mo_bf mo_st mo_no) (mo_bf mo_cv mo_no)) (mo_bf mo_push mo_no))) (mo_bf (mo_bf (mo_bf (mo_bf mo_push mo_no) (mo_bf mo_ld mo_no)) (mo_bf (mo_bf mo_ret mo_no) (mo_bf mo_push mo_no))) (mo_bf (mo_bf (mo_bf mo_if mo_no) (mo_bf mo_cs mo_no)) (mo_bf mo_ld mo_no)))))
theorem ok_X12_holds_0 : ok_S 202 0 (sf_ld 2 0 1) := ok_aload_n (by decide +kernel : decode (mb_ 202) 0 = .ok (.aload_n 0, 1)) rfl
theorem ok_X12_holds_1 : ok_S 202 1 (sf_ld 0 1 2) := ok_iload_n (by decide +kernel : decode (mb_ 202) 1 = .ok (.iload_n 1, 1)) rfl
theorem ok_X12_holds_2 : ok_S 202 2 (sf_cv 13 [2, 0] 187 5) := ok_cv mt_187 cl_13 (by decide +kernel : decode (mb_ 202) 2 = .ok (.invokevirtual 185, 3)) tw_1342 tw_1344 ts_46 tw_7 rfl (by decide +kernel) (mh_ok rfl) (by decide) (by decide)
theorem ok_X12_holds_5 : ok_S 202 5 (sf_if 0 30 8) := ok_if0 (by decide +kernel : decode (mb_ 202) 5 = .ok (.ifCond .eq 25, 3)) (by decide)
theorem ok_X12_holds_8 : ok_S 202 8 (sf_ld 0 2 9) := ok_iload_n (by decide +kernel : decode (mb_ 202) 8 = .ok (.iload_n 2, 1)) rfl
theorem ok_X12_holds_9 : ok_S 202 9 (sf_cs [0] 160 12) := ok_cs mt_160 (by decide +kernel : decode (mb_ 202) 9 = .ok (.invokestatic 159, 3)) tw_1278 tw_1279 tw_7 (by decide +kernel) (mh_ok rfl) (by decide) (by decide)
theorem ok_X12_holds_12 : ok_S 202 12 (sf_if 0 30 15) := ok_if0 (by decide +kernel : decode (mb_ 202) 12 = .ok (.ifCond .eq 18, 3)) (by decide)
theorem ok_X12_holds_15 : ok_S 202 15 (sf_ld 0 3 16) := ok_iload_n (by decide +kernel : decode (mb_ 202) 15 = .ok (.iload_n 3, 1)) rfl
theorem ok_X12_holds_16 : ok_S 202 16 (sf_cs [0] 160 19) := ok_cs mt_160 (by decide +kernel : decode (mb_ 202) 16 = .ok (.invokestatic 159, 3)) tw_1278 tw_1279 tw_7 (by decide +kernel) (mh_ok rfl) (by decide) (by decide)
theorem ok_X12_holds_19 : ok_S 202 19 (sf_if 0 30 22) := ok_if0 (by decide +kernel : decode (mb_ 202) 19 = .ok (.ifCond .eq 11, 3)) (by decide)
theorem ok_X12_holds_22 : ok_S 202 22 (sf_ld 0 4 24) := ok_iload (by decide +kernel : decode (mb_ 202) 22 = .ok (.iload 4, 2))
theorem ok_X12_holds_24 : ok_S 202 24 (sf_cs [0] 160 27) := ok_cs mt_160 (by decide +kernel : decode (mb_ 202) 24 = .ok (.invokestatic 159, 3)) tw_1278 tw_1279 tw_7 (by decide +kernel) (mh_ok rfl) (by decide) (by decide)
theorem ok_X12_holds_27 : ok_S 202 27 (sf_if 1 32 30) := ok_if1 (by decide +kernel : decode (mb_ 202) 27 = .ok (.ifCond .ne 5, 3)) (by decide)
theorem ok_X12_holds_30 : ok_S 202 30 (sf_push (0, (-1)) 31) := ok_iconst (by decide +kernel : decode (mb_ 202) 30 = .ok (.iconst (-1), 1)) ⟨by decide, by decide⟩
theorem ok_X12_holds_31 : ok_S 202 31 (sf_ret 0) := ok_ret0 (by decide +kernel : decode (mb_ 202) 31 = .ok (.ireturn, 1)) rfl
theorem ok_X12_holds_32 : ok_S 202 32 (sf_ld 2 0 33) := ok_aload_n (by decide +kernel : decode (mb_ 202) 32 = .ok (.aload_n 0, 1)) rfl
theorem ok_X12_holds_33 : ok_S 202 33 (sf_gr 13 13 11 36) := ok_gr fd_13_11 (by decide +kernel : decode (mb_ 202) 33 = .ok (.getfield 22, 3)) tw_1137 (Or.inl rfl) rfl
theorem ok_X12_holds_36 : ok_S 202 36 (sf_push (0, 0) 37) := ok_iconst (by decide +kernel : decode (mb_ 202) 36 = .ok (.iconst 0, 1)) ⟨by decide, by decide⟩
theorem ok_X12_holds_37 : ok_S 202 37 (sf_ld 0 2 38) := ok_iload_n (by decide +kernel : decode (mb_ 202) 37 = .ok (.iload_n 2, 1)) rfl
theorem ok_X12_holds_38 : ok_S 202 38 (sf_iast 39) := ok_iast (by decide +kernel : decode (mb_ 202) 38 = .ok (.iastore, 1))
theorem ok_X12_holds_39 : ok_S 202 39 (sf_ld 2 0 40) := ok_aload_n (by decide +kernel : decode (mb_ 202) 39 = .ok (.aload_n 0, 1)) rfl
theorem ok_X12_holds_40 : ok_S 202 40 (sf_gr 13 13 11 43) := ok_gr fd_13_11 (by decide +kernel : decode (mb_ 202) 40 = .ok (.getfield 22, 3)) tw_1137 (Or.inl rfl) rfl
theorem ok_X12_holds_43 : ok_S 202 43 (sf_push (0, 1) 44) := ok_iconst (by decide +kernel : decode (mb_ 202) 43 = .ok (.iconst 1, 1)) ⟨by decide, by decide⟩
theorem ok_X12_holds_44 : ok_S 202 44 (sf_ld 0 3 45) := ok_iload_n (by decide +kernel : decode (mb_ 202) 44 = .ok (.iload_n 3, 1)) rfl
theorem ok_X12_holds_45 : ok_S 202 45 (sf_iast 46) := ok_iast (by decide +kernel : decode (mb_ 202) 45 = .ok (.iastore, 1))
theorem ok_X12_holds_46 : ok_S 202 46 (sf_ld 2 0 47) := ok_aload_n (by decide +kernel : decode (mb_ 202) 46 = .ok (.aload_n 0, 1)) rfl
theorem ok_X12_holds_47 : ok_S 202 47 (sf_gr 13 13 11 50) := ok_gr fd_13_11 (by decide +kernel : decode (mb_ 202) 47 = .ok (.getfield 22, 3)) tw_1137 (Or.inl rfl) rfl
theorem ok_X12_holds_50 : ok_S 202 50 (sf_push (0, 2) 51) := ok_iconst (by decide +kernel : decode (mb_ 202) 50 = .ok (.iconst 2, 1)) ⟨by decide, by decide⟩
theorem ok_X12_holds_51 : ok_S 202 51 (sf_ld 0 4 53) := ok_iload (by decide +kernel : decode (mb_ 202) 51 = .ok (.iload 4, 2))
theorem ok_X12_holds_53 : ok_S 202 53 (sf_iast 54) := ok_iast (by decide +kernel : decode (mb_ 202) 53 = .ok (.iastore, 1))
theorem ok_X12_holds_54 : ok_S 202 54 (sf_ld 2 0 55) := ok_aload_n (by decide +kernel : decode (mb_ 202) 54 = .ok (.aload_n 0, 1)) rfl
theorem ok_X12_holds_55 : ok_S 202 55 (sf_ld 0 1 56) := ok_iload_n (by decide +kernel : decode (mb_ 202) 55 = .ok (.iload_n 1, 1)) rfl
theorem ok_X12_holds_56 : ok_S 202 56 (sf_cv 13 [2, 0] 192 59) := ok_cv mt_192 cl_13 (by decide +kernel : decode (mb_ 202) 56 = .ok (.invokevirtual 195, 3)) tw_1370 tw_1372 ts_51 tw_7 rfl (by decide +kernel) (mh_ok rfl) (by decide) (by decide)
theorem ok_X12_holds_59 : ok_S 202 59 (sf_if 0 66 62) := ok_if0 (by decide +kernel : decode (mb_ 202) 59 = .ok (.ifCond .eq 7, 3)) (by decide)
theorem ok_X12_holds_62 : ok_S 202 62 (sf_push (0, 1) 63) := ok_iconst (by decide +kernel : decode (mb_ 202) 62 = .ok (.iconst 1, 1)) ⟨by decide, by decide⟩
theorem ok_X12_holds_63 : ok_S 202 63 (sf_go 67) := ok_goto (by decide +kernel : decode (mb_ 202) 63 = .ok (.goto 4, 3)) (by decide)
theorem ok_X12_holds_66 : ok_S 202 66 (sf_push (0, 0) 67) := ok_iconst (by decide +kernel : decode (mb_ 202) 66 = .ok (.iconst 0, 1)) ⟨by decide, by decide⟩
theorem ok_X12_holds_67 : ok_S 202 67 (sf_ret 0) := ok_ret0 (by decide +kernel : decode (mb_ 202) 67 = .ok (.ireturn, 1)) rfl
theorem ok_X12_holds (pc : Nat) : ok_S 202 pc (cd_X12_holds pc) :=
  (ok_bf (ok_bf (ok_bf (ok_bf (ok_bf (ok_bf (ok_lf pc ok_X12_holds_67) (ok_lf pc ok_X12_holds_66)) (ok_lf pc ok_X12_holds_63)) (ok_bf (ok_lf pc ok_X12_holds_62) (ok_lf pc ok_X12_holds_59))) (ok_bf (ok_bf (ok_bf (ok_lf pc ok_X12_holds_56) (ok_lf pc ok_X12_holds_55)) (ok_lf pc ok_X12_holds_54)) (ok_bf (ok_lf pc ok_X12_holds_53) (ok_lf pc ok_X12_holds_51)))) (ok_bf (ok_bf (ok_bf (ok_bf (ok_lf pc ok_X12_holds_50) (ok_lf pc ok_X12_holds_47)) (ok_lf pc ok_X12_holds_46)) (ok_bf (ok_lf pc ok_X12_holds_45) (ok_lf pc ok_X12_holds_44))) (ok_bf (ok_bf (ok_lf pc ok_X12_holds_43) (ok_lf pc ok_X12_holds_40)) (ok_bf (ok_lf pc ok_X12_holds_39) (ok_lf pc ok_X12_holds_38))))) (ok_bf (ok_bf (ok_bf (ok_bf (ok_bf (ok_lf pc ok_X12_holds_37) (ok_lf pc ok_X12_holds_36)) (ok_lf pc ok_X12_holds_33)) (ok_bf (ok_lf pc ok_X12_holds_32) (ok_lf pc ok_X12_holds_31))) (ok_bf (ok_bf (ok_bf (ok_lf pc ok_X12_holds_30) (ok_lf pc ok_X12_holds_27)) (ok_lf pc ok_X12_holds_24)) (ok_bf (ok_lf pc ok_X12_holds_22) (ok_lf pc ok_X12_holds_19)))) (ok_bf (ok_bf (ok_bf (ok_bf (ok_lf pc ok_X12_holds_16) (ok_lf pc ok_X12_holds_15)) (ok_lf pc ok_X12_holds_12)) (ok_bf (ok_lf pc ok_X12_holds_9) (ok_lf pc ok_X12_holds_8))) (ok_bf (ok_bf (ok_lf pc ok_X12_holds_5) (ok_lf pc ok_X12_holds_2)) (ok_bf (ok_lf pc ok_X12_holds_1) (ok_lf pc ok_X12_holds_0))))))
theorem mo_X12_holds (pc : Nat) : mo_S (cd_X12_holds pc) :=
  (mo_bf (mo_bf (mo_bf (mo_bf (mo_bf (mo_bf (mo_bf mo_ret mo_no) (mo_bf mo_push mo_no)) (mo_bf mo_go mo_no)) (mo_bf (mo_bf mo_push mo_no) (mo_bf mo_if mo_no))) (mo_bf (mo_bf (mo_bf (mo_bf mo_cv mo_no) (mo_bf mo_ld mo_no)) (mo_bf mo_ld mo_no)) (mo_bf (mo_bf mo_iast mo_no) (mo_bf mo_ld mo_no)))) (mo_bf (mo_bf (mo_bf (mo_bf (mo_bf mo_push mo_no) (mo_bf mo_gr mo_no)) (mo_bf mo_ld mo_no)) (mo_bf (mo_bf mo_iast mo_no) (mo_bf mo_ld mo_no))) (mo_bf (mo_bf (mo_bf mo_push mo_no) (mo_bf mo_gr mo_no)) (mo_bf (mo_bf mo_ld mo_no) (mo_bf mo_iast mo_no))))) (mo_bf (mo_bf (mo_bf (mo_bf (mo_bf (mo_bf mo_ld mo_no) (mo_bf mo_push mo_no)) (mo_bf mo_gr mo_no)) (mo_bf (mo_bf mo_ld mo_no) (mo_bf mo_ret mo_no))) (mo_bf (mo_bf (mo_bf (mo_bf mo_push mo_no) (mo_bf mo_if mo_no)) (mo_bf mo_cs mo_no)) (mo_bf (mo_bf mo_ld mo_no) (mo_bf mo_if mo_no)))) (mo_bf (mo_bf (mo_bf (mo_bf (mo_bf mo_cs mo_no) (mo_bf mo_ld mo_no)) (mo_bf mo_if mo_no)) (mo_bf (mo_bf mo_cs mo_no) (mo_bf mo_ld mo_no))) (mo_bf (mo_bf (mo_bf mo_if mo_no) (mo_bf mo_cv mo_no)) (mo_bf (mo_bf mo_ld mo_no) (mo_bf mo_ld mo_no))))))
theorem ok_X12_many_0 : ok_S 203 0 (sf_push (0, 0) 1) := ok_iconst (by decide +kernel : decode (mb_ 203) 0 = .ok (.iconst 0, 1)) ⟨by decide, by decide⟩
theorem ok_X12_many_1 : ok_S 203 1 (sf_st 0 2 2) := ok_istore_n (by decide +kernel : decode (mb_ 203) 1 = .ok (.istore_n 2, 1)) rfl
theorem ok_X12_many_2 : ok_S 203 2 (sf_push (0, 0) 3) := ok_iconst (by decide +kernel : decode (mb_ 203) 2 = .ok (.iconst 0, 1)) ⟨by decide, by decide⟩
theorem ok_X12_many_3 : ok_S 203 3 (sf_st 0 3 4) := ok_istore_n (by decide +kernel : decode (mb_ 203) 3 = .ok (.istore_n 3, 1)) rfl
theorem ok_X12_many_4 : ok_S 203 4 (sf_ld 0 3 5) := ok_iload_n (by decide +kernel : decode (mb_ 203) 4 = .ok (.iload_n 3, 1)) rfl
theorem ok_X12_many_5 : ok_S 203 5 (sf_ld 0 1 6) := ok_iload_n (by decide +kernel : decode (mb_ 203) 5 = .ok (.iload_n 1, 1)) rfl
theorem ok_X12_many_6 : ok_S 203 6 (sf_ic 3 23 9) := ok_ic3 (by decide +kernel : decode (mb_ 203) 6 = .ok (.if_icmp .ge 17, 3)) (by decide)
theorem ok_X12_many_9 : ok_S 203 9 (sf_ld 0 2 10) := ok_iload_n (by decide +kernel : decode (mb_ 203) 9 = .ok (.iload_n 2, 1)) rfl
theorem ok_X12_many_10 : ok_S 203 10 (sf_ld 0 0 11) := ok_iload_n (by decide +kernel : decode (mb_ 203) 10 = .ok (.iload_n 0, 1)) rfl
theorem ok_X12_many_11 : ok_S 203 11 (sf_ld 0 3 12) := ok_iload_n (by decide +kernel : decode (mb_ 203) 11 = .ok (.iload_n 3, 1)) rfl
theorem ok_X12_many_12 : ok_S 203 12 (sf_i2 mx_shr 13) := ok_ishr (by decide +kernel : decode (mb_ 203) 12 = .ok (.ishr, 1))
theorem ok_X12_many_13 : ok_S 203 13 (sf_push (0, 1) 14) := ok_iconst (by decide +kernel : decode (mb_ 203) 13 = .ok (.iconst 1, 1)) ⟨by decide, by decide⟩
theorem ok_X12_many_14 : ok_S 203 14 (sf_i2 mx_and 15) := ok_iand (by decide +kernel : decode (mb_ 203) 14 = .ok (.iand, 1))
theorem ok_X12_many_15 : ok_S 203 15 (sf_i2 mx_add 16) := ok_iadd (by decide +kernel : decode (mb_ 203) 15 = .ok (.iadd, 1))
theorem ok_X12_many_16 : ok_S 203 16 (sf_st 0 2 17) := ok_istore_n (by decide +kernel : decode (mb_ 203) 16 = .ok (.istore_n 2, 1)) rfl
theorem ok_X12_many_17 : ok_S 203 17 (sf_inc 3 1 20) := ok_iinc (by decide +kernel : decode (mb_ 203) 17 = .ok (.iinc 3 1, 3))
theorem ok_X12_many_20 : ok_S 203 20 (sf_go 4) := ok_goto (by decide +kernel : decode (mb_ 203) 20 = .ok (.goto (-16), 3)) (by decide)
theorem ok_X12_many_23 : ok_S 203 23 (sf_ld 0 2 24) := ok_iload_n (by decide +kernel : decode (mb_ 203) 23 = .ok (.iload_n 2, 1)) rfl
theorem ok_X12_many_24 : ok_S 203 24 (sf_ret 0) := ok_ret0 (by decide +kernel : decode (mb_ 203) 24 = .ok (.ireturn, 1)) rfl
theorem ok_X12_many (pc : Nat) : ok_S 203 pc (cd_X12_many pc) :=
  (ok_bf (ok_bf (ok_bf (ok_bf (ok_bf (ok_lf pc ok_X12_many_24) (ok_lf pc ok_X12_many_23)) (ok_lf pc ok_X12_many_20)) (ok_bf (ok_lf pc ok_X12_many_17) (ok_lf pc ok_X12_many_16))) (ok_bf (ok_bf (ok_bf (ok_lf pc ok_X12_many_15) (ok_lf pc ok_X12_many_14)) (ok_lf pc ok_X12_many_13)) (ok_bf (ok_lf pc ok_X12_many_12) (ok_lf pc ok_X12_many_11)))) (ok_bf (ok_bf (ok_bf (ok_bf (ok_lf pc ok_X12_many_10) (ok_lf pc ok_X12_many_9)) (ok_lf pc ok_X12_many_6)) (ok_bf (ok_lf pc ok_X12_many_5) (ok_lf pc ok_X12_many_4))) (ok_bf (ok_bf (ok_lf pc ok_X12_many_3) (ok_lf pc ok_X12_many_2)) (ok_bf (ok_lf pc ok_X12_many_1) (ok_lf pc ok_X12_many_0)))))
theorem mo_X12_many (pc : Nat) : mo_S (cd_X12_many pc) :=
  (mo_bf (mo_bf (mo_bf (mo_bf (mo_bf (mo_bf mo_ret mo_no) (mo_bf mo_ld mo_no)) (mo_bf mo_go mo_no)) (mo_bf (mo_bf mo_inc mo_no) (mo_bf mo_st mo_no))) (mo_bf (mo_bf (mo_bf (mo_bf mo_i2 mo_no) (mo_bf mo_i2 mo_no)) (mo_bf mo_push mo_no)) (mo_bf (mo_bf mo_i2 mo_no) (mo_bf mo_ld mo_no)))) (mo_bf (mo_bf (mo_bf (mo_bf (mo_bf mo_ld mo_no) (mo_bf mo_ld mo_no)) (mo_bf mo_ic mo_no)) (mo_bf (mo_bf mo_ld mo_no) (mo_bf mo_ld mo_no))) (mo_bf (mo_bf (mo_bf mo_st mo_no) (mo_bf mo_push mo_no)) (mo_bf (mo_bf mo_st mo_no) (mo_bf mo_push mo_no)))))
theorem ok_X12_proof_0 : ok_S 204 0 (sf_ld 2 0 1) := ok_aload_n (by decide +kernel : decode (mb_ 204) 0 = .ok (.aload_n 0, 1)) rfl
theorem ok_X12_proof_1 : ok_S 204 1 (sf_push (0, 63) 3) := ok_bipush (by decide +kernel : decode (mb_ 204) 1 = .ok (.bipush 63, 2)) ⟨by decide, by decide⟩ (by decide +kernel)
theorem ok_X12_proof_3 : ok_S 204 3 (sf_cv 13 [2, 0] 197 6) := ok_cv mt_197 cl_13 (by decide +kernel : decode (mb_ 204) 3 = .ok (.invokevirtual 210, 3)) tw_1402 tw_1404 ts_54 tw_7 rfl (by decide +kernel) (mh_ok rfl) (by decide) (by decide)
theorem ok_X12_proof_6 : ok_S 204 6 (sf_if 0 12 9) := ok_if0 (by decide +kernel : decode (mb_ 204) 6 = .ok (.ifCond .eq 6, 3)) (by decide)
theorem ok_X12_proof_9 : ok_S 204 9 (sf_push (0, (-3)) 11) := ok_bipush (by decide +kernel : decode (mb_ 204) 9 = .ok (.bipush (-3), 2)) ⟨by decide, by decide⟩ (by decide +kernel)
theorem ok_X12_proof_11 : ok_S 204 11 (sf_ret 0) := ok_ret0 (by decide +kernel : decode (mb_ 204) 11 = .ok (.ireturn, 1)) rfl
theorem ok_X12_proof_12 : ok_S 204 12 (sf_push (0, (-1)) 13) := ok_iconst (by decide +kernel : decode (mb_ 204) 12 = .ok (.iconst (-1), 1)) ⟨by decide, by decide⟩
theorem ok_X12_proof_13 : ok_S 204 13 (sf_st 0 1 14) := ok_istore_n (by decide +kernel : decode (mb_ 204) 13 = .ok (.istore_n 1, 1)) rfl
theorem ok_X12_proof_14 : ok_S 204 14 (sf_push (0, 0) 15) := ok_iconst (by decide +kernel : decode (mb_ 204) 14 = .ok (.iconst 0, 1)) ⟨by decide, by decide⟩
theorem ok_X12_proof_15 : ok_S 204 15 (sf_st 0 2 16) := ok_istore_n (by decide +kernel : decode (mb_ 204) 15 = .ok (.istore_n 2, 1)) rfl
theorem ok_X12_proof_16 : ok_S 204 16 (sf_ld 0 2 17) := ok_iload_n (by decide +kernel : decode (mb_ 204) 16 = .ok (.iload_n 2, 1)) rfl
theorem ok_X12_proof_17 : ok_S 204 17 (sf_push (0, 1) 18) := ok_iconst (by decide +kernel : decode (mb_ 204) 17 = .ok (.iconst 1, 1)) ⟨by decide, by decide⟩
theorem ok_X12_proof_18 : ok_S 204 18 (sf_ld 2 0 19) := ok_aload_n (by decide +kernel : decode (mb_ 204) 18 = .ok (.aload_n 0, 1)) rfl
theorem ok_X12_proof_19 : ok_S 204 19 (sf_gr 13 13 0 22) := ok_gr fd_13_0 (by decide +kernel : decode (mb_ 204) 19 = .ok (.getfield 7, 3)) tw_1126 (Or.inl rfl) rfl
theorem ok_X12_proof_22 : ok_S 204 22 (sf_push (0, 1) 23) := ok_iconst (by decide +kernel : decode (mb_ 204) 22 = .ok (.iconst 1, 1)) ⟨by decide, by decide⟩
theorem ok_X12_proof_23 : ok_S 204 23 (sf_iald 24) := ok_iald (by decide +kernel : decode (mb_ 204) 23 = .ok (.iaload, 1))
theorem ok_X12_proof_24 : ok_S 204 24 (sf_i2 mx_shl 25) := ok_ishl (by decide +kernel : decode (mb_ 204) 24 = .ok (.ishl, 1))
theorem ok_X12_proof_25 : ok_S 204 25 (sf_ic 3 77 28) := ok_ic3 (by decide +kernel : decode (mb_ 204) 25 = .ok (.if_icmp .ge 52, 3)) (by decide)
theorem ok_X12_proof_28 : ok_S 204 28 (sf_ld 0 1 29) := ok_iload_n (by decide +kernel : decode (mb_ 204) 28 = .ok (.iload_n 1, 1)) rfl
theorem ok_X12_proof_29 : ok_S 204 29 (sf_if 2 47 32) := ok_if2 (by decide +kernel : decode (mb_ 204) 29 = .ok (.ifCond .lt 18, 3)) (by decide)
theorem ok_X12_proof_32 : ok_S 204 32 (sf_ld 0 2 33) := ok_iload_n (by decide +kernel : decode (mb_ 204) 32 = .ok (.iload_n 2, 1)) rfl
theorem ok_X12_proof_33 : ok_S 204 33 (sf_push (0, 6) 35) := ok_bipush (by decide +kernel : decode (mb_ 204) 33 = .ok (.bipush 6, 2)) ⟨by decide, by decide⟩ (by decide +kernel)
theorem ok_X12_proof_35 : ok_S 204 35 (sf_cs [0, 0] 203 38) := ok_cs mt_203 (by decide +kernel : decode (mb_ 204) 35 = .ok (.invokestatic 213, 3)) tw_1406 tw_1407 tw_7 (by decide +kernel) (mh_ok rfl) (by decide) (by decide)
theorem ok_X12_proof_38 : ok_S 204 38 (sf_ld 0 1 39) := ok_iload_n (by decide +kernel : decode (mb_ 204) 38 = .ok (.iload_n 1, 1)) rfl
theorem ok_X12_proof_39 : ok_S 204 39 (sf_push (0, 6) 41) := ok_bipush (by decide +kernel : decode (mb_ 204) 39 = .ok (.bipush 6, 2)) ⟨by decide, by decide⟩ (by decide +kernel)
theorem ok_X12_proof_41 : ok_S 204 41 (sf_cs [0, 0] 203 44) := ok_cs mt_203 (by decide +kernel : decode (mb_ 204) 41 = .ok (.invokestatic 213, 3)) tw_1406 tw_1407 tw_7 (by decide +kernel) (mh_ok rfl) (by decide) (by decide)
theorem ok_X12_proof_44 : ok_S 204 44 (sf_ic 3 51 47) := ok_ic3 (by decide +kernel : decode (mb_ 204) 44 = .ok (.if_icmp .ge 7, 3)) (by decide)
theorem ok_X12_proof_47 : ok_S 204 47 (sf_push (0, 1) 48) := ok_iconst (by decide +kernel : decode (mb_ 204) 47 = .ok (.iconst 1, 1)) ⟨by decide, by decide⟩
theorem ok_X12_proof_48 : ok_S 204 48 (sf_go 52) := ok_goto (by decide +kernel : decode (mb_ 204) 48 = .ok (.goto 4, 3)) (by decide)
theorem ok_X12_proof_51 : ok_S 204 51 (sf_push (0, 0) 52) := ok_iconst (by decide +kernel : decode (mb_ 204) 51 = .ok (.iconst 0, 1)) ⟨by decide, by decide⟩
theorem ok_X12_proof_52 : ok_S 204 52 (sf_st 0 3 53) := ok_istore_n (by decide +kernel : decode (mb_ 204) 52 = .ok (.istore_n 3, 1)) rfl
theorem ok_X12_proof_53 : ok_S 204 53 (sf_ld 0 3 54) := ok_iload_n (by decide +kernel : decode (mb_ 204) 53 = .ok (.iload_n 3, 1)) rfl
theorem ok_X12_proof_54 : ok_S 204 54 (sf_if 0 69 57) := ok_if0 (by decide +kernel : decode (mb_ 204) 54 = .ok (.ifCond .eq 15, 3)) (by decide)
theorem ok_X12_proof_57 : ok_S 204 57 (sf_ld 2 0 58) := ok_aload_n (by decide +kernel : decode (mb_ 204) 57 = .ok (.aload_n 0, 1)) rfl
theorem ok_X12_proof_58 : ok_S 204 58 (sf_ld 0 2 59) := ok_iload_n (by decide +kernel : decode (mb_ 204) 58 = .ok (.iload_n 2, 1)) rfl
theorem ok_X12_proof_59 : ok_S 204 59 (sf_cv 13 [2, 0] 197 62) := ok_cv mt_197 cl_13 (by decide +kernel : decode (mb_ 204) 59 = .ok (.invokevirtual 210, 3)) tw_1402 tw_1404 ts_54 tw_7 rfl (by decide +kernel) (mh_ok rfl) (by decide) (by decide)
theorem ok_X12_proof_62 : ok_S 204 62 (sf_if 1 69 65) := ok_if1 (by decide +kernel : decode (mb_ 204) 62 = .ok (.ifCond .ne 7, 3)) (by decide)
theorem ok_X12_proof_65 : ok_S 204 65 (sf_ld 0 2 66) := ok_iload_n (by decide +kernel : decode (mb_ 204) 65 = .ok (.iload_n 2, 1)) rfl
theorem ok_X12_proof_66 : ok_S 204 66 (sf_go 70) := ok_goto (by decide +kernel : decode (mb_ 204) 66 = .ok (.goto 4, 3)) (by decide)
theorem ok_X12_proof_69 : ok_S 204 69 (sf_ld 0 1 70) := ok_iload_n (by decide +kernel : decode (mb_ 204) 69 = .ok (.iload_n 1, 1)) rfl
theorem ok_X12_proof_70 : ok_S 204 70 (sf_st 0 1 71) := ok_istore_n (by decide +kernel : decode (mb_ 204) 70 = .ok (.istore_n 1, 1)) rfl
theorem ok_X12_proof_71 : ok_S 204 71 (sf_inc 2 1 74) := ok_iinc (by decide +kernel : decode (mb_ 204) 71 = .ok (.iinc 2 1, 3))
theorem ok_X12_proof_74 : ok_S 204 74 (sf_go 16) := ok_goto (by decide +kernel : decode (mb_ 204) 74 = .ok (.goto (-58), 3)) (by decide)
theorem ok_X12_proof_77 : ok_S 204 77 (sf_ld 0 1 78) := ok_iload_n (by decide +kernel : decode (mb_ 204) 77 = .ok (.iload_n 1, 1)) rfl
theorem ok_X12_proof_78 : ok_S 204 78 (sf_ret 0) := ok_ret0 (by decide +kernel : decode (mb_ 204) 78 = .ok (.ireturn, 1)) rfl
theorem ok_X12_proof (pc : Nat) : ok_S 204 pc (cd_X12_proof pc) :=
  (ok_bf (ok_bf (ok_bf (ok_bf (ok_bf (ok_bf (ok_lf pc ok_X12_proof_78) (ok_lf pc ok_X12_proof_77)) (ok_lf pc ok_X12_proof_74)) (ok_bf (ok_bf (ok_lf pc ok_X12_proof_71) (ok_lf pc ok_X12_proof_70)) (ok_lf pc ok_X12_proof_69))) (ok_bf (ok_bf (ok_bf (ok_lf pc ok_X12_proof_66) (ok_lf pc ok_X12_proof_65)) (ok_lf pc ok_X12_proof_62)) (ok_bf (ok_bf (ok_lf pc ok_X12_proof_59) (ok_lf pc ok_X12_proof_58)) (ok_lf pc ok_X12_proof_57)))) (ok_bf (ok_bf (ok_bf (ok_bf (ok_lf pc ok_X12_proof_54) (ok_lf pc ok_X12_proof_53)) (ok_lf pc ok_X12_proof_52)) (ok_bf (ok_bf (ok_lf pc ok_X12_proof_51) (ok_lf pc ok_X12_proof_48)) (ok_lf pc ok_X12_proof_47))) (ok_bf (ok_bf (ok_bf (ok_lf pc ok_X12_proof_44) (ok_lf pc ok_X12_proof_41)) (ok_lf pc ok_X12_proof_39)) (ok_bf (ok_lf pc ok_X12_proof_38) (ok_lf pc ok_X12_proof_35))))) (ok_bf (ok_bf (ok_bf (ok_bf (ok_bf (ok_lf pc ok_X12_proof_33) (ok_lf pc ok_X12_proof_32)) (ok_lf pc ok_X12_proof_29)) (ok_bf (ok_bf (ok_lf pc ok_X12_proof_28) (ok_lf pc ok_X12_proof_25)) (ok_lf pc ok_X12_proof_24))) (ok_bf (ok_bf (ok_bf (ok_lf pc ok_X12_proof_23) (ok_lf pc ok_X12_proof_22)) (ok_lf pc ok_X12_proof_19)) (ok_bf (ok_lf pc ok_X12_proof_18) (ok_lf pc ok_X12_proof_17)))) (ok_bf (ok_bf (ok_bf (ok_bf (ok_lf pc ok_X12_proof_16) (ok_lf pc ok_X12_proof_15)) (ok_lf pc ok_X12_proof_14)) (ok_bf (ok_bf (ok_lf pc ok_X12_proof_13) (ok_lf pc ok_X12_proof_12)) (ok_lf pc ok_X12_proof_11))) (ok_bf (ok_bf (ok_bf (ok_lf pc ok_X12_proof_9) (ok_lf pc ok_X12_proof_6)) (ok_lf pc ok_X12_proof_3)) (ok_bf (ok_lf pc ok_X12_proof_1) (ok_lf pc ok_X12_proof_0))))))
theorem mo_X12_proof (pc : Nat) : mo_S (cd_X12_proof pc) :=
  (mo_bf (mo_bf (mo_bf (mo_bf (mo_bf (mo_bf (mo_bf mo_ret mo_no) (mo_bf mo_ld mo_no)) (mo_bf mo_go mo_no)) (mo_bf (mo_bf (mo_bf mo_inc mo_no) (mo_bf mo_st mo_no)) (mo_bf mo_ld mo_no))) (mo_bf (mo_bf (mo_bf (mo_bf mo_go mo_no) (mo_bf mo_ld mo_no)) (mo_bf mo_if mo_no)) (mo_bf (mo_bf (mo_bf mo_cv mo_no) (mo_bf mo_ld mo_no)) (mo_bf mo_ld mo_no)))) (mo_bf (mo_bf (mo_bf (mo_bf (mo_bf mo_if mo_no) (mo_bf mo_ld mo_no)) (mo_bf mo_st mo_no)) (mo_bf (mo_bf (mo_bf mo_push mo_no) (mo_bf mo_go mo_no)) (mo_bf mo_push mo_no))) (mo_bf (mo_bf (mo_bf (mo_bf mo_ic mo_no) (mo_bf mo_cs mo_no)) (mo_bf mo_push mo_no)) (mo_bf (mo_bf mo_ld mo_no) (mo_bf mo_cs mo_no))))) (mo_bf (mo_bf (mo_bf (mo_bf (mo_bf (mo_bf mo_push mo_no) (mo_bf mo_ld mo_no)) (mo_bf mo_if mo_no)) (mo_bf (mo_bf (mo_bf mo_ld mo_no) (mo_bf mo_ic mo_no)) (mo_bf mo_i2 mo_no))) (mo_bf (mo_bf (mo_bf (mo_bf mo_iald mo_no) (mo_bf mo_push mo_no)) (mo_bf mo_gr mo_no)) (mo_bf (mo_bf mo_ld mo_no) (mo_bf mo_push mo_no)))) (mo_bf (mo_bf (mo_bf (mo_bf (mo_bf mo_ld mo_no) (mo_bf mo_st mo_no)) (mo_bf mo_push mo_no)) (mo_bf (mo_bf (mo_bf mo_st mo_no) (mo_bf mo_push mo_no)) (mo_bf mo_ret mo_no))) (mo_bf (mo_bf (mo_bf (mo_bf mo_push mo_no) (mo_bf mo_if mo_no)) (mo_bf mo_cv mo_no)) (mo_bf (mo_bf mo_push mo_no) (mo_bf mo_ld mo_no))))))
theorem ok_X12_mended_0 : ok_S 205 0 (sf_ld 0 1 1) := ok_iload_n (by decide +kernel : decode (mb_ 205) 0 = .ok (.iload_n 1, 1)) rfl
theorem ok_X12_mended_1 : ok_S 205 1 (sf_push (0, 0) 2) := ok_iconst (by decide +kernel : decode (mb_ 205) 1 = .ok (.iconst 0, 1)) ⟨by decide, by decide⟩
theorem ok_X12_mended_2 : ok_S 205 2 (sf_push (0, 2) 3) := ok_iconst (by decide +kernel : decode (mb_ 205) 2 = .ok (.iconst 2, 1)) ⟨by decide, by decide⟩
theorem ok_X12_mended_3 : ok_S 205 3 (sf_cs [0, 0, 0] 157 6) := ok_cs mt_157 (by decide +kernel : decode (mb_ 205) 3 = .ok (.invokestatic 56, 3)) tw_1206 tw_1207 tw_7 (by decide +kernel) (mh_ok rfl) (by decide) (by decide)
theorem ok_X12_mended_6 : ok_S 205 6 (sf_if 1 11 9) := ok_if1 (by decide +kernel : decode (mb_ 205) 6 = .ok (.ifCond .ne 5, 3)) (by decide)
theorem ok_X12_mended_9 : ok_S 205 9 (sf_push (0, (-1)) 10) := ok_iconst (by decide +kernel : decode (mb_ 205) 9 = .ok (.iconst (-1), 1)) ⟨by decide, by decide⟩
theorem ok_X12_mended_10 : ok_S 205 10 (sf_ret 0) := ok_ret0 (by decide +kernel : decode (mb_ 205) 10 = .ok (.ireturn, 1)) rfl
theorem ok_X12_mended_11 : ok_S 205 11 (sf_ld 2 0 12) := ok_aload_n (by decide +kernel : decode (mb_ 205) 11 = .ok (.aload_n 0, 1)) rfl
theorem ok_X12_mended_12 : ok_S 205 12 (sf_push (0, 63) 14) := ok_bipush (by decide +kernel : decode (mb_ 205) 12 = .ok (.bipush 63, 2)) ⟨by decide, by decide⟩ (by decide +kernel)
theorem ok_X12_mended_14 : ok_S 205 14 (sf_cv 13 [2, 0] 197 17) := ok_cv mt_197 cl_13 (by decide +kernel : decode (mb_ 205) 14 = .ok (.invokevirtual 210, 3)) tw_1402 tw_1404 ts_54 tw_7 rfl (by decide +kernel) (mh_ok rfl) (by decide) (by decide)
theorem ok_X12_mended_17 : ok_S 205 17 (sf_if 0 23 20) := ok_if0 (by decide +kernel : decode (mb_ 205) 17 = .ok (.ifCond .eq 6, 3)) (by decide)
theorem ok_X12_mended_20 : ok_S 205 20 (sf_push (0, (-4)) 22) := ok_bipush (by decide +kernel : decode (mb_ 205) 20 = .ok (.bipush (-4), 2)) ⟨by decide, by decide⟩ (by decide +kernel)
theorem ok_X12_mended_22 : ok_S 205 22 (sf_ret 0) := ok_ret0 (by decide +kernel : decode (mb_ 205) 22 = .ok (.ireturn, 1)) rfl
theorem ok_X12_mended_23 : ok_S 205 23 (sf_push (0, 0) 24) := ok_iconst (by decide +kernel : decode (mb_ 205) 23 = .ok (.iconst 0, 1)) ⟨by decide, by decide⟩
theorem ok_X12_mended_24 : ok_S 205 24 (sf_st 0 2 25) := ok_istore_n (by decide +kernel : decode (mb_ 205) 24 = .ok (.istore_n 2, 1)) rfl
theorem ok_X12_mended_25 : ok_S 205 25 (sf_ld 0 2 26) := ok_iload_n (by decide +kernel : decode (mb_ 205) 25 = .ok (.iload_n 2, 1)) rfl
theorem ok_X12_mended_26 : ok_S 205 26 (sf_ld 2 0 27) := ok_aload_n (by decide +kernel : decode (mb_ 205) 26 = .ok (.aload_n 0, 1)) rfl
theorem ok_X12_mended_27 : ok_S 205 27 (sf_gr 13 13 0 30) := ok_gr fd_13_0 (by decide +kernel : decode (mb_ 205) 27 = .ok (.getfield 7, 3)) tw_1126 (Or.inl rfl) rfl
theorem ok_X12_mended_30 : ok_S 205 30 (sf_push (0, 0) 31) := ok_iconst (by decide +kernel : decode (mb_ 205) 30 = .ok (.iconst 0, 1)) ⟨by decide, by decide⟩
theorem ok_X12_mended_31 : ok_S 205 31 (sf_iald 32) := ok_iald (by decide +kernel : decode (mb_ 205) 31 = .ok (.iaload, 1))
theorem ok_X12_mended_32 : ok_S 205 32 (sf_push (0, 6) 34) := ok_bipush (by decide +kernel : decode (mb_ 205) 32 = .ok (.bipush 6, 2)) ⟨by decide, by decide⟩ (by decide +kernel)
theorem ok_X12_mended_34 : ok_S 205 34 (sf_i2 mx_mul 35) := ok_imul (by decide +kernel : decode (mb_ 205) 34 = .ok (.imul, 1))
theorem ok_X12_mended_35 : ok_S 205 35 (sf_push (0, 16) 37) := ok_bipush (by decide +kernel : decode (mb_ 205) 35 = .ok (.bipush 16, 2)) ⟨by decide, by decide⟩ (by decide +kernel)
theorem ok_X12_mended_37 : ok_S 205 37 (sf_i2 mx_mul 38) := ok_imul (by decide +kernel : decode (mb_ 205) 37 = .ok (.imul, 1))
theorem ok_X12_mended_38 : ok_S 205 38 (sf_ic 3 147 41) := ok_ic3 (by decide +kernel : decode (mb_ 205) 38 = .ok (.if_icmp .ge 109, 3)) (by decide)
theorem ok_X12_mended_41 : ok_S 205 41 (sf_ld 0 2 42) := ok_iload_n (by decide +kernel : decode (mb_ 205) 41 = .ok (.iload_n 2, 1)) rfl
theorem ok_X12_mended_42 : ok_S 205 42 (sf_push (0, 96) 44) := ok_bipush (by decide +kernel : decode (mb_ 205) 42 = .ok (.bipush 96, 2)) ⟨by decide, by decide⟩ (by decide +kernel)
theorem ok_X12_mended_44 : ok_S 205 44 (sf_i2d mx_div 45) := ok_idiv (by decide +kernel : decode (mb_ 205) 44 = .ok (.idiv, 1))
theorem ok_X12_mended_45 : ok_S 205 45 (sf_st 0 3 46) := ok_istore_n (by decide +kernel : decode (mb_ 205) 45 = .ok (.istore_n 3, 1)) rfl
theorem ok_X12_mended_46 : ok_S 205 46 (sf_ld 0 2 47) := ok_iload_n (by decide +kernel : decode (mb_ 205) 46 = .ok (.iload_n 2, 1)) rfl
theorem ok_X12_mended_47 : ok_S 205 47 (sf_push (0, 16) 49) := ok_bipush (by decide +kernel : decode (mb_ 205) 47 = .ok (.bipush 16, 2)) ⟨by decide, by decide⟩ (by decide +kernel)
theorem ok_X12_mended_49 : ok_S 205 49 (sf_i2d mx_div 50) := ok_idiv (by decide +kernel : decode (mb_ 205) 49 = .ok (.idiv, 1))
theorem ok_X12_mended_50 : ok_S 205 50 (sf_push (0, 6) 52) := ok_bipush (by decide +kernel : decode (mb_ 205) 50 = .ok (.bipush 6, 2)) ⟨by decide, by decide⟩ (by decide +kernel)
theorem ok_X12_mended_52 : ok_S 205 52 (sf_i2d mx_rem 53) := ok_irem (by decide +kernel : decode (mb_ 205) 52 = .ok (.irem, 1))
theorem ok_X12_mended_53 : ok_S 205 53 (sf_st 0 4 55) := ok_istore (by decide +kernel : decode (mb_ 205) 53 = .ok (.istore 4, 2))
theorem ok_X12_mended_55 : ok_S 205 55 (sf_ld 0 2 56) := ok_iload_n (by decide +kernel : decode (mb_ 205) 55 = .ok (.iload_n 2, 1)) rfl
theorem ok_X12_mended_56 : ok_S 205 56 (sf_push (0, 16) 58) := ok_bipush (by decide +kernel : decode (mb_ 205) 56 = .ok (.bipush 16, 2)) ⟨by decide, by decide⟩ (by decide +kernel)
theorem ok_X12_mended_58 : ok_S 205 58 (sf_i2d mx_rem 59) := ok_irem (by decide +kernel : decode (mb_ 205) 58 = .ok (.irem, 1))
theorem ok_X12_mended_59 : ok_S 205 59 (sf_st 0 5 61) := ok_istore (by decide +kernel : decode (mb_ 205) 59 = .ok (.istore 5, 2))
theorem ok_X12_mended_61 : ok_S 205 61 (sf_ld 2 0 62) := ok_aload_n (by decide +kernel : decode (mb_ 205) 61 = .ok (.aload_n 0, 1)) rfl
theorem ok_X12_mended_62 : ok_S 205 62 (sf_ld 0 3 63) := ok_iload_n (by decide +kernel : decode (mb_ 205) 62 = .ok (.iload_n 3, 1)) rfl
theorem ok_X12_mended_63 : ok_S 205 63 (sf_ld 0 4 65) := ok_iload (by decide +kernel : decode (mb_ 205) 63 = .ok (.iload 4, 2))
theorem ok_X12_mended_65 : ok_S 205 65 (sf_cv 13 [2, 0, 0] 179 68) := ok_cv mt_179 cl_13 (by decide +kernel : decode (mb_ 205) 65 = .ok (.invokevirtual 169, 3)) tw_1305 tw_1307 ts_42 tw_7 rfl (by decide +kernel) (mh_ok rfl) (by decide) (by decide)
theorem ok_X12_mended_68 : ok_S 205 68 (sf_if 0 141 71) := ok_if0 (by decide +kernel : decode (mb_ 205) 68 = .ok (.ifCond .eq 73, 3)) (by decide)
theorem ok_X12_mended_71 : ok_S 205 71 (sf_ld 2 0 72) := ok_aload_n (by decide +kernel : decode (mb_ 205) 71 = .ok (.aload_n 0, 1)) rfl
theorem ok_X12_mended_72 : ok_S 205 72 (sf_ld 0 3 73) := ok_iload_n (by decide +kernel : decode (mb_ 205) 72 = .ok (.iload_n 3, 1)) rfl
theorem ok_X12_mended_73 : ok_S 205 73 (sf_push (0, 4) 74) := ok_iconst (by decide +kernel : decode (mb_ 205) 73 = .ok (.iconst 4, 1)) ⟨by decide, by decide⟩
theorem ok_X12_mended_74 : ok_S 205 74 (sf_ld 0 4 76) := ok_iload (by decide +kernel : decode (mb_ 205) 74 = .ok (.iload 4, 2))
theorem ok_X12_mended_76 : ok_S 205 76 (sf_i2 mx_add 77) := ok_iadd (by decide +kernel : decode (mb_ 205) 76 = .ok (.iadd, 1))
theorem ok_X12_mended_77 : ok_S 205 77 (sf_cv 13 [2, 0, 0] 161 80) := ok_cv mt_161 cl_13 (by decide +kernel : decode (mb_ 205) 77 = .ok (.invokevirtual 162, 3)) tw_1285 tw_1287 ts_40 tw_7 rfl (by decide +kernel) (mh_ok rfl) (by decide) (by decide)
theorem ok_X12_mended_80 : ok_S 205 80 (sf_ld 0 5 82) := ok_iload (by decide +kernel : decode (mb_ 205) 80 = .ok (.iload 5, 2))
theorem ok_X12_mended_82 : ok_S 205 82 (sf_ic 0 141 85) := ok_ic0 (by decide +kernel : decode (mb_ 205) 82 = .ok (.if_icmp .eq 59, 3)) (by decide)
theorem ok_X12_mended_85 : ok_S 205 85 (sf_ld 2 0 86) := ok_aload_n (by decide +kernel : decode (mb_ 205) 85 = .ok (.aload_n 0, 1)) rfl
theorem ok_X12_mended_86 : ok_S 205 86 (sf_ld 0 3 87) := ok_iload_n (by decide +kernel : decode (mb_ 205) 86 = .ok (.iload_n 3, 1)) rfl
theorem ok_X12_mended_87 : ok_S 205 87 (sf_ld 0 4 89) := ok_iload (by decide +kernel : decode (mb_ 205) 87 = .ok (.iload 4, 2))
theorem ok_X12_mended_89 : ok_S 205 89 (sf_ld 0 5 91) := ok_iload (by decide +kernel : decode (mb_ 205) 89 = .ok (.iload 5, 2))
theorem ok_X12_mended_91 : ok_S 205 91 (sf_cv 13 [2, 0, 0, 0] 180 94) := ok_cv mt_180 cl_13 (by decide +kernel : decode (mb_ 205) 91 = .ok (.invokevirtual 216, 3)) tw_1413 tw_1302 tw_1303 tw_7 rfl (by decide +kernel) (mh_ok rfl) (by decide) (by decide)
theorem ok_X12_mended_94 : ok_S 205 94 (sf_st 0 6 96) := ok_istore (by decide +kernel : decode (mb_ 205) 94 = .ok (.istore 6, 2))
theorem ok_X12_mended_96 : ok_S 205 96 (sf_ld 2 0 97) := ok_aload_n (by decide +kernel : decode (mb_ 205) 96 = .ok (.aload_n 0, 1)) rfl
theorem ok_X12_mended_97 : ok_S 205 97 (sf_push (0, 63) 99) := ok_bipush (by decide +kernel : decode (mb_ 205) 97 = .ok (.bipush 63, 2)) ⟨by decide, by decide⟩ (by decide +kernel)
theorem ok_X12_mended_99 : ok_S 205 99 (sf_cv 13 [2, 0] 197 102) := ok_cv mt_197 cl_13 (by decide +kernel : decode (mb_ 205) 99 = .ok (.invokevirtual 210, 3)) tw_1402 tw_1404 ts_54 tw_7 rfl (by decide +kernel) (mh_ok rfl) (by decide) (by decide)
theorem ok_X12_mended_102 : ok_S 205 102 (sf_st 0 7 104) := ok_istore (by decide +kernel : decode (mb_ 205) 102 = .ok (.istore 7, 2))
theorem ok_X12_mended_104 : ok_S 205 104 (sf_ld 2 0 105) := ok_aload_n (by decide +kernel : decode (mb_ 205) 104 = .ok (.aload_n 0, 1)) rfl
theorem ok_X12_mended_105 : ok_S 205 105 (sf_ld 0 3 106) := ok_iload_n (by decide +kernel : decode (mb_ 205) 105 = .ok (.iload_n 3, 1)) rfl
theorem ok_X12_mended_106 : ok_S 205 106 (sf_ld 0 4 108) := ok_iload (by decide +kernel : decode (mb_ 205) 106 = .ok (.iload 4, 2))
theorem ok_X12_mended_108 : ok_S 205 108 (sf_ld 0 6 110) := ok_iload (by decide +kernel : decode (mb_ 205) 108 = .ok (.iload 6, 2))
theorem ok_X12_mended_110 : ok_S 205 110 (sf_cv 13 [2, 0, 0, 0] 180 113) := ok_cv mt_180 cl_13 (by decide +kernel : decode (mb_ 205) 110 = .ok (.invokevirtual 216, 3)) tw_1413 tw_1302 tw_1303 tw_7 rfl (by decide +kernel) (mh_ok rfl) (by decide) (by decide)
theorem ok_X12_mended_113 : ok_S 205 113 (sf_st 0 8 115) := ok_istore (by decide +kernel : decode (mb_ 205) 113 = .ok (.istore 8, 2))
theorem ok_X12_mended_115 : ok_S 205 115 (sf_ld 0 7 117) := ok_iload (by decide +kernel : decode (mb_ 205) 115 = .ok (.iload 7, 2))
theorem ok_X12_mended_117 : ok_S 205 117 (sf_if 0 141 120) := ok_if0 (by decide +kernel : decode (mb_ 205) 117 = .ok (.ifCond .eq 24, 3)) (by decide)
theorem ok_X12_mended_120 : ok_S 205 120 (sf_ld 0 1 121) := ok_iload_n (by decide +kernel : decode (mb_ 205) 120 = .ok (.iload_n 1, 1)) rfl
theorem ok_X12_mended_121 : ok_S 205 121 (sf_if 1 128 124) := ok_if1 (by decide +kernel : decode (mb_ 205) 121 = .ok (.ifCond .ne 7, 3)) (by decide)
theorem ok_X12_mended_124 : ok_S 205 124 (sf_ld 0 3 125) := ok_iload_n (by decide +kernel : decode (mb_ 205) 124 = .ok (.iload_n 3, 1)) rfl
theorem ok_X12_mended_125 : ok_S 205 125 (sf_go 140) := ok_goto (by decide +kernel : decode (mb_ 205) 125 = .ok (.goto 15, 3)) (by decide)
theorem ok_X12_mended_128 : ok_S 205 128 (sf_ld 0 1 129) := ok_iload_n (by decide +kernel : decode (mb_ 205) 128 = .ok (.iload_n 1, 1)) rfl
theorem ok_X12_mended_129 : ok_S 205 129 (sf_push (0, 1) 130) := ok_iconst (by decide +kernel : decode (mb_ 205) 129 = .ok (.iconst 1, 1)) ⟨by decide, by decide⟩
theorem ok_X12_mended_130 : ok_S 205 130 (sf_ic 1 138 133) := ok_ic1 (by decide +kernel : decode (mb_ 205) 130 = .ok (.if_icmp .ne 8, 3)) (by decide)
theorem ok_X12_mended_133 : ok_S 205 133 (sf_ld 0 4 135) := ok_iload (by decide +kernel : decode (mb_ 205) 133 = .ok (.iload 4, 2))
theorem ok_X12_mended_135 : ok_S 205 135 (sf_go 140) := ok_goto (by decide +kernel : decode (mb_ 205) 135 = .ok (.goto 5, 3)) (by decide)
theorem ok_X12_mended_138 : ok_S 205 138 (sf_ld 0 5 140) := ok_iload (by decide +kernel : decode (mb_ 205) 138 = .ok (.iload 5, 2))
theorem ok_X12_mended_140 : ok_S 205 140 (sf_ret 0) := ok_ret0 (by decide +kernel : decode (mb_ 205) 140 = .ok (.ireturn, 1)) rfl
theorem ok_X12_mended_141 : ok_S 205 141 (sf_inc 2 1 144) := ok_iinc (by decide +kernel : decode (mb_ 205) 141 = .ok (.iinc 2 1, 3))
theorem ok_X12_mended_144 : ok_S 205 144 (sf_go 25) := ok_goto (by decide +kernel : decode (mb_ 205) 144 = .ok (.goto (-119), 3)) (by decide)
theorem ok_X12_mended_147 : ok_S 205 147 (sf_push (0, (-3)) 149) := ok_bipush (by decide +kernel : decode (mb_ 205) 147 = .ok (.bipush (-3), 2)) ⟨by decide, by decide⟩ (by decide +kernel)
theorem ok_X12_mended_149 : ok_S 205 149 (sf_ret 0) := ok_ret0 (by decide +kernel : decode (mb_ 205) 149 = .ok (.ireturn, 1)) rfl
theorem ok_X12_mended (pc : Nat) : ok_S 205 pc (cd_X12_mended pc) :=
  (ok_bf (ok_bf (ok_bf (ok_bf (ok_bf (ok_bf (ok_bf (ok_lf pc ok_X12_mended_149) (ok_lf pc ok_X12_mended_147)) (ok_lf pc ok_X12_mended_144)) (ok_bf (ok_bf (ok_lf pc ok_X12_mended_141) (ok_lf pc ok_X12_mended_140)) (ok_lf pc ok_X12_mended_138))) (ok_bf (ok_bf (ok_bf (ok_lf pc ok_X12_mended_135) (ok_lf pc ok_X12_mended_133)) (ok_lf pc ok_X12_mended_130)) (ok_bf (ok_lf pc ok_X12_mended_129) (ok_lf pc ok_X12_mended_128)))) (ok_bf (ok_bf (ok_bf (ok_bf (ok_lf pc ok_X12_mended_125) (ok_lf pc ok_X12_mended_124)) (ok_lf pc ok_X12_mended_121)) (ok_bf (ok_bf (ok_lf pc ok_X12_mended_120) (ok_lf pc ok_X12_mended_117)) (ok_lf pc ok_X12_mended_115))) (ok_bf (ok_bf (ok_bf (ok_lf pc ok_X12_mended_113) (ok_lf pc ok_X12_mended_110)) (ok_lf pc ok_X12_mended_108)) (ok_bf (ok_lf pc ok_X12_mended_106) (ok_lf pc ok_X12_mended_105))))) (ok_bf (ok_bf (ok_bf (ok_bf (ok_bf (ok_lf pc ok_X12_mended_104) (ok_lf pc ok_X12_mended_102)) (ok_lf pc ok_X12_mended_99)) (ok_bf (ok_bf (ok_lf pc ok_X12_mended_97) (ok_lf pc ok_X12_mended_96)) (ok_lf pc ok_X12_mended_94))) (ok_bf (ok_bf (ok_bf (ok_lf pc ok_X12_mended_91) (ok_lf pc ok_X12_mended_89)) (ok_lf pc ok_X12_mended_87)) (ok_bf (ok_lf pc ok_X12_mended_86) (ok_lf pc ok_X12_mended_85)))) (ok_bf (ok_bf (ok_bf (ok_bf (ok_lf pc ok_X12_mended_82) (ok_lf pc ok_X12_mended_80)) (ok_lf pc ok_X12_mended_77)) (ok_bf (ok_lf pc ok_X12_mended_76) (ok_lf pc ok_X12_mended_74))) (ok_bf (ok_bf (ok_bf (ok_lf pc ok_X12_mended_73) (ok_lf pc ok_X12_mended_72)) (ok_lf pc ok_X12_mended_71)) (ok_bf (ok_lf pc ok_X12_mended_68) (ok_lf pc ok_X12_mended_65)))))) (ok_bf (ok_bf (ok_bf (ok_bf (ok_bf (ok_bf (ok_lf pc ok_X12_mended_63) (ok_lf pc ok_X12_mended_62)) (ok_lf pc ok_X12_mended_61)) (ok_bf (ok_bf (ok_lf pc ok_X12_mended_59) (ok_lf pc ok_X12_mended_58)) (ok_lf pc ok_X12_mended_56))) (ok_bf (ok_bf (ok_bf (ok_lf pc ok_X12_mended_55) (ok_lf pc ok_X12_mended_53)) (ok_lf pc ok_X12_mended_52)) (ok_bf (ok_lf pc ok_X12_mended_50) (ok_lf pc ok_X12_mended_49)))) (ok_bf (ok_bf (ok_bf (ok_bf (ok_lf pc ok_X12_mended_47) (ok_lf pc ok_X12_mended_46)) (ok_lf pc ok_X12_mended_45)) (ok_bf (ok_lf pc ok_X12_mended_44) (ok_lf pc ok_X12_mended_42))) (ok_bf (ok_bf (ok_bf (ok_lf pc ok_X12_mended_41) (ok_lf pc ok_X12_mended_38)) (ok_lf pc ok_X12_mended_37)) (ok_bf (ok_lf pc ok_X12_mended_35) (ok_lf pc ok_X12_mended_34))))) (ok_bf (ok_bf (ok_bf (ok_bf (ok_bf (ok_lf pc ok_X12_mended_32) (ok_lf pc ok_X12_mended_31)) (ok_lf pc ok_X12_mended_30)) (ok_bf (ok_bf (ok_lf pc ok_X12_mended_27) (ok_lf pc ok_X12_mended_26)) (ok_lf pc ok_X12_mended_25))) (ok_bf (ok_bf (ok_bf (ok_lf pc ok_X12_mended_24) (ok_lf pc ok_X12_mended_23)) (ok_lf pc ok_X12_mended_22)) (ok_bf (ok_lf pc ok_X12_mended_20) (ok_lf pc ok_X12_mended_17)))) (ok_bf (ok_bf (ok_bf (ok_bf (ok_lf pc ok_X12_mended_14) (ok_lf pc ok_X12_mended_12)) (ok_lf pc ok_X12_mended_11)) (ok_bf (ok_lf pc ok_X12_mended_10) (ok_lf pc ok_X12_mended_9))) (ok_bf (ok_bf (ok_bf (ok_lf pc ok_X12_mended_6) (ok_lf pc ok_X12_mended_3)) (ok_lf pc ok_X12_mended_2)) (ok_bf (ok_lf pc ok_X12_mended_1) (ok_lf pc ok_X12_mended_0)))))))
theorem mo_X12_mended (pc : Nat) : mo_S (cd_X12_mended pc) :=
  (mo_bf (mo_bf (mo_bf (mo_bf (mo_bf (mo_bf (mo_bf (mo_bf mo_ret mo_no) (mo_bf mo_push mo_no)) (mo_bf mo_go mo_no)) (mo_bf (mo_bf (mo_bf mo_inc mo_no) (mo_bf mo_ret mo_no)) (mo_bf mo_ld mo_no))) (mo_bf (mo_bf (mo_bf (mo_bf mo_go mo_no) (mo_bf mo_ld mo_no)) (mo_bf mo_ic mo_no)) (mo_bf (mo_bf mo_push mo_no) (mo_bf mo_ld mo_no)))) (mo_bf (mo_bf (mo_bf (mo_bf (mo_bf mo_go mo_no) (mo_bf mo_ld mo_no)) (mo_bf mo_if mo_no)) (mo_bf (mo_bf (mo_bf mo_ld mo_no) (mo_bf mo_if mo_no)) (mo_bf mo_ld mo_no))) (mo_bf (mo_bf (mo_bf (mo_bf mo_st mo_no) (mo_bf mo_cv mo_no)) (mo_bf mo_ld mo_no)) (mo_bf (mo_bf mo_ld mo_no) (mo_bf mo_ld mo_no))))) (mo_bf (mo_bf (mo_bf (mo_bf (mo_bf (mo_bf mo_ld mo_no) (mo_bf mo_st mo_no)) (mo_bf mo_cv mo_no)) (mo_bf (mo_bf (mo_bf mo_push mo_no) (mo_bf mo_ld mo_no)) (mo_bf mo_st mo_no))) (mo_bf (mo_bf (mo_bf (mo_bf mo_cv mo_no) (mo_bf mo_ld mo_no)) (mo_bf mo_ld mo_no)) (mo_bf (mo_bf mo_ld mo_no) (mo_bf mo_ld mo_no)))) (mo_bf (mo_bf (mo_bf (mo_bf (mo_bf mo_ic mo_no) (mo_bf mo_ld mo_no)) (mo_bf mo_cv mo_no)) (mo_bf (mo_bf mo_i2 mo_no) (mo_bf mo_ld mo_no))) (mo_bf (mo_bf (mo_bf (mo_bf mo_push mo_no) (mo_bf mo_ld mo_no)) (mo_bf mo_ld mo_no)) (mo_bf (mo_bf mo_if mo_no) (mo_bf mo_cv mo_no)))))) (mo_bf (mo_bf (mo_bf (mo_bf (mo_bf (mo_bf (mo_bf mo_ld mo_no) (mo_bf mo_ld mo_no)) (mo_bf mo_ld mo_no)) (mo_bf (mo_bf (mo_bf mo_st mo_no) (mo_bf mo_i2d mo_no)) (mo_bf mo_push mo_no))) (mo_bf (mo_bf (mo_bf (mo_bf mo_ld mo_no) (mo_bf mo_st mo_no)) (mo_bf mo_i2d mo_no)) (mo_bf (mo_bf mo_push mo_no) (mo_bf mo_i2d mo_no)))) (mo_bf (mo_bf (mo_bf (mo_bf (mo_bf mo_push mo_no) (mo_bf mo_ld mo_no)) (mo_bf mo_st mo_no)) (mo_bf (mo_bf mo_i2d mo_no) (mo_bf mo_push mo_no))) (mo_bf (mo_bf (mo_bf (mo_bf mo_ld mo_no) (mo_bf mo_ic mo_no)) (mo_bf mo_i2 mo_no)) (mo_bf (mo_bf mo_push mo_no) (mo_bf mo_i2 mo_no))))) (mo_bf (mo_bf (mo_bf (mo_bf (mo_bf (mo_bf mo_push mo_no) (mo_bf mo_iald mo_no)) (mo_bf mo_push mo_no)) (mo_bf (mo_bf (mo_bf mo_gr mo_no) (mo_bf mo_ld mo_no)) (mo_bf mo_ld mo_no))) (mo_bf (mo_bf (mo_bf (mo_bf mo_st mo_no) (mo_bf mo_push mo_no)) (mo_bf mo_ret mo_no)) (mo_bf (mo_bf mo_push mo_no) (mo_bf mo_if mo_no)))) (mo_bf (mo_bf (mo_bf (mo_bf (mo_bf mo_cv mo_no) (mo_bf mo_push mo_no)) (mo_bf mo_ld mo_no)) (mo_bf (mo_bf mo_ret mo_no) (mo_bf mo_push mo_no))) (mo_bf (mo_bf (mo_bf (mo_bf mo_if mo_no) (mo_bf mo_cs mo_no)) (mo_bf mo_push mo_no)) (mo_bf (mo_bf mo_push mo_no) (mo_bf mo_ld mo_no)))))))
theorem ok_X12_which_0 : ok_S 206 0 (sf_ld 2 0 1) := ok_aload_n (by decide +kernel : decode (mb_ 206) 0 = .ok (.aload_n 0, 1)) rfl
theorem ok_X12_which_1 : ok_S 206 1 (sf_ld 0 1 2) := ok_iload_n (by decide +kernel : decode (mb_ 206) 1 = .ok (.iload_n 1, 1)) rfl
theorem ok_X12_which_2 : ok_S 206 2 (sf_cv 13 [2, 0] 158 5) := ok_cv mt_158 cl_13 (by decide +kernel : decode (mb_ 206) 2 = .ok (.invokevirtual 166, 3)) tw_1297 tw_1299 ts_41 tw_7 rfl (by decide +kernel) (mh_ok rfl) (by decide) (by decide)
theorem ok_X12_which_5 : ok_S 206 5 (sf_if 1 10 8) := ok_if1 (by decide +kernel : decode (mb_ 206) 5 = .ok (.ifCond .ne 5, 3)) (by decide)
theorem ok_X12_which_8 : ok_S 206 8 (sf_push (0, (-1)) 9) := ok_iconst (by decide +kernel : decode (mb_ 206) 8 = .ok (.iconst (-1), 1)) ⟨by decide, by decide⟩
theorem ok_X12_which_9 : ok_S 206 9 (sf_ret 0) := ok_ret0 (by decide +kernel : decode (mb_ 206) 9 = .ok (.ireturn, 1)) rfl
theorem ok_X12_which_10 : ok_S 206 10 (sf_ld 2 0 11) := ok_aload_n (by decide +kernel : decode (mb_ 206) 10 = .ok (.aload_n 0, 1)) rfl
theorem ok_X12_which_11 : ok_S 206 11 (sf_ld 0 1 12) := ok_iload_n (by decide +kernel : decode (mb_ 206) 11 = .ok (.iload_n 1, 1)) rfl
theorem ok_X12_which_12 : ok_S 206 12 (sf_push (0, 1) 13) := ok_iconst (by decide +kernel : decode (mb_ 206) 12 = .ok (.iconst 1, 1)) ⟨by decide, by decide⟩
theorem ok_X12_which_13 : ok_S 206 13 (sf_cv 13 [2, 0, 0] 161 16) := ok_cv mt_161 cl_13 (by decide +kernel : decode (mb_ 206) 13 = .ok (.invokevirtual 162, 3)) tw_1285 tw_1287 ts_40 tw_7 rfl (by decide +kernel) (mh_ok rfl) (by decide) (by decide)
theorem ok_X12_which_16 : ok_S 206 16 (sf_st 0 2 17) := ok_istore_n (by decide +kernel : decode (mb_ 206) 16 = .ok (.istore_n 2, 1)) rfl
theorem ok_X12_which_17 : ok_S 206 17 (sf_push (0, 0) 18) := ok_iconst (by decide +kernel : decode (mb_ 206) 17 = .ok (.iconst 0, 1)) ⟨by decide, by decide⟩
theorem ok_X12_which_18 : ok_S 206 18 (sf_st 0 3 19) := ok_istore_n (by decide +kernel : decode (mb_ 206) 18 = .ok (.istore_n 3, 1)) rfl
theorem ok_X12_which_19 : ok_S 206 19 (sf_push (0, 0) 20) := ok_iconst (by decide +kernel : decode (mb_ 206) 19 = .ok (.iconst 0, 1)) ⟨by decide, by decide⟩
theorem ok_X12_which_20 : ok_S 206 20 (sf_st 0 4 22) := ok_istore (by decide +kernel : decode (mb_ 206) 20 = .ok (.istore 4, 2))
theorem ok_X12_which_22 : ok_S 206 22 (sf_ld 0 4 24) := ok_iload (by decide +kernel : decode (mb_ 206) 22 = .ok (.iload 4, 2))
theorem ok_X12_which_24 : ok_S 206 24 (sf_push (0, 3) 25) := ok_iconst (by decide +kernel : decode (mb_ 206) 24 = .ok (.iconst 3, 1)) ⟨by decide, by decide⟩
theorem ok_X12_which_25 : ok_S 206 25 (sf_ic 3 63 28) := ok_ic3 (by decide +kernel : decode (mb_ 206) 25 = .ok (.if_icmp .ge 38, 3)) (by decide)
theorem ok_X12_which_28 : ok_S 206 28 (sf_ld 2 0 29) := ok_aload_n (by decide +kernel : decode (mb_ 206) 28 = .ok (.aload_n 0, 1)) rfl
theorem ok_X12_which_29 : ok_S 206 29 (sf_ld 0 1 30) := ok_iload_n (by decide +kernel : decode (mb_ 206) 29 = .ok (.iload_n 1, 1)) rfl
theorem ok_X12_which_30 : ok_S 206 30 (sf_ld 0 4 32) := ok_iload (by decide +kernel : decode (mb_ 206) 30 = .ok (.iload 4, 2))
theorem ok_X12_which_32 : ok_S 206 32 (sf_cv 13 [2, 0, 0] 181 35) := ok_cv mt_181 cl_13 (by decide +kernel : decode (mb_ 206) 32 = .ok (.invokevirtual 219, 3)) tw_1418 tw_1310 tw_1311 tw_7 rfl (by decide +kernel) (mh_ok rfl) (by decide) (by decide)
theorem ok_X12_which_35 : ok_S 206 35 (sf_st 0 5 37) := ok_istore (by decide +kernel : decode (mb_ 206) 35 = .ok (.istore 5, 2))
theorem ok_X12_which_37 : ok_S 206 37 (sf_ld 0 3 38) := ok_iload_n (by decide +kernel : decode (mb_ 206) 37 = .ok (.iload_n 3, 1)) rfl
theorem ok_X12_which_38 : ok_S 206 38 (sf_ld 2 0 39) := ok_aload_n (by decide +kernel : decode (mb_ 206) 38 = .ok (.aload_n 0, 1)) rfl
theorem ok_X12_which_39 : ok_S 206 39 (sf_push (0, 63) 41) := ok_bipush (by decide +kernel : decode (mb_ 206) 39 = .ok (.bipush 63, 2)) ⟨by decide, by decide⟩ (by decide +kernel)
theorem ok_X12_which_41 : ok_S 206 41 (sf_cv 13 [2, 0] 197 44) := ok_cv mt_197 cl_13 (by decide +kernel : decode (mb_ 206) 41 = .ok (.invokevirtual 210, 3)) tw_1402 tw_1404 ts_54 tw_7 rfl (by decide +kernel) (mh_ok rfl) (by decide) (by decide)
theorem ok_X12_which_44 : ok_S 206 44 (sf_if 0 54 47) := ok_if0 (by decide +kernel : decode (mb_ 206) 44 = .ok (.ifCond .eq 10, 3)) (by decide)
theorem ok_X12_which_47 : ok_S 206 47 (sf_push (0, 1) 48) := ok_iconst (by decide +kernel : decode (mb_ 206) 47 = .ok (.iconst 1, 1)) ⟨by decide, by decide⟩
theorem ok_X12_which_48 : ok_S 206 48 (sf_ld 0 4 50) := ok_iload (by decide +kernel : decode (mb_ 206) 48 = .ok (.iload 4, 2))
theorem ok_X12_which_50 : ok_S 206 50 (sf_i2 mx_shl 51) := ok_ishl (by decide +kernel : decode (mb_ 206) 50 = .ok (.ishl, 1))
theorem ok_X12_which_51 : ok_S 206 51 (sf_go 55) := ok_goto (by decide +kernel : decode (mb_ 206) 51 = .ok (.goto 4, 3)) (by decide)
theorem ok_X12_which_54 : ok_S 206 54 (sf_push (0, 0) 55) := ok_iconst (by decide +kernel : decode (mb_ 206) 54 = .ok (.iconst 0, 1)) ⟨by decide, by decide⟩
theorem ok_X12_which_55 : ok_S 206 55 (sf_i2 mx_or 56) := ok_ior (by decide +kernel : decode (mb_ 206) 55 = .ok (.ior, 1))
theorem ok_X12_which_56 : ok_S 206 56 (sf_st 0 3 57) := ok_istore_n (by decide +kernel : decode (mb_ 206) 56 = .ok (.istore_n 3, 1)) rfl
theorem ok_X12_which_57 : ok_S 206 57 (sf_inc 4 1 60) := ok_iinc (by decide +kernel : decode (mb_ 206) 57 = .ok (.iinc 4 1, 3))
theorem ok_X12_which_60 : ok_S 206 60 (sf_go 22) := ok_goto (by decide +kernel : decode (mb_ 206) 60 = .ok (.goto (-38), 3)) (by decide)
theorem ok_X12_which_63 : ok_S 206 63 (sf_ld 2 0 64) := ok_aload_n (by decide +kernel : decode (mb_ 206) 63 = .ok (.aload_n 0, 1)) rfl
theorem ok_X12_which_64 : ok_S 206 64 (sf_ld 0 1 65) := ok_iload_n (by decide +kernel : decode (mb_ 206) 64 = .ok (.iload_n 1, 1)) rfl
theorem ok_X12_which_65 : ok_S 206 65 (sf_ld 0 2 66) := ok_iload_n (by decide +kernel : decode (mb_ 206) 65 = .ok (.iload_n 2, 1)) rfl
theorem ok_X12_which_66 : ok_S 206 66 (sf_cv 13 [2, 0, 0] 181 69) := ok_cv mt_181 cl_13 (by decide +kernel : decode (mb_ 206) 66 = .ok (.invokevirtual 219, 3)) tw_1418 tw_1310 tw_1311 tw_7 rfl (by decide +kernel) (mh_ok rfl) (by decide) (by decide)
theorem ok_X12_which_69 : ok_S 206 69 (sf_st 0 4 71) := ok_istore (by decide +kernel : decode (mb_ 206) 69 = .ok (.istore 4, 2))
theorem ok_X12_which_71 : ok_S 206 71 (sf_ld 0 3 72) := ok_iload_n (by decide +kernel : decode (mb_ 206) 71 = .ok (.iload_n 3, 1)) rfl
theorem ok_X12_which_72 : ok_S 206 72 (sf_ret 0) := ok_ret0 (by decide +kernel : decode (mb_ 206) 72 = .ok (.ireturn, 1)) rfl
theorem ok_X12_which (pc : Nat) : ok_S 206 pc (cd_X12_which pc) :=
  (ok_bf (ok_bf (ok_bf (ok_bf (ok_bf (ok_bf (ok_lf pc ok_X12_which_72) (ok_lf pc ok_X12_which_71)) (ok_lf pc ok_X12_which_69)) (ok_bf (ok_bf (ok_lf pc ok_X12_which_66) (ok_lf pc ok_X12_which_65)) (ok_lf pc ok_X12_which_64))) (ok_bf (ok_bf (ok_bf (ok_lf pc ok_X12_which_63) (ok_lf pc ok_X12_which_60)) (ok_lf pc ok_X12_which_57)) (ok_bf (ok_lf pc ok_X12_which_56) (ok_lf pc ok_X12_which_55)))) (ok_bf (ok_bf (ok_bf (ok_bf (ok_lf pc ok_X12_which_54) (ok_lf pc ok_X12_which_51)) (ok_lf pc ok_X12_which_50)) (ok_bf (ok_bf (ok_lf pc ok_X12_which_48) (ok_lf pc ok_X12_which_47)) (ok_lf pc ok_X12_which_44))) (ok_bf (ok_bf (ok_bf (ok_lf pc ok_X12_which_41) (ok_lf pc ok_X12_which_39)) (ok_lf pc ok_X12_which_38)) (ok_bf (ok_lf pc ok_X12_which_37) (ok_lf pc ok_X12_which_35))))) (ok_bf (ok_bf (ok_bf (ok_bf (ok_bf (ok_lf pc ok_X12_which_32) (ok_lf pc ok_X12_which_30)) (ok_lf pc ok_X12_which_29)) (ok_bf (ok_bf (ok_lf pc ok_X12_which_28) (ok_lf pc ok_X12_which_25)) (ok_lf pc ok_X12_which_24))) (ok_bf (ok_bf (ok_bf (ok_lf pc ok_X12_which_22) (ok_lf pc ok_X12_which_20)) (ok_lf pc ok_X12_which_19)) (ok_bf (ok_lf pc ok_X12_which_18) (ok_lf pc ok_X12_which_17)))) (ok_bf (ok_bf (ok_bf (ok_bf (ok_lf pc ok_X12_which_16) (ok_lf pc ok_X12_which_13)) (ok_lf pc ok_X12_which_12)) (ok_bf (ok_bf (ok_lf pc ok_X12_which_11) (ok_lf pc ok_X12_which_10)) (ok_lf pc ok_X12_which_9))) (ok_bf (ok_bf (ok_bf (ok_lf pc ok_X12_which_8) (ok_lf pc ok_X12_which_5)) (ok_lf pc ok_X12_which_2)) (ok_bf (ok_lf pc ok_X12_which_1) (ok_lf pc ok_X12_which_0))))))
theorem mo_X12_which (pc : Nat) : mo_S (cd_X12_which pc) :=
  (mo_bf (mo_bf (mo_bf (mo_bf (mo_bf (mo_bf (mo_bf mo_ret mo_no) (mo_bf mo_ld mo_no)) (mo_bf mo_st mo_no)) (mo_bf (mo_bf (mo_bf mo_cv mo_no) (mo_bf mo_ld mo_no)) (mo_bf mo_ld mo_no))) (mo_bf (mo_bf (mo_bf (mo_bf mo_ld mo_no) (mo_bf mo_go mo_no)) (mo_bf mo_inc mo_no)) (mo_bf (mo_bf mo_st mo_no) (mo_bf mo_i2 mo_no)))) (mo_bf (mo_bf (mo_bf (mo_bf (mo_bf mo_push mo_no) (mo_bf mo_go mo_no)) (mo_bf mo_i2 mo_no)) (mo_bf (mo_bf (mo_bf mo_ld mo_no) (mo_bf mo_push mo_no)) (mo_bf mo_if mo_no))) (mo_bf (mo_bf (mo_bf (mo_bf mo_cv mo_no) (mo_bf mo_push mo_no)) (mo_bf mo_ld mo_no)) (mo_bf (mo_bf mo_ld mo_no) (mo_bf mo_st mo_no))))) (mo_bf (mo_bf (mo_bf (mo_bf (mo_bf (mo_bf mo_cv mo_no) (mo_bf mo_ld mo_no)) (mo_bf mo_ld mo_no)) (mo_bf (mo_bf (mo_bf mo_ld mo_no) (mo_bf mo_ic mo_no)) (mo_bf mo_push mo_no))) (mo_bf (mo_bf (mo_bf (mo_bf mo_ld mo_no) (mo_bf mo_st mo_no)) (mo_bf mo_push mo_no)) (mo_bf (mo_bf mo_st mo_no) (mo_bf mo_push mo_no)))) (mo_bf (mo_bf (mo_bf (mo_bf (mo_bf mo_st mo_no) (mo_bf mo_cv mo_no)) (mo_bf mo_push mo_no)) (mo_bf (mo_bf (mo_bf mo_ld mo_no) (mo_bf mo_ld mo_no)) (mo_bf mo_ret mo_no))) (mo_bf (mo_bf (mo_bf (mo_bf mo_push mo_no) (mo_bf mo_if mo_no)) (mo_bf mo_cv mo_no)) (mo_bf (mo_bf mo_ld mo_no) (mo_bf mo_ld mo_no))))))
theorem ok_X12_gain_0 : ok_S 207 0 (sf_ld 2 0 1) := ok_aload_n (by decide +kernel : decode (mb_ 207) 0 = .ok (.aload_n 0, 1)) rfl
theorem ok_X12_gain_1 : ok_S 207 1 (sf_ld 0 1 2) := ok_iload_n (by decide +kernel : decode (mb_ 207) 1 = .ok (.iload_n 1, 1)) rfl
theorem ok_X12_gain_2 : ok_S 207 2 (sf_cv 13 [2, 0] 158 5) := ok_cv mt_158 cl_13 (by decide +kernel : decode (mb_ 207) 2 = .ok (.invokevirtual 166, 3)) tw_1297 tw_1299 ts_41 tw_7 rfl (by decide +kernel) (mh_ok rfl) (by decide) (by decide)
theorem ok_X12_gain_5 : ok_S 207 5 (sf_if 0 38 8) := ok_if0 (by decide +kernel : decode (mb_ 207) 5 = .ok (.ifCond .eq 33, 3)) (by decide)
theorem ok_X12_gain_8 : ok_S 207 8 (sf_ld 0 2 9) := ok_iload_n (by decide +kernel : decode (mb_ 207) 8 = .ok (.iload_n 2, 1)) rfl
theorem ok_X12_gain_9 : ok_S 207 9 (sf_cs [0] 160 12) := ok_cs mt_160 (by decide +kernel : decode (mb_ 207) 9 = .ok (.invokestatic 159, 3)) tw_1278 tw_1279 tw_7 (by decide +kernel) (mh_ok rfl) (by decide) (by decide)
theorem ok_X12_gain_12 : ok_S 207 12 (sf_if 0 38 15) := ok_if0 (by decide +kernel : decode (mb_ 207) 12 = .ok (.ifCond .eq 26, 3)) (by decide)
theorem ok_X12_gain_15 : ok_S 207 15 (sf_ld 0 3 16) := ok_iload_n (by decide +kernel : decode (mb_ 207) 15 = .ok (.iload_n 3, 1)) rfl
theorem ok_X12_gain_16 : ok_S 207 16 (sf_cs [0] 160 19) := ok_cs mt_160 (by decide +kernel : decode (mb_ 207) 16 = .ok (.invokestatic 159, 3)) tw_1278 tw_1279 tw_7 (by decide +kernel) (mh_ok rfl) (by decide) (by decide)
theorem ok_X12_gain_19 : ok_S 207 19 (sf_if 0 38 22) := ok_if0 (by decide +kernel : decode (mb_ 207) 19 = .ok (.ifCond .eq 19, 3)) (by decide)
theorem ok_X12_gain_22 : ok_S 207 22 (sf_ld 2 0 23) := ok_aload_n (by decide +kernel : decode (mb_ 207) 22 = .ok (.aload_n 0, 1)) rfl
theorem ok_X12_gain_23 : ok_S 207 23 (sf_ld 0 1 24) := ok_iload_n (by decide +kernel : decode (mb_ 207) 23 = .ok (.iload_n 1, 1)) rfl
theorem ok_X12_gain_24 : ok_S 207 24 (sf_ld 0 3 25) := ok_iload_n (by decide +kernel : decode (mb_ 207) 24 = .ok (.iload_n 3, 1)) rfl
theorem ok_X12_gain_25 : ok_S 207 25 (sf_cv 13 [2, 0, 0] 183 28) := ok_cv mt_183 cl_13 (by decide +kernel : decode (mb_ 207) 25 = .ok (.invokevirtual 176, 3)) tw_1317 tw_1319 ts_43 tw_7 rfl (by decide +kernel) (mh_ok rfl) (by decide) (by decide)
theorem ok_X12_gain_28 : ok_S 207 28 (sf_ld 2 0 29) := ok_aload_n (by decide +kernel : decode (mb_ 207) 28 = .ok (.aload_n 0, 1)) rfl
theorem ok_X12_gain_29 : ok_S 207 29 (sf_ld 0 1 30) := ok_iload_n (by decide +kernel : decode (mb_ 207) 29 = .ok (.iload_n 1, 1)) rfl
theorem ok_X12_gain_30 : ok_S 207 30 (sf_ld 0 2 31) := ok_iload_n (by decide +kernel : decode (mb_ 207) 30 = .ok (.iload_n 2, 1)) rfl
theorem ok_X12_gain_31 : ok_S 207 31 (sf_cv 13 [2, 0, 0] 183 34) := ok_cv mt_183 cl_13 (by decide +kernel : decode (mb_ 207) 31 = .ok (.invokevirtual 176, 3)) tw_1317 tw_1319 ts_43 tw_7 rfl (by decide +kernel) (mh_ok rfl) (by decide) (by decide)
theorem ok_X12_gain_34 : ok_S 207 34 (sf_l2 ml_sub 35) := ok_lsub (by decide +kernel : decode (mb_ 207) 34 = .ok (.lsub, 1))
theorem ok_X12_gain_35 : ok_S 207 35 (sf_go 41) := ok_goto (by decide +kernel : decode (mb_ 207) 35 = .ok (.goto 6, 3)) (by decide)
theorem ok_X12_gain_38 : ok_S 207 38 (sf_push (1, (-1000000000000)) 41) := ok_ldc2 (by decide +kernel : decode (mb_ 207) 38 = .ok (.ldc2_w 180, 3)) ⟨by decide, by decide⟩ tw_1325
theorem ok_X12_gain_41 : ok_S 207 41 (sf_ret 1) := ok_ret1 (by decide +kernel : decode (mb_ 207) 41 = .ok (.lreturn, 1)) rfl
theorem ok_X12_gain (pc : Nat) : ok_S 207 pc (cd_X12_gain pc) :=
  (ok_bf (ok_bf (ok_bf (ok_bf (ok_bf (ok_lf pc ok_X12_gain_41) (ok_lf pc ok_X12_gain_38)) (ok_lf pc ok_X12_gain_35)) (ok_bf (ok_bf (ok_lf pc ok_X12_gain_34) (ok_lf pc ok_X12_gain_31)) (ok_lf pc ok_X12_gain_30))) (ok_bf (ok_bf (ok_bf (ok_lf pc ok_X12_gain_29) (ok_lf pc ok_X12_gain_28)) (ok_lf pc ok_X12_gain_25)) (ok_bf (ok_lf pc ok_X12_gain_24) (ok_lf pc ok_X12_gain_23)))) (ok_bf (ok_bf (ok_bf (ok_bf (ok_lf pc ok_X12_gain_22) (ok_lf pc ok_X12_gain_19)) (ok_lf pc ok_X12_gain_16)) (ok_bf (ok_bf (ok_lf pc ok_X12_gain_15) (ok_lf pc ok_X12_gain_12)) (ok_lf pc ok_X12_gain_9))) (ok_bf (ok_bf (ok_bf (ok_lf pc ok_X12_gain_8) (ok_lf pc ok_X12_gain_5)) (ok_lf pc ok_X12_gain_2)) (ok_bf (ok_lf pc ok_X12_gain_1) (ok_lf pc ok_X12_gain_0)))))
theorem mo_X12_gain (pc : Nat) : mo_S (cd_X12_gain pc) :=
  (mo_bf (mo_bf (mo_bf (mo_bf (mo_bf (mo_bf mo_ret mo_no) (mo_bf mo_push mo_no)) (mo_bf mo_go mo_no)) (mo_bf (mo_bf (mo_bf mo_l2 mo_no) (mo_bf mo_cv mo_no)) (mo_bf mo_ld mo_no))) (mo_bf (mo_bf (mo_bf (mo_bf mo_ld mo_no) (mo_bf mo_ld mo_no)) (mo_bf mo_cv mo_no)) (mo_bf (mo_bf mo_ld mo_no) (mo_bf mo_ld mo_no)))) (mo_bf (mo_bf (mo_bf (mo_bf (mo_bf mo_ld mo_no) (mo_bf mo_if mo_no)) (mo_bf mo_cs mo_no)) (mo_bf (mo_bf (mo_bf mo_ld mo_no) (mo_bf mo_if mo_no)) (mo_bf mo_cs mo_no))) (mo_bf (mo_bf (mo_bf (mo_bf mo_ld mo_no) (mo_bf mo_if mo_no)) (mo_bf mo_cv mo_no)) (mo_bf (mo_bf mo_ld mo_no) (mo_bf mo_ld mo_no)))))
theorem ok_X12_signsOf_0 : ok_S 208 0 (sf_push (0, 1) 1) := ok_iconst (by decide +kernel : decode (mb_ 208) 0 = .ok (.iconst 1, 1)) ⟨by decide, by decide⟩
theorem ok_X12_signsOf_1 : ok_S 208 1 (sf_st 0 2 2) := ok_istore_n (by decide +kernel : decode (mb_ 208) 1 = .ok (.istore_n 2, 1)) rfl
theorem ok_X12_signsOf_2 : ok_S 208 2 (sf_ld 0 0 3) := ok_iload_n (by decide +kernel : decode (mb_ 208) 2 = .ok (.iload_n 0, 1)) rfl
theorem ok_X12_signsOf_3 : ok_S 208 3 (sf_ld 0 1 4) := ok_iload_n (by decide +kernel : decode (mb_ 208) 3 = .ok (.iload_n 1, 1)) rfl
theorem ok_X12_signsOf_4 : ok_S 208 4 (sf_i2d mx_div 5) := ok_idiv (by decide +kernel : decode (mb_ 208) 4 = .ok (.idiv, 1))
theorem ok_X12_signsOf_5 : ok_S 208 5 (sf_st 0 3 6) := ok_istore_n (by decide +kernel : decode (mb_ 208) 5 = .ok (.istore_n 3, 1)) rfl
theorem ok_X12_signsOf_6 : ok_S 208 6 (sf_ld 0 3 7) := ok_iload_n (by decide +kernel : decode (mb_ 208) 6 = .ok (.iload_n 3, 1)) rfl
theorem ok_X12_signsOf_7 : ok_S 208 7 (sf_if 5 20 10) := ok_if5 (by decide +kernel : decode (mb_ 208) 7 = .ok (.ifCond .le 13, 3)) (by decide)
theorem ok_X12_signsOf_10 : ok_S 208 10 (sf_inc 2 1 13) := ok_iinc (by decide +kernel : decode (mb_ 208) 10 = .ok (.iinc 2 1, 3))
theorem ok_X12_signsOf_13 : ok_S 208 13 (sf_ld 0 3 14) := ok_iload_n (by decide +kernel : decode (mb_ 208) 13 = .ok (.iload_n 3, 1)) rfl
theorem ok_X12_signsOf_14 : ok_S 208 14 (sf_ld 0 1 15) := ok_iload_n (by decide +kernel : decode (mb_ 208) 14 = .ok (.iload_n 1, 1)) rfl
theorem ok_X12_signsOf_15 : ok_S 208 15 (sf_i2d mx_div 16) := ok_idiv (by decide +kernel : decode (mb_ 208) 15 = .ok (.idiv, 1))
theorem ok_X12_signsOf_16 : ok_S 208 16 (sf_st 0 3 17) := ok_istore_n (by decide +kernel : decode (mb_ 208) 16 = .ok (.istore_n 3, 1)) rfl
theorem ok_X12_signsOf_17 : ok_S 208 17 (sf_go 6) := ok_goto (by decide +kernel : decode (mb_ 208) 17 = .ok (.goto (-11), 3)) (by decide)
theorem ok_X12_signsOf_20 : ok_S 208 20 (sf_ld 0 2 21) := ok_iload_n (by decide +kernel : decode (mb_ 208) 20 = .ok (.iload_n 2, 1)) rfl
theorem ok_X12_signsOf_21 : ok_S 208 21 (sf_ret 0) := ok_ret0 (by decide +kernel : decode (mb_ 208) 21 = .ok (.ireturn, 1)) rfl
theorem ok_X12_signsOf (pc : Nat) : ok_S 208 pc (cd_X12_signsOf pc) :=
  (ok_bf (ok_bf (ok_bf (ok_bf (ok_lf pc ok_X12_signsOf_21) (ok_lf pc ok_X12_signsOf_20)) (ok_bf (ok_lf pc ok_X12_signsOf_17) (ok_lf pc ok_X12_signsOf_16))) (ok_bf (ok_bf (ok_lf pc ok_X12_signsOf_15) (ok_lf pc ok_X12_signsOf_14)) (ok_bf (ok_lf pc ok_X12_signsOf_13) (ok_lf pc ok_X12_signsOf_10)))) (ok_bf (ok_bf (ok_bf (ok_lf pc ok_X12_signsOf_7) (ok_lf pc ok_X12_signsOf_6)) (ok_bf (ok_lf pc ok_X12_signsOf_5) (ok_lf pc ok_X12_signsOf_4))) (ok_bf (ok_bf (ok_lf pc ok_X12_signsOf_3) (ok_lf pc ok_X12_signsOf_2)) (ok_bf (ok_lf pc ok_X12_signsOf_1) (ok_lf pc ok_X12_signsOf_0)))))
theorem mo_X12_signsOf (pc : Nat) : mo_S (cd_X12_signsOf pc) :=
  (mo_bf (mo_bf (mo_bf (mo_bf (mo_bf mo_ret mo_no) (mo_bf mo_ld mo_no)) (mo_bf (mo_bf mo_go mo_no) (mo_bf mo_st mo_no))) (mo_bf (mo_bf (mo_bf mo_i2d mo_no) (mo_bf mo_ld mo_no)) (mo_bf (mo_bf mo_ld mo_no) (mo_bf mo_inc mo_no)))) (mo_bf (mo_bf (mo_bf (mo_bf mo_if mo_no) (mo_bf mo_ld mo_no)) (mo_bf (mo_bf mo_st mo_no) (mo_bf mo_i2d mo_no))) (mo_bf (mo_bf (mo_bf mo_ld mo_no) (mo_bf mo_ld mo_no)) (mo_bf (mo_bf mo_st mo_no) (mo_bf mo_push mo_no)))))
theorem ok_X12_signFromEnd_0 : ok_S 209 0 (sf_ld 0 0 1) := ok_iload_n (by decide +kernel : decode (mb_ 209) 0 = .ok (.iload_n 0, 1)) rfl
theorem ok_X12_signFromEnd_1 : ok_S 209 1 (sf_st 0 3 2) := ok_istore_n (by decide +kernel : decode (mb_ 209) 1 = .ok (.istore_n 3, 1)) rfl
theorem ok_X12_signFromEnd_2 : ok_S 209 2 (sf_push (0, 0) 3) := ok_iconst (by decide +kernel : decode (mb_ 209) 2 = .ok (.iconst 0, 1)) ⟨by decide, by decide⟩
theorem ok_X12_signFromEnd_3 : ok_S 209 3 (sf_st 0 4 5) := ok_istore (by decide +kernel : decode (mb_ 209) 3 = .ok (.istore 4, 2))
theorem ok_X12_signFromEnd_5 : ok_S 209 5 (sf_ld 0 4 7) := ok_iload (by decide +kernel : decode (mb_ 209) 5 = .ok (.iload 4, 2))
theorem ok_X12_signFromEnd_7 : ok_S 209 7 (sf_ld 0 2 8) := ok_iload_n (by decide +kernel : decode (mb_ 209) 7 = .ok (.iload_n 2, 1)) rfl
theorem ok_X12_signFromEnd_8 : ok_S 209 8 (sf_ic 3 21 11) := ok_ic3 (by decide +kernel : decode (mb_ 209) 8 = .ok (.if_icmp .ge 13, 3)) (by decide)
theorem ok_X12_signFromEnd_11 : ok_S 209 11 (sf_ld 0 3 12) := ok_iload_n (by decide +kernel : decode (mb_ 209) 11 = .ok (.iload_n 3, 1)) rfl
theorem ok_X12_signFromEnd_12 : ok_S 209 12 (sf_ld 0 1 13) := ok_iload_n (by decide +kernel : decode (mb_ 209) 12 = .ok (.iload_n 1, 1)) rfl
theorem ok_X12_signFromEnd_13 : ok_S 209 13 (sf_i2d mx_div 14) := ok_idiv (by decide +kernel : decode (mb_ 209) 13 = .ok (.idiv, 1))
theorem ok_X12_signFromEnd_14 : ok_S 209 14 (sf_st 0 3 15) := ok_istore_n (by decide +kernel : decode (mb_ 209) 14 = .ok (.istore_n 3, 1)) rfl
theorem ok_X12_signFromEnd_15 : ok_S 209 15 (sf_inc 4 1 18) := ok_iinc (by decide +kernel : decode (mb_ 209) 15 = .ok (.iinc 4 1, 3))
theorem ok_X12_signFromEnd_18 : ok_S 209 18 (sf_go 5) := ok_goto (by decide +kernel : decode (mb_ 209) 18 = .ok (.goto (-13), 3)) (by decide)
theorem ok_X12_signFromEnd_21 : ok_S 209 21 (sf_ld 0 3 22) := ok_iload_n (by decide +kernel : decode (mb_ 209) 21 = .ok (.iload_n 3, 1)) rfl
theorem ok_X12_signFromEnd_22 : ok_S 209 22 (sf_ld 0 1 23) := ok_iload_n (by decide +kernel : decode (mb_ 209) 22 = .ok (.iload_n 1, 1)) rfl
theorem ok_X12_signFromEnd_23 : ok_S 209 23 (sf_i2d mx_rem 24) := ok_irem (by decide +kernel : decode (mb_ 209) 23 = .ok (.irem, 1))
theorem ok_X12_signFromEnd_24 : ok_S 209 24 (sf_ret 0) := ok_ret0 (by decide +kernel : decode (mb_ 209) 24 = .ok (.ireturn, 1)) rfl
theorem ok_X12_signFromEnd (pc : Nat) : ok_S 209 pc (cd_X12_signFromEnd pc) :=
  (ok_bf (ok_bf (ok_bf (ok_bf (ok_bf (ok_lf pc ok_X12_signFromEnd_24) (ok_lf pc ok_X12_signFromEnd_23)) (ok_lf pc ok_X12_signFromEnd_22)) (ok_bf (ok_lf pc ok_X12_signFromEnd_21) (ok_lf pc ok_X12_signFromEnd_18))) (ok_bf (ok_bf (ok_lf pc ok_X12_signFromEnd_15) (ok_lf pc ok_X12_signFromEnd_14)) (ok_bf (ok_lf pc ok_X12_signFromEnd_13) (ok_lf pc ok_X12_signFromEnd_12)))) (ok_bf (ok_bf (ok_bf (ok_lf pc ok_X12_signFromEnd_11) (ok_lf pc ok_X12_signFromEnd_8)) (ok_bf (ok_lf pc ok_X12_signFromEnd_7) (ok_lf pc ok_X12_signFromEnd_5))) (ok_bf (ok_bf (ok_lf pc ok_X12_signFromEnd_3) (ok_lf pc ok_X12_signFromEnd_2)) (ok_bf (ok_lf pc ok_X12_signFromEnd_1) (ok_lf pc ok_X12_signFromEnd_0)))))
theorem mo_X12_signFromEnd (pc : Nat) : mo_S (cd_X12_signFromEnd pc) :=
  (mo_bf (mo_bf (mo_bf (mo_bf (mo_bf (mo_bf mo_ret mo_no) (mo_bf mo_i2d mo_no)) (mo_bf mo_ld mo_no)) (mo_bf (mo_bf mo_ld mo_no) (mo_bf mo_go mo_no))) (mo_bf (mo_bf (mo_bf mo_inc mo_no) (mo_bf mo_st mo_no)) (mo_bf (mo_bf mo_i2d mo_no) (mo_bf mo_ld mo_no)))) (mo_bf (mo_bf (mo_bf (mo_bf mo_ld mo_no) (mo_bf mo_ic mo_no)) (mo_bf (mo_bf mo_ld mo_no) (mo_bf mo_ld mo_no))) (mo_bf (mo_bf (mo_bf mo_st mo_no) (mo_bf mo_push mo_no)) (mo_bf (mo_bf mo_st mo_no) (mo_bf mo_ld mo_no)))))
theorem ok_X12_written_0 : ok_S 210 0 (sf_ld 0 1 1) := ok_iload_n (by decide +kernel : decode (mb_ 210) 0 = .ok (.iload_n 1, 1)) rfl
theorem ok_X12_written_1 : ok_S 210 1 (sf_push (0, 0) 2) := ok_iconst (by decide +kernel : decode (mb_ 210) 1 = .ok (.iconst 0, 1)) ⟨by decide, by decide⟩
theorem ok_X12_written_2 : ok_S 210 2 (sf_push (0, 9999) 5) := ok_sipush (by decide +kernel : decode (mb_ 210) 2 = .ok (.sipush 9999, 3)) ⟨by decide, by decide⟩ (by decide +kernel)
theorem ok_X12_written_5 : ok_S 210 5 (sf_cs [0, 0, 0] 157 8) := ok_cs mt_157 (by decide +kernel : decode (mb_ 210) 5 = .ok (.invokestatic 56, 3)) tw_1206 tw_1207 tw_7 (by decide +kernel) (mh_ok rfl) (by decide) (by decide)
theorem ok_X12_written_8 : ok_S 210 8 (sf_if 0 23 11) := ok_if0 (by decide +kernel : decode (mb_ 210) 8 = .ok (.ifCond .eq 15, 3)) (by decide)
theorem ok_X12_written_11 : ok_S 210 11 (sf_ld 0 2 12) := ok_iload_n (by decide +kernel : decode (mb_ 210) 11 = .ok (.iload_n 2, 1)) rfl
theorem ok_X12_written_12 : ok_S 210 12 (sf_cs [0] 160 15) := ok_cs mt_160 (by decide +kernel : decode (mb_ 210) 12 = .ok (.invokestatic 159, 3)) tw_1278 tw_1279 tw_7 (by decide +kernel) (mh_ok rfl) (by decide) (by decide)
theorem ok_X12_written_15 : ok_S 210 15 (sf_if 0 23 18) := ok_if0 (by decide +kernel : decode (mb_ 210) 15 = .ok (.ifCond .eq 8, 3)) (by decide)
theorem ok_X12_written_18 : ok_S 210 18 (sf_ld 0 3 19) := ok_iload_n (by decide +kernel : decode (mb_ 210) 18 = .ok (.iload_n 3, 1)) rfl
theorem ok_X12_written_19 : ok_S 210 19 (sf_push (0, (-1)) 20) := ok_iconst (by decide +kernel : decode (mb_ 210) 19 = .ok (.iconst (-1), 1)) ⟨by decide, by decide⟩
theorem ok_X12_written_20 : ok_S 210 20 (sf_ic 3 25 23) := ok_ic3 (by decide +kernel : decode (mb_ 210) 20 = .ok (.if_icmp .ge 5, 3)) (by decide)
theorem ok_X12_written_23 : ok_S 210 23 (sf_push (0, (-1)) 24) := ok_iconst (by decide +kernel : decode (mb_ 210) 23 = .ok (.iconst (-1), 1)) ⟨by decide, by decide⟩
theorem ok_X12_written_24 : ok_S 210 24 (sf_ret 0) := ok_ret0 (by decide +kernel : decode (mb_ 210) 24 = .ok (.ireturn, 1)) rfl
theorem ok_X12_written_25 : ok_S 210 25 (sf_ld 0 1 26) := ok_iload_n (by decide +kernel : decode (mb_ 210) 25 = .ok (.iload_n 1, 1)) rfl
theorem ok_X12_written_26 : ok_S 210 26 (sf_ld 0 2 27) := ok_iload_n (by decide +kernel : decode (mb_ 210) 26 = .ok (.iload_n 2, 1)) rfl
theorem ok_X12_written_27 : ok_S 210 27 (sf_cs [0, 0] 208 30) := ok_cs mt_208 (by decide +kernel : decode (mb_ 210) 27 = .ok (.invokestatic 222, 3)) tw_1427 tw_1428 tw_7 (by decide +kernel) (mh_ok rfl) (by decide) (by decide)
theorem ok_X12_written_30 : ok_S 210 30 (sf_st 0 4 32) := ok_istore (by decide +kernel : decode (mb_ 210) 30 = .ok (.istore 4, 2))
theorem ok_X12_written_32 : ok_S 210 32 (sf_ld 0 3 33) := ok_iload_n (by decide +kernel : decode (mb_ 210) 32 = .ok (.iload_n 3, 1)) rfl
theorem ok_X12_written_33 : ok_S 210 33 (sf_if 3 41 36) := ok_if3 (by decide +kernel : decode (mb_ 210) 33 = .ok (.ifCond .ge 8, 3)) (by decide)
theorem ok_X12_written_36 : ok_S 210 36 (sf_ld 0 4 38) := ok_iload (by decide +kernel : decode (mb_ 210) 36 = .ok (.iload 4, 2))
theorem ok_X12_written_38 : ok_S 210 38 (sf_go 63) := ok_goto (by decide +kernel : decode (mb_ 210) 38 = .ok (.goto 25, 3)) (by decide)
theorem ok_X12_written_41 : ok_S 210 41 (sf_ld 0 3 42) := ok_iload_n (by decide +kernel : decode (mb_ 210) 41 = .ok (.iload_n 3, 1)) rfl
theorem ok_X12_written_42 : ok_S 210 42 (sf_ld 0 4 44) := ok_iload (by decide +kernel : decode (mb_ 210) 42 = .ok (.iload 4, 2))
theorem ok_X12_written_44 : ok_S 210 44 (sf_ic 3 61 47) := ok_ic3 (by decide +kernel : decode (mb_ 210) 44 = .ok (.if_icmp .ge 17, 3)) (by decide)
theorem ok_X12_written_47 : ok_S 210 47 (sf_ld 0 1 48) := ok_iload_n (by decide +kernel : decode (mb_ 210) 47 = .ok (.iload_n 1, 1)) rfl
theorem ok_X12_written_48 : ok_S 210 48 (sf_ld 0 2 49) := ok_iload_n (by decide +kernel : decode (mb_ 210) 48 = .ok (.iload_n 2, 1)) rfl
theorem ok_X12_written_49 : ok_S 210 49 (sf_ld 0 4 51) := ok_iload (by decide +kernel : decode (mb_ 210) 49 = .ok (.iload 4, 2))
theorem ok_X12_written_51 : ok_S 210 51 (sf_push (0, 1) 52) := ok_iconst (by decide +kernel : decode (mb_ 210) 51 = .ok (.iconst 1, 1)) ⟨by decide, by decide⟩
theorem ok_X12_written_52 : ok_S 210 52 (sf_i2 mx_sub 53) := ok_isub (by decide +kernel : decode (mb_ 210) 52 = .ok (.isub, 1))
theorem ok_X12_written_53 : ok_S 210 53 (sf_ld 0 3 54) := ok_iload_n (by decide +kernel : decode (mb_ 210) 53 = .ok (.iload_n 3, 1)) rfl
theorem ok_X12_written_54 : ok_S 210 54 (sf_i2 mx_sub 55) := ok_isub (by decide +kernel : decode (mb_ 210) 54 = .ok (.isub, 1))
theorem ok_X12_written_55 : ok_S 210 55 (sf_cs [0, 0, 0] 209 58) := ok_cs mt_209 (by decide +kernel : decode (mb_ 210) 55 = .ok (.invokestatic 225, 3)) tw_1430 tw_1431 tw_7 (by decide +kernel) (mh_ok rfl) (by decide) (by decide)
theorem ok_X12_written_58 : ok_S 210 58 (sf_go 63) := ok_goto (by decide +kernel : decode (mb_ 210) 58 = .ok (.goto 5, 3)) (by decide)
theorem ok_X12_written_61 : ok_S 210 61 (sf_push (0, (-3)) 63) := ok_bipush (by decide +kernel : decode (mb_ 210) 61 = .ok (.bipush (-3), 2)) ⟨by decide, by decide⟩ (by decide +kernel)
theorem ok_X12_written_63 : ok_S 210 63 (sf_ret 0) := ok_ret0 (by decide +kernel : decode (mb_ 210) 63 = .ok (.ireturn, 1)) rfl
theorem ok_X12_written (pc : Nat) : ok_S 210 pc (cd_X12_written pc) :=
  (ok_bf (ok_bf (ok_bf (ok_bf (ok_bf (ok_bf (ok_lf pc ok_X12_written_63) (ok_lf pc ok_X12_written_61)) (ok_lf pc ok_X12_written_58)) (ok_bf (ok_lf pc ok_X12_written_55) (ok_lf pc ok_X12_written_54))) (ok_bf (ok_bf (ok_lf pc ok_X12_written_53) (ok_lf pc ok_X12_written_52)) (ok_bf (ok_lf pc ok_X12_written_51) (ok_lf pc ok_X12_written_49)))) (ok_bf (ok_bf (ok_bf (ok_bf (ok_lf pc ok_X12_written_48) (ok_lf pc ok_X12_written_47)) (ok_lf pc ok_X12_written_44)) (ok_bf (ok_lf pc ok_X12_written_42) (ok_lf pc ok_X12_written_41))) (ok_bf (ok_bf (ok_lf pc ok_X12_written_38) (ok_lf pc ok_X12_written_36)) (ok_bf (ok_lf pc ok_X12_written_33) (ok_lf pc ok_X12_written_32))))) (ok_bf (ok_bf (ok_bf (ok_bf (ok_bf (ok_lf pc ok_X12_written_30) (ok_lf pc ok_X12_written_27)) (ok_lf pc ok_X12_written_26)) (ok_bf (ok_lf pc ok_X12_written_25) (ok_lf pc ok_X12_written_24))) (ok_bf (ok_bf (ok_lf pc ok_X12_written_23) (ok_lf pc ok_X12_written_20)) (ok_bf (ok_lf pc ok_X12_written_19) (ok_lf pc ok_X12_written_18)))) (ok_bf (ok_bf (ok_bf (ok_lf pc ok_X12_written_15) (ok_lf pc ok_X12_written_12)) (ok_bf (ok_lf pc ok_X12_written_11) (ok_lf pc ok_X12_written_8))) (ok_bf (ok_bf (ok_lf pc ok_X12_written_5) (ok_lf pc ok_X12_written_2)) (ok_bf (ok_lf pc ok_X12_written_1) (ok_lf pc ok_X12_written_0))))))
theorem mo_X12_written (pc : Nat) : mo_S (cd_X12_written pc) :=
  (mo_bf (mo_bf (mo_bf (mo_bf (mo_bf (mo_bf (mo_bf mo_ret mo_no) (mo_bf mo_push mo_no)) (mo_bf mo_go mo_no)) (mo_bf (mo_bf mo_cs mo_no) (mo_bf mo_i2 mo_no))) (mo_bf (mo_bf (mo_bf mo_ld mo_no) (mo_bf mo_i2 mo_no)) (mo_bf (mo_bf mo_push mo_no) (mo_bf mo_ld mo_no)))) (mo_bf (mo_bf (mo_bf (mo_bf (mo_bf mo_ld mo_no) (mo_bf mo_ld mo_no)) (mo_bf mo_ic mo_no)) (mo_bf (mo_bf mo_ld mo_no) (mo_bf mo_ld mo_no))) (mo_bf (mo_bf (mo_bf mo_go mo_no) (mo_bf mo_ld mo_no)) (mo_bf (mo_bf mo_if mo_no) (mo_bf mo_ld mo_no))))) (mo_bf (mo_bf (mo_bf (mo_bf (mo_bf (mo_bf mo_st mo_no) (mo_bf mo_cs mo_no)) (mo_bf mo_ld mo_no)) (mo_bf (mo_bf mo_ld mo_no) (mo_bf mo_ret mo_no))) (mo_bf (mo_bf (mo_bf mo_push mo_no) (mo_bf mo_ic mo_no)) (mo_bf (mo_bf mo_push mo_no) (mo_bf mo_ld mo_no)))) (mo_bf (mo_bf (mo_bf (mo_bf mo_if mo_no) (mo_bf mo_cs mo_no)) (mo_bf (mo_bf mo_ld mo_no) (mo_bf mo_if mo_no))) (mo_bf (mo_bf (mo_bf mo_cs mo_no) (mo_bf mo_push mo_no)) (mo_bf (mo_bf mo_push mo_no) (mo_bf mo_ld mo_no))))))
theorem ok_X12_areBases_0 : ok_S 211 0 (sf_ld 0 0 1) := ok_iload_n (by decide +kernel : decode (mb_ 211) 0 = .ok (.iload_n 0, 1)) rfl
theorem ok_X12_areBases_1 : ok_S 211 1 (sf_if 5 20 4) := ok_if5 (by decide +kernel : decode (mb_ 211) 1 = .ok (.ifCond .le 19, 3)) (by decide)
theorem ok_X12_areBases_4 : ok_S 211 4 (sf_ld 0 0 5) := ok_iload_n (by decide +kernel : decode (mb_ 211) 4 = .ok (.iload_n 0, 1)) rfl
theorem ok_X12_areBases_5 : ok_S 211 5 (sf_push (0, 131072) 7) := ok_ldc (by decide +kernel : decode (mb_ 211) 5 = .ok (.ldc 228, 2)) ⟨by decide, by decide⟩ tw_1440
theorem ok_X12_areBases_7 : ok_S 211 7 (sf_ic 3 20 10) := ok_ic3 (by decide +kernel : decode (mb_ 211) 7 = .ok (.if_icmp .ge 13, 3)) (by decide)
theorem ok_X12_areBases_10 : ok_S 211 10 (sf_ld 0 0 11) := ok_iload_n (by decide +kernel : decode (mb_ 211) 10 = .ok (.iload_n 0, 1)) rfl
theorem ok_X12_areBases_11 : ok_S 211 11 (sf_push (0, 3) 12) := ok_iconst (by decide +kernel : decode (mb_ 211) 11 = .ok (.iconst 3, 1)) ⟨by decide, by decide⟩
theorem ok_X12_areBases_12 : ok_S 211 12 (sf_i2 mx_and 13) := ok_iand (by decide +kernel : decode (mb_ 211) 12 = .ok (.iand, 1))
theorem ok_X12_areBases_13 : ok_S 211 13 (sf_if 1 20 16) := ok_if1 (by decide +kernel : decode (mb_ 211) 13 = .ok (.ifCond .ne 7, 3)) (by decide)
theorem ok_X12_areBases_16 : ok_S 211 16 (sf_push (0, 1) 17) := ok_iconst (by decide +kernel : decode (mb_ 211) 16 = .ok (.iconst 1, 1)) ⟨by decide, by decide⟩
theorem ok_X12_areBases_17 : ok_S 211 17 (sf_go 21) := ok_goto (by decide +kernel : decode (mb_ 211) 17 = .ok (.goto 4, 3)) (by decide)
theorem ok_X12_areBases_20 : ok_S 211 20 (sf_push (0, 0) 21) := ok_iconst (by decide +kernel : decode (mb_ 211) 20 = .ok (.iconst 0, 1)) ⟨by decide, by decide⟩
theorem ok_X12_areBases_21 : ok_S 211 21 (sf_rr 0 1) := ok_rr (by decide +kernel : decode (mb_ 211) 21 = .ok (.ireturn, 1)) rfl (so_nz .boolean rfl rfl)
theorem ok_X12_areBases (pc : Nat) : ok_S 211 pc (cd_X12_areBases pc) :=
  (ok_bf (ok_bf (ok_bf (ok_bf (ok_lf pc ok_X12_areBases_21) (ok_lf pc ok_X12_areBases_20)) (ok_bf (ok_lf pc ok_X12_areBases_17) (ok_lf pc ok_X12_areBases_16))) (ok_bf (ok_bf (ok_lf pc ok_X12_areBases_13) (ok_lf pc ok_X12_areBases_12)) (ok_lf pc ok_X12_areBases_11))) (ok_bf (ok_bf (ok_bf (ok_lf pc ok_X12_areBases_10) (ok_lf pc ok_X12_areBases_7)) (ok_lf pc ok_X12_areBases_5)) (ok_bf (ok_bf (ok_lf pc ok_X12_areBases_4) (ok_lf pc ok_X12_areBases_1)) (ok_lf pc ok_X12_areBases_0))))
theorem mo_X12_areBases (pc : Nat) : mo_S (cd_X12_areBases pc) :=
  (mo_bf (mo_bf (mo_bf (mo_bf (mo_bf mo_rr mo_no) (mo_bf mo_push mo_no)) (mo_bf (mo_bf mo_go mo_no) (mo_bf mo_push mo_no))) (mo_bf (mo_bf (mo_bf mo_if mo_no) (mo_bf mo_i2 mo_no)) (mo_bf mo_push mo_no))) (mo_bf (mo_bf (mo_bf (mo_bf mo_ld mo_no) (mo_bf mo_ic mo_no)) (mo_bf mo_push mo_no)) (mo_bf (mo_bf (mo_bf mo_ld mo_no) (mo_bf mo_if mo_no)) (mo_bf mo_ld mo_no))))
theorem ok_X12_isAlike_0 : ok_S 212 0 (sf_push (0, 0) 1) := ok_iconst (by decide +kernel : decode (mb_ 212) 0 = .ok (.iconst 0, 1)) ⟨by decide, by decide⟩
theorem ok_X12_isAlike_1 : ok_S 212 1 (sf_st 0 2 2) := ok_istore_n (by decide +kernel : decode (mb_ 212) 1 = .ok (.istore_n 2, 1)) rfl
theorem ok_X12_isAlike_2 : ok_S 212 2 (sf_push (0, 2) 3) := ok_iconst (by decide +kernel : decode (mb_ 212) 2 = .ok (.iconst 2, 1)) ⟨by decide, by decide⟩
theorem ok_X12_isAlike_3 : ok_S 212 3 (sf_st 0 3 4) := ok_istore_n (by decide +kernel : decode (mb_ 212) 3 = .ok (.istore_n 3, 1)) rfl
theorem ok_X12_isAlike_4 : ok_S 212 4 (sf_ld 0 3 5) := ok_iload_n (by decide +kernel : decode (mb_ 212) 4 = .ok (.iload_n 3, 1)) rfl
theorem ok_X12_isAlike_5 : ok_S 212 5 (sf_push (0, 16) 7) := ok_bipush (by decide +kernel : decode (mb_ 212) 5 = .ok (.bipush 16, 2)) ⟨by decide, by decide⟩ (by decide +kernel)
theorem ok_X12_isAlike_7 : ok_S 212 7 (sf_ic 4 88 10) := ok_ic4 (by decide +kernel : decode (mb_ 212) 7 = .ok (.if_icmp .gt 81, 3)) (by decide)
theorem ok_X12_isAlike_10 : ok_S 212 10 (sf_ld 0 1 11) := ok_iload_n (by decide +kernel : decode (mb_ 212) 10 = .ok (.iload_n 1, 1)) rfl
theorem ok_X12_isAlike_11 : ok_S 212 11 (sf_ld 0 3 12) := ok_iload_n (by decide +kernel : decode (mb_ 212) 11 = .ok (.iload_n 3, 1)) rfl
theorem ok_X12_isAlike_12 : ok_S 212 12 (sf_i2 mx_shr 13) := ok_ishr (by decide +kernel : decode (mb_ 212) 12 = .ok (.ishr, 1))
theorem ok_X12_isAlike_13 : ok_S 212 13 (sf_push (0, 1) 14) := ok_iconst (by decide +kernel : decode (mb_ 212) 13 = .ok (.iconst 1, 1)) ⟨by decide, by decide⟩
theorem ok_X12_isAlike_14 : ok_S 212 14 (sf_i2 mx_and 15) := ok_iand (by decide +kernel : decode (mb_ 212) 14 = .ok (.iand, 1))
theorem ok_X12_isAlike_15 : ok_S 212 15 (sf_push (0, 1) 16) := ok_iconst (by decide +kernel : decode (mb_ 212) 15 = .ok (.iconst 1, 1)) ⟨by decide, by decide⟩
theorem ok_X12_isAlike_16 : ok_S 212 16 (sf_ic 1 82 19) := ok_ic1 (by decide +kernel : decode (mb_ 212) 16 = .ok (.if_icmp .ne 66, 3)) (by decide)
theorem ok_X12_isAlike_19 : ok_S 212 19 (sf_ld 0 2 20) := ok_iload_n (by decide +kernel : decode (mb_ 212) 19 = .ok (.iload_n 2, 1)) rfl
theorem ok_X12_isAlike_20 : ok_S 212 20 (sf_if 1 27 23) := ok_if1 (by decide +kernel : decode (mb_ 212) 20 = .ok (.ifCond .ne 7, 3)) (by decide)
theorem ok_X12_isAlike_23 : ok_S 212 23 (sf_ld 0 3 24) := ok_iload_n (by decide +kernel : decode (mb_ 212) 23 = .ok (.iload_n 3, 1)) rfl
theorem ok_X12_isAlike_24 : ok_S 212 24 (sf_go 28) := ok_goto (by decide +kernel : decode (mb_ 212) 24 = .ok (.goto 4, 3)) (by decide)
theorem ok_X12_isAlike_27 : ok_S 212 27 (sf_ld 0 2 28) := ok_iload_n (by decide +kernel : decode (mb_ 212) 27 = .ok (.iload_n 2, 1)) rfl
theorem ok_X12_isAlike_28 : ok_S 212 28 (sf_st 0 2 29) := ok_istore_n (by decide +kernel : decode (mb_ 212) 28 = .ok (.istore_n 2, 1)) rfl
theorem ok_X12_isAlike_29 : ok_S 212 29 (sf_ld 0 0 30) := ok_iload_n (by decide +kernel : decode (mb_ 212) 29 = .ok (.iload_n 0, 1)) rfl
theorem ok_X12_isAlike_30 : ok_S 212 30 (sf_ld 0 3 31) := ok_iload_n (by decide +kernel : decode (mb_ 212) 30 = .ok (.iload_n 3, 1)) rfl
theorem ok_X12_isAlike_31 : ok_S 212 31 (sf_cs [0, 0] 208 34) := ok_cs mt_208 (by decide +kernel : decode (mb_ 212) 31 = .ok (.invokestatic 222, 3)) tw_1427 tw_1428 tw_7 (by decide +kernel) (mh_ok rfl) (by decide) (by decide)
theorem ok_X12_isAlike_34 : ok_S 212 34 (sf_ld 0 0 35) := ok_iload_n (by decide +kernel : decode (mb_ 212) 34 = .ok (.iload_n 0, 1)) rfl
theorem ok_X12_isAlike_35 : ok_S 212 35 (sf_ld 0 2 36) := ok_iload_n (by decide +kernel : decode (mb_ 212) 35 = .ok (.iload_n 2, 1)) rfl
theorem ok_X12_isAlike_36 : ok_S 212 36 (sf_cs [0, 0] 208 39) := ok_cs mt_208 (by decide +kernel : decode (mb_ 212) 36 = .ok (.invokestatic 222, 3)) tw_1427 tw_1428 tw_7 (by decide +kernel) (mh_ok rfl) (by decide) (by decide)
theorem ok_X12_isAlike_39 : ok_S 212 39 (sf_ic 0 44 42) := ok_ic0 (by decide +kernel : decode (mb_ 212) 39 = .ok (.if_icmp .eq 5, 3)) (by decide)
theorem ok_X12_isAlike_42 : ok_S 212 42 (sf_push (0, 0) 43) := ok_iconst (by decide +kernel : decode (mb_ 212) 42 = .ok (.iconst 0, 1)) ⟨by decide, by decide⟩
theorem ok_X12_isAlike_43 : ok_S 212 43 (sf_rr 0 1) := ok_rr (by decide +kernel : decode (mb_ 212) 43 = .ok (.ireturn, 1)) rfl (so_nz .boolean rfl rfl)
theorem ok_X12_isAlike_44 : ok_S 212 44 (sf_push (0, 0) 45) := ok_iconst (by decide +kernel : decode (mb_ 212) 44 = .ok (.iconst 0, 1)) ⟨by decide, by decide⟩
theorem ok_X12_isAlike_45 : ok_S 212 45 (sf_st 0 4 47) := ok_istore (by decide +kernel : decode (mb_ 212) 45 = .ok (.istore 4, 2))
theorem ok_X12_isAlike_47 : ok_S 212 47 (sf_ld 0 4 49) := ok_iload (by decide +kernel : decode (mb_ 212) 47 = .ok (.iload 4, 2))
theorem ok_X12_isAlike_49 : ok_S 212 49 (sf_ld 0 0 50) := ok_iload_n (by decide +kernel : decode (mb_ 212) 49 = .ok (.iload_n 0, 1)) rfl
theorem ok_X12_isAlike_50 : ok_S 212 50 (sf_ld 0 3 51) := ok_iload_n (by decide +kernel : decode (mb_ 212) 50 = .ok (.iload_n 3, 1)) rfl
theorem ok_X12_isAlike_51 : ok_S 212 51 (sf_cs [0, 0] 208 54) := ok_cs mt_208 (by decide +kernel : decode (mb_ 212) 51 = .ok (.invokestatic 222, 3)) tw_1427 tw_1428 tw_7 (by decide +kernel) (mh_ok rfl) (by decide) (by decide)
theorem ok_X12_isAlike_54 : ok_S 212 54 (sf_ic 3 82 57) := ok_ic3 (by decide +kernel : decode (mb_ 212) 54 = .ok (.if_icmp .ge 28, 3)) (by decide)
theorem ok_X12_isAlike_57 : ok_S 212 57 (sf_ld 0 0 58) := ok_iload_n (by decide +kernel : decode (mb_ 212) 57 = .ok (.iload_n 0, 1)) rfl
theorem ok_X12_isAlike_58 : ok_S 212 58 (sf_ld 0 3 59) := ok_iload_n (by decide +kernel : decode (mb_ 212) 58 = .ok (.iload_n 3, 1)) rfl
theorem ok_X12_isAlike_59 : ok_S 212 59 (sf_ld 0 4 61) := ok_iload (by decide +kernel : decode (mb_ 212) 59 = .ok (.iload 4, 2))
theorem ok_X12_isAlike_61 : ok_S 212 61 (sf_cs [0, 0, 0] 209 64) := ok_cs mt_209 (by decide +kernel : decode (mb_ 212) 61 = .ok (.invokestatic 225, 3)) tw_1430 tw_1431 tw_7 (by decide +kernel) (mh_ok rfl) (by decide) (by decide)
theorem ok_X12_isAlike_64 : ok_S 212 64 (sf_ld 0 0 65) := ok_iload_n (by decide +kernel : decode (mb_ 212) 64 = .ok (.iload_n 0, 1)) rfl
theorem ok_X12_isAlike_65 : ok_S 212 65 (sf_ld 0 2 66) := ok_iload_n (by decide +kernel : decode (mb_ 212) 65 = .ok (.iload_n 2, 1)) rfl
theorem ok_X12_isAlike_66 : ok_S 212 66 (sf_ld 0 4 68) := ok_iload (by decide +kernel : decode (mb_ 212) 66 = .ok (.iload 4, 2))
theorem ok_X12_isAlike_68 : ok_S 212 68 (sf_cs [0, 0, 0] 209 71) := ok_cs mt_209 (by decide +kernel : decode (mb_ 212) 68 = .ok (.invokestatic 225, 3)) tw_1430 tw_1431 tw_7 (by decide +kernel) (mh_ok rfl) (by decide) (by decide)
theorem ok_X12_isAlike_71 : ok_S 212 71 (sf_ic 0 76 74) := ok_ic0 (by decide +kernel : decode (mb_ 212) 71 = .ok (.if_icmp .eq 5, 3)) (by decide)
theorem ok_X12_isAlike_74 : ok_S 212 74 (sf_push (0, 0) 75) := ok_iconst (by decide +kernel : decode (mb_ 212) 74 = .ok (.iconst 0, 1)) ⟨by decide, by decide⟩
theorem ok_X12_isAlike_75 : ok_S 212 75 (sf_rr 0 1) := ok_rr (by decide +kernel : decode (mb_ 212) 75 = .ok (.ireturn, 1)) rfl (so_nz .boolean rfl rfl)
theorem ok_X12_isAlike_76 : ok_S 212 76 (sf_inc 4 1 79) := ok_iinc (by decide +kernel : decode (mb_ 212) 76 = .ok (.iinc 4 1, 3))
theorem ok_X12_isAlike_79 : ok_S 212 79 (sf_go 47) := ok_goto (by decide +kernel : decode (mb_ 212) 79 = .ok (.goto (-32), 3)) (by decide)
theorem ok_X12_isAlike_82 : ok_S 212 82 (sf_inc 3 1 85) := ok_iinc (by decide +kernel : decode (mb_ 212) 82 = .ok (.iinc 3 1, 3))
theorem ok_X12_isAlike_85 : ok_S 212 85 (sf_go 4) := ok_goto (by decide +kernel : decode (mb_ 212) 85 = .ok (.goto (-81), 3)) (by decide)
theorem ok_X12_isAlike_88 : ok_S 212 88 (sf_push (0, 1) 89) := ok_iconst (by decide +kernel : decode (mb_ 212) 88 = .ok (.iconst 1, 1)) ⟨by decide, by decide⟩
theorem ok_X12_isAlike_89 : ok_S 212 89 (sf_rr 0 1) := ok_rr (by decide +kernel : decode (mb_ 212) 89 = .ok (.ireturn, 1)) rfl (so_nz .boolean rfl rfl)
theorem ok_X12_isAlike (pc : Nat) : ok_S 212 pc (cd_X12_isAlike pc) :=
  (ok_bf (ok_bf (ok_bf (ok_bf (ok_bf (ok_bf (ok_lf pc ok_X12_isAlike_89) (ok_lf pc ok_X12_isAlike_88)) (ok_bf (ok_lf pc ok_X12_isAlike_85) (ok_lf pc ok_X12_isAlike_82))) (ok_bf (ok_bf (ok_lf pc ok_X12_isAlike_79) (ok_lf pc ok_X12_isAlike_76)) (ok_lf pc ok_X12_isAlike_75))) (ok_bf (ok_bf (ok_bf (ok_lf pc ok_X12_isAlike_74) (ok_lf pc ok_X12_isAlike_71)) (ok_bf (ok_lf pc ok_X12_isAlike_68) (ok_lf pc ok_X12_isAlike_66))) (ok_bf (ok_bf (ok_lf pc ok_X12_isAlike_65) (ok_lf pc ok_X12_isAlike_64)) (ok_lf pc ok_X12_isAlike_61)))) (ok_bf (ok_bf (ok_bf (ok_bf (ok_lf pc ok_X12_isAlike_59) (ok_lf pc ok_X12_isAlike_58)) (ok_bf (ok_lf pc ok_X12_isAlike_57) (ok_lf pc ok_X12_isAlike_54))) (ok_bf (ok_bf (ok_lf pc ok_X12_isAlike_51) (ok_lf pc ok_X12_isAlike_50)) (ok_lf pc ok_X12_isAlike_49))) (ok_bf (ok_bf (ok_bf (ok_lf pc ok_X12_isAlike_47) (ok_lf pc ok_X12_isAlike_45)) (ok_lf pc ok_X12_isAlike_44)) (ok_bf (ok_bf (ok_lf pc ok_X12_isAlike_43) (ok_lf pc ok_X12_isAlike_42)) (ok_lf pc ok_X12_isAlike_39))))) (ok_bf (ok_bf (ok_bf (ok_bf (ok_bf (ok_lf pc ok_X12_isAlike_36) (ok_lf pc ok_X12_isAlike_35)) (ok_bf (ok_lf pc ok_X12_isAlike_34) (ok_lf pc ok_X12_isAlike_31))) (ok_bf (ok_bf (ok_lf pc ok_X12_isAlike_30) (ok_lf pc ok_X12_isAlike_29)) (ok_lf pc ok_X12_isAlike_28))) (ok_bf (ok_bf (ok_bf (ok_lf pc ok_X12_isAlike_27) (ok_lf pc ok_X12_isAlike_24)) (ok_lf pc ok_X12_isAlike_23)) (ok_bf (ok_bf (ok_lf pc ok_X12_isAlike_20) (ok_lf pc ok_X12_isAlike_19)) (ok_lf pc ok_X12_isAlike_16)))) (ok_bf (ok_bf (ok_bf (ok_bf (ok_lf pc ok_X12_isAlike_15) (ok_lf pc ok_X12_isAlike_14)) (ok_bf (ok_lf pc ok_X12_isAlike_13) (ok_lf pc ok_X12_isAlike_12))) (ok_bf (ok_bf (ok_lf pc ok_X12_isAlike_11) (ok_lf pc ok_X12_isAlike_10)) (ok_lf pc ok_X12_isAlike_7))) (ok_bf (ok_bf (ok_bf (ok_lf pc ok_X12_isAlike_5) (ok_lf pc ok_X12_isAlike_4)) (ok_lf pc ok_X12_isAlike_3)) (ok_bf (ok_bf (ok_lf pc ok_X12_isAlike_2) (ok_lf pc ok_X12_isAlike_1)) (ok_lf pc ok_X12_isAlike_0))))))
theorem mo_X12_isAlike (pc : Nat) : mo_S (cd_X12_isAlike pc) :=
  (mo_bf (mo_bf (mo_bf (mo_bf (mo_bf (mo_bf (mo_bf mo_rr mo_no) (mo_bf mo_push mo_no)) (mo_bf (mo_bf mo_go mo_no) (mo_bf mo_inc mo_no))) (mo_bf (mo_bf (mo_bf mo_go mo_no) (mo_bf mo_inc mo_no)) (mo_bf mo_rr mo_no))) (mo_bf (mo_bf (mo_bf (mo_bf mo_push mo_no) (mo_bf mo_ic mo_no)) (mo_bf (mo_bf mo_cs mo_no) (mo_bf mo_ld mo_no))) (mo_bf (mo_bf (mo_bf mo_ld mo_no) (mo_bf mo_ld mo_no)) (mo_bf mo_cs mo_no)))) (mo_bf (mo_bf (mo_bf (mo_bf (mo_bf mo_ld mo_no) (mo_bf mo_ld mo_no)) (mo_bf (mo_bf mo_ld mo_no) (mo_bf mo_ic mo_no))) (mo_bf (mo_bf (mo_bf mo_cs mo_no) (mo_bf mo_ld mo_no)) (mo_bf mo_ld mo_no))) (mo_bf (mo_bf (mo_bf (mo_bf mo_ld mo_no) (mo_bf mo_st mo_no)) (mo_bf mo_push mo_no)) (mo_bf (mo_bf (mo_bf mo_rr mo_no) (mo_bf mo_push mo_no)) (mo_bf mo_ic mo_no))))) (mo_bf (mo_bf (mo_bf (mo_bf (mo_bf (mo_bf mo_cs mo_no) (mo_bf mo_ld mo_no)) (mo_bf (mo_bf mo_ld mo_no) (mo_bf mo_cs mo_no))) (mo_bf (mo_bf (mo_bf mo_ld mo_no) (mo_bf mo_ld mo_no)) (mo_bf mo_st mo_no))) (mo_bf (mo_bf (mo_bf (mo_bf mo_ld mo_no) (mo_bf mo_go mo_no)) (mo_bf mo_ld mo_no)) (mo_bf (mo_bf (mo_bf mo_if mo_no) (mo_bf mo_ld mo_no)) (mo_bf mo_ic mo_no)))) (mo_bf (mo_bf (mo_bf (mo_bf (mo_bf mo_push mo_no) (mo_bf mo_i2 mo_no)) (mo_bf (mo_bf mo_push mo_no) (mo_bf mo_i2 mo_no))) (mo_bf (mo_bf (mo_bf mo_ld mo_no) (mo_bf mo_ld mo_no)) (mo_bf mo_ic mo_no))) (mo_bf (mo_bf (mo_bf (mo_bf mo_push mo_no) (mo_bf mo_ld mo_no)) (mo_bf mo_st mo_no)) (mo_bf (mo_bf (mo_bf mo_push mo_no) (mo_bf mo_st mo_no)) (mo_bf mo_push mo_no))))))
theorem ok_X12_alike_0 : ok_S 213 0 (sf_ld 0 1 1) := ok_iload_n (by decide +kernel : decode (mb_ 213) 0 = .ok (.iload_n 1, 1)) rfl
theorem ok_X12_alike_1 : ok_S 213 1 (sf_cs [0] 211 4) := ok_cs mt_211 (by decide +kernel : decode (mb_ 213) 1 = .ok (.invokestatic 229, 3)) tw_1437 tw_1438 tw_7 (by decide +kernel) (mh_ok rfl) (by decide) (by decide)
theorem ok_X12_alike_4 : ok_S 213 4 (sf_if 0 18 7) := ok_if0 (by decide +kernel : decode (mb_ 213) 4 = .ok (.ifCond .eq 14, 3)) (by decide)
theorem ok_X12_alike_7 : ok_S 213 7 (sf_ld 0 2 8) := ok_iload_n (by decide +kernel : decode (mb_ 213) 7 = .ok (.iload_n 2, 1)) rfl
theorem ok_X12_alike_8 : ok_S 213 8 (sf_push (0, 0) 9) := ok_iconst (by decide +kernel : decode (mb_ 213) 8 = .ok (.iconst 0, 1)) ⟨by decide, by decide⟩
theorem ok_X12_alike_9 : ok_S 213 9 (sf_push (0, 9999) 12) := ok_sipush (by decide +kernel : decode (mb_ 213) 9 = .ok (.sipush 9999, 3)) ⟨by decide, by decide⟩ (by decide +kernel)
theorem ok_X12_alike_12 : ok_S 213 12 (sf_cs [0, 0, 0] 157 15) := ok_cs mt_157 (by decide +kernel : decode (mb_ 213) 12 = .ok (.invokestatic 56, 3)) tw_1206 tw_1207 tw_7 (by decide +kernel) (mh_ok rfl) (by decide) (by decide)
theorem ok_X12_alike_15 : ok_S 213 15 (sf_if 1 20 18) := ok_if1 (by decide +kernel : decode (mb_ 213) 15 = .ok (.ifCond .ne 5, 3)) (by decide)
theorem ok_X12_alike_18 : ok_S 213 18 (sf_push (0, (-1)) 19) := ok_iconst (by decide +kernel : decode (mb_ 213) 18 = .ok (.iconst (-1), 1)) ⟨by decide, by decide⟩
theorem ok_X12_alike_19 : ok_S 213 19 (sf_ret 0) := ok_ret0 (by decide +kernel : decode (mb_ 213) 19 = .ok (.ireturn, 1)) rfl
theorem ok_X12_alike_20 : ok_S 213 20 (sf_ld 0 2 21) := ok_iload_n (by decide +kernel : decode (mb_ 213) 20 = .ok (.iload_n 2, 1)) rfl
theorem ok_X12_alike_21 : ok_S 213 21 (sf_st 0 3 22) := ok_istore_n (by decide +kernel : decode (mb_ 213) 21 = .ok (.istore_n 3, 1)) rfl
theorem ok_X12_alike_22 : ok_S 213 22 (sf_ld 0 3 23) := ok_iload_n (by decide +kernel : decode (mb_ 213) 22 = .ok (.iload_n 3, 1)) rfl
theorem ok_X12_alike_23 : ok_S 213 23 (sf_push (0, 9999) 26) := ok_sipush (by decide +kernel : decode (mb_ 213) 23 = .ok (.sipush 9999, 3)) ⟨by decide, by decide⟩ (by decide +kernel)
theorem ok_X12_alike_26 : ok_S 213 26 (sf_ic 4 45 29) := ok_ic4 (by decide +kernel : decode (mb_ 213) 26 = .ok (.if_icmp .gt 19, 3)) (by decide)
theorem ok_X12_alike_29 : ok_S 213 29 (sf_ld 0 3 30) := ok_iload_n (by decide +kernel : decode (mb_ 213) 29 = .ok (.iload_n 3, 1)) rfl
theorem ok_X12_alike_30 : ok_S 213 30 (sf_ld 0 1 31) := ok_iload_n (by decide +kernel : decode (mb_ 213) 30 = .ok (.iload_n 1, 1)) rfl
theorem ok_X12_alike_31 : ok_S 213 31 (sf_cs [0, 0] 212 34) := ok_cs mt_212 (by decide +kernel : decode (mb_ 213) 31 = .ok (.invokestatic 232, 3)) tw_1441 tw_1442 tw_7 (by decide +kernel) (mh_ok rfl) (by decide) (by decide)
theorem ok_X12_alike_34 : ok_S 213 34 (sf_if 0 39 37) := ok_if0 (by decide +kernel : decode (mb_ 213) 34 = .ok (.ifCond .eq 5, 3)) (by decide)
theorem ok_X12_alike_37 : ok_S 213 37 (sf_ld 0 3 38) := ok_iload_n (by decide +kernel : decode (mb_ 213) 37 = .ok (.iload_n 3, 1)) rfl
theorem ok_X12_alike_38 : ok_S 213 38 (sf_ret 0) := ok_ret0 (by decide +kernel : decode (mb_ 213) 38 = .ok (.ireturn, 1)) rfl
theorem ok_X12_alike_39 : ok_S 213 39 (sf_inc 3 1 42) := ok_iinc (by decide +kernel : decode (mb_ 213) 39 = .ok (.iinc 3 1, 3))
theorem ok_X12_alike_42 : ok_S 213 42 (sf_go 22) := ok_goto (by decide +kernel : decode (mb_ 213) 42 = .ok (.goto (-20), 3)) (by decide)
theorem ok_X12_alike_45 : ok_S 213 45 (sf_push (0, (-3)) 47) := ok_bipush (by decide +kernel : decode (mb_ 213) 45 = .ok (.bipush (-3), 2)) ⟨by decide, by decide⟩ (by decide +kernel)
theorem ok_X12_alike_47 : ok_S 213 47 (sf_ret 0) := ok_ret0 (by decide +kernel : decode (mb_ 213) 47 = .ok (.ireturn, 1)) rfl
theorem ok_X12_alike (pc : Nat) : ok_S 213 pc (cd_X12_alike pc) :=
  (ok_bf (ok_bf (ok_bf (ok_bf (ok_bf (ok_lf pc ok_X12_alike_47) (ok_lf pc ok_X12_alike_45)) (ok_bf (ok_lf pc ok_X12_alike_42) (ok_lf pc ok_X12_alike_39))) (ok_bf (ok_bf (ok_lf pc ok_X12_alike_38) (ok_lf pc ok_X12_alike_37)) (ok_lf pc ok_X12_alike_34))) (ok_bf (ok_bf (ok_bf (ok_lf pc ok_X12_alike_31) (ok_lf pc ok_X12_alike_30)) (ok_lf pc ok_X12_alike_29)) (ok_bf (ok_bf (ok_lf pc ok_X12_alike_26) (ok_lf pc ok_X12_alike_23)) (ok_lf pc ok_X12_alike_22)))) (ok_bf (ok_bf (ok_bf (ok_bf (ok_lf pc ok_X12_alike_21) (ok_lf pc ok_X12_alike_20)) (ok_lf pc ok_X12_alike_19)) (ok_bf (ok_bf (ok_lf pc ok_X12_alike_18) (ok_lf pc ok_X12_alike_15)) (ok_lf pc ok_X12_alike_12))) (ok_bf (ok_bf (ok_bf (ok_lf pc ok_X12_alike_9) (ok_lf pc ok_X12_alike_8)) (ok_lf pc ok_X12_alike_7)) (ok_bf (ok_bf (ok_lf pc ok_X12_alike_4) (ok_lf pc ok_X12_alike_1)) (ok_lf pc ok_X12_alike_0)))))
theorem mo_X12_alike (pc : Nat) : mo_S (cd_X12_alike pc) :=
  (mo_bf (mo_bf (mo_bf (mo_bf (mo_bf (mo_bf mo_ret mo_no) (mo_bf mo_push mo_no)) (mo_bf (mo_bf mo_go mo_no) (mo_bf mo_inc mo_no))) (mo_bf (mo_bf (mo_bf mo_ret mo_no) (mo_bf mo_ld mo_no)) (mo_bf mo_if mo_no))) (mo_bf (mo_bf (mo_bf (mo_bf mo_cs mo_no) (mo_bf mo_ld mo_no)) (mo_bf mo_ld mo_no)) (mo_bf (mo_bf (mo_bf mo_ic mo_no) (mo_bf mo_push mo_no)) (mo_bf mo_ld mo_no)))) (mo_bf (mo_bf (mo_bf (mo_bf (mo_bf mo_st mo_no) (mo_bf mo_ld mo_no)) (mo_bf mo_ret mo_no)) (mo_bf (mo_bf (mo_bf mo_push mo_no) (mo_bf mo_if mo_no)) (mo_bf mo_cs mo_no))) (mo_bf (mo_bf (mo_bf (mo_bf mo_push mo_no) (mo_bf mo_push mo_no)) (mo_bf mo_ld mo_no)) (mo_bf (mo_bf (mo_bf mo_if mo_no) (mo_bf mo_cs mo_no)) (mo_bf mo_ld mo_no)))))
theorem ok_X12_shortest_0 : ok_S 214 0 (sf_ld 0 1 1) := ok_iload_n (by decide +kernel : decode (mb_ 214) 0 = .ok (.iload_n 1, 1)) rfl
theorem ok_X12_shortest_1 : ok_S 214 1 (sf_push (0, 0) 2) := ok_iconst (by decide +kernel : decode (mb_ 214) 1 = .ok (.iconst 0, 1)) ⟨by decide, by decide⟩
theorem ok_X12_shortest_2 : ok_S 214 2 (sf_push (0, 9999) 5) := ok_sipush (by decide +kernel : decode (mb_ 214) 2 = .ok (.sipush 9999, 3)) ⟨by decide, by decide⟩ (by decide +kernel)
theorem ok_X12_shortest_5 : ok_S 214 5 (sf_cs [0, 0, 0] 157 8) := ok_cs mt_157 (by decide +kernel : decode (mb_ 214) 5 = .ok (.invokestatic 56, 3)) tw_1206 tw_1207 tw_7 (by decide +kernel) (mh_ok rfl) (by decide) (by decide)
theorem ok_X12_shortest_8 : ok_S 214 8 (sf_if 0 18 11) := ok_if0 (by decide +kernel : decode (mb_ 214) 8 = .ok (.ifCond .eq 10, 3)) (by decide)
theorem ok_X12_shortest_11 : ok_S 214 11 (sf_ld 0 2 12) := ok_iload_n (by decide +kernel : decode (mb_ 214) 11 = .ok (.iload_n 2, 1)) rfl
theorem ok_X12_shortest_12 : ok_S 214 12 (sf_cs [0] 211 15) := ok_cs mt_211 (by decide +kernel : decode (mb_ 214) 12 = .ok (.invokestatic 229, 3)) tw_1437 tw_1438 tw_7 (by decide +kernel) (mh_ok rfl) (by decide) (by decide)
theorem ok_X12_shortest_15 : ok_S 214 15 (sf_if 1 20 18) := ok_if1 (by decide +kernel : decode (mb_ 214) 15 = .ok (.ifCond .ne 5, 3)) (by decide)
theorem ok_X12_shortest_18 : ok_S 214 18 (sf_push (0, (-1)) 19) := ok_iconst (by decide +kernel : decode (mb_ 214) 18 = .ok (.iconst (-1), 1)) ⟨by decide, by decide⟩
theorem ok_X12_shortest_19 : ok_S 214 19 (sf_ret 0) := ok_ret0 (by decide +kernel : decode (mb_ 214) 19 = .ok (.ireturn, 1)) rfl
theorem ok_X12_shortest_20 : ok_S 214 20 (sf_push (0, 0) 21) := ok_iconst (by decide +kernel : decode (mb_ 214) 20 = .ok (.iconst 0, 1)) ⟨by decide, by decide⟩
theorem ok_X12_shortest_21 : ok_S 214 21 (sf_st 0 3 22) := ok_istore_n (by decide +kernel : decode (mb_ 214) 21 = .ok (.istore_n 3, 1)) rfl
theorem ok_X12_shortest_22 : ok_S 214 22 (sf_push (0, 2) 23) := ok_iconst (by decide +kernel : decode (mb_ 214) 22 = .ok (.iconst 2, 1)) ⟨by decide, by decide⟩
theorem ok_X12_shortest_23 : ok_S 214 23 (sf_st 0 4 25) := ok_istore (by decide +kernel : decode (mb_ 214) 23 = .ok (.istore 4, 2))
theorem ok_X12_shortest_25 : ok_S 214 25 (sf_ld 0 4 27) := ok_iload (by decide +kernel : decode (mb_ 214) 25 = .ok (.iload 4, 2))
theorem ok_X12_shortest_27 : ok_S 214 27 (sf_push (0, 16) 29) := ok_bipush (by decide +kernel : decode (mb_ 214) 27 = .ok (.bipush 16, 2)) ⟨by decide, by decide⟩ (by decide +kernel)
theorem ok_X12_shortest_29 : ok_S 214 29 (sf_ic 4 85 32) := ok_ic4 (by decide +kernel : decode (mb_ 214) 29 = .ok (.if_icmp .gt 56, 3)) (by decide)
theorem ok_X12_shortest_32 : ok_S 214 32 (sf_ld 0 2 33) := ok_iload_n (by decide +kernel : decode (mb_ 214) 32 = .ok (.iload_n 2, 1)) rfl
theorem ok_X12_shortest_33 : ok_S 214 33 (sf_ld 0 4 35) := ok_iload (by decide +kernel : decode (mb_ 214) 33 = .ok (.iload 4, 2))
theorem ok_X12_shortest_35 : ok_S 214 35 (sf_i2 mx_shr 36) := ok_ishr (by decide +kernel : decode (mb_ 214) 35 = .ok (.ishr, 1))
theorem ok_X12_shortest_36 : ok_S 214 36 (sf_push (0, 1) 37) := ok_iconst (by decide +kernel : decode (mb_ 214) 36 = .ok (.iconst 1, 1)) ⟨by decide, by decide⟩
theorem ok_X12_shortest_37 : ok_S 214 37 (sf_i2 mx_and 38) := ok_iand (by decide +kernel : decode (mb_ 214) 37 = .ok (.iand, 1))
theorem ok_X12_shortest_38 : ok_S 214 38 (sf_push (0, 1) 39) := ok_iconst (by decide +kernel : decode (mb_ 214) 38 = .ok (.iconst 1, 1)) ⟨by decide, by decide⟩
theorem ok_X12_shortest_39 : ok_S 214 39 (sf_ic 1 64 42) := ok_ic1 (by decide +kernel : decode (mb_ 214) 39 = .ok (.if_icmp .ne 25, 3)) (by decide)
theorem ok_X12_shortest_42 : ok_S 214 42 (sf_ld 0 3 43) := ok_iload_n (by decide +kernel : decode (mb_ 214) 42 = .ok (.iload_n 3, 1)) rfl
theorem ok_X12_shortest_43 : ok_S 214 43 (sf_if 0 60 46) := ok_if0 (by decide +kernel : decode (mb_ 214) 43 = .ok (.ifCond .eq 17, 3)) (by decide)
theorem ok_X12_shortest_46 : ok_S 214 46 (sf_ld 0 1 47) := ok_iload_n (by decide +kernel : decode (mb_ 214) 46 = .ok (.iload_n 1, 1)) rfl
theorem ok_X12_shortest_47 : ok_S 214 47 (sf_ld 0 4 49) := ok_iload (by decide +kernel : decode (mb_ 214) 47 = .ok (.iload 4, 2))
theorem ok_X12_shortest_49 : ok_S 214 49 (sf_cs [0, 0] 208 52) := ok_cs mt_208 (by decide +kernel : decode (mb_ 214) 49 = .ok (.invokestatic 222, 3)) tw_1427 tw_1428 tw_7 (by decide +kernel) (mh_ok rfl) (by decide) (by decide)
theorem ok_X12_shortest_52 : ok_S 214 52 (sf_ld 0 1 53) := ok_iload_n (by decide +kernel : decode (mb_ 214) 52 = .ok (.iload_n 1, 1)) rfl
theorem ok_X12_shortest_53 : ok_S 214 53 (sf_ld 0 3 54) := ok_iload_n (by decide +kernel : decode (mb_ 214) 53 = .ok (.iload_n 3, 1)) rfl
theorem ok_X12_shortest_54 : ok_S 214 54 (sf_cs [0, 0] 208 57) := ok_cs mt_208 (by decide +kernel : decode (mb_ 214) 54 = .ok (.invokestatic 222, 3)) tw_1427 tw_1428 tw_7 (by decide +kernel) (mh_ok rfl) (by decide) (by decide)
theorem ok_X12_shortest_57 : ok_S 214 57 (sf_ic 3 64 60) := ok_ic3 (by decide +kernel : decode (mb_ 214) 57 = .ok (.if_icmp .ge 7, 3)) (by decide)
theorem ok_X12_shortest_60 : ok_S 214 60 (sf_push (0, 1) 61) := ok_iconst (by decide +kernel : decode (mb_ 214) 60 = .ok (.iconst 1, 1)) ⟨by decide, by decide⟩
theorem ok_X12_shortest_61 : ok_S 214 61 (sf_go 65) := ok_goto (by decide +kernel : decode (mb_ 214) 61 = .ok (.goto 4, 3)) (by decide)
theorem ok_X12_shortest_64 : ok_S 214 64 (sf_push (0, 0) 65) := ok_iconst (by decide +kernel : decode (mb_ 214) 64 = .ok (.iconst 0, 1)) ⟨by decide, by decide⟩
theorem ok_X12_shortest_65 : ok_S 214 65 (sf_st 0 5 67) := ok_istore (by decide +kernel : decode (mb_ 214) 65 = .ok (.istore 5, 2))
theorem ok_X12_shortest_67 : ok_S 214 67 (sf_ld 0 5 69) := ok_iload (by decide +kernel : decode (mb_ 214) 67 = .ok (.iload 5, 2))
theorem ok_X12_shortest_69 : ok_S 214 69 (sf_if 0 77 72) := ok_if0 (by decide +kernel : decode (mb_ 214) 69 = .ok (.ifCond .eq 8, 3)) (by decide)
theorem ok_X12_shortest_72 : ok_S 214 72 (sf_ld 0 4 74) := ok_iload (by decide +kernel : decode (mb_ 214) 72 = .ok (.iload 4, 2))
theorem ok_X12_shortest_74 : ok_S 214 74 (sf_go 78) := ok_goto (by decide +kernel : decode (mb_ 214) 74 = .ok (.goto 4, 3)) (by decide)
theorem ok_X12_shortest_77 : ok_S 214 77 (sf_ld 0 3 78) := ok_iload_n (by decide +kernel : decode (mb_ 214) 77 = .ok (.iload_n 3, 1)) rfl
theorem ok_X12_shortest_78 : ok_S 214 78 (sf_st 0 3 79) := ok_istore_n (by decide +kernel : decode (mb_ 214) 78 = .ok (.istore_n 3, 1)) rfl
theorem ok_X12_shortest_79 : ok_S 214 79 (sf_inc 4 1 82) := ok_iinc (by decide +kernel : decode (mb_ 214) 79 = .ok (.iinc 4 1, 3))
theorem ok_X12_shortest_82 : ok_S 214 82 (sf_go 25) := ok_goto (by decide +kernel : decode (mb_ 214) 82 = .ok (.goto (-57), 3)) (by decide)
theorem ok_X12_shortest_85 : ok_S 214 85 (sf_ld 0 3 86) := ok_iload_n (by decide +kernel : decode (mb_ 214) 85 = .ok (.iload_n 3, 1)) rfl
theorem ok_X12_shortest_86 : ok_S 214 86 (sf_ret 0) := ok_ret0 (by decide +kernel : decode (mb_ 214) 86 = .ok (.ireturn, 1)) rfl
theorem ok_X12_shortest (pc : Nat) : ok_S 214 pc (cd_X12_shortest pc) :=
  (ok_bf (ok_bf (ok_bf (ok_bf (ok_bf (ok_bf (ok_lf pc ok_X12_shortest_86) (ok_lf pc ok_X12_shortest_85)) (ok_lf pc ok_X12_shortest_82)) (ok_bf (ok_bf (ok_lf pc ok_X12_shortest_79) (ok_lf pc ok_X12_shortest_78)) (ok_lf pc ok_X12_shortest_77))) (ok_bf (ok_bf (ok_bf (ok_lf pc ok_X12_shortest_74) (ok_lf pc ok_X12_shortest_72)) (ok_lf pc ok_X12_shortest_69)) (ok_bf (ok_bf (ok_lf pc ok_X12_shortest_67) (ok_lf pc ok_X12_shortest_65)) (ok_lf pc ok_X12_shortest_64)))) (ok_bf (ok_bf (ok_bf (ok_bf (ok_lf pc ok_X12_shortest_61) (ok_lf pc ok_X12_shortest_60)) (ok_lf pc ok_X12_shortest_57)) (ok_bf (ok_bf (ok_lf pc ok_X12_shortest_54) (ok_lf pc ok_X12_shortest_53)) (ok_lf pc ok_X12_shortest_52))) (ok_bf (ok_bf (ok_bf (ok_lf pc ok_X12_shortest_49) (ok_lf pc ok_X12_shortest_47)) (ok_lf pc ok_X12_shortest_46)) (ok_bf (ok_bf (ok_lf pc ok_X12_shortest_43) (ok_lf pc ok_X12_shortest_42)) (ok_lf pc ok_X12_shortest_39))))) (ok_bf (ok_bf (ok_bf (ok_bf (ok_bf (ok_lf pc ok_X12_shortest_38) (ok_lf pc ok_X12_shortest_37)) (ok_lf pc ok_X12_shortest_36)) (ok_bf (ok_bf (ok_lf pc ok_X12_shortest_35) (ok_lf pc ok_X12_shortest_33)) (ok_lf pc ok_X12_shortest_32))) (ok_bf (ok_bf (ok_bf (ok_lf pc ok_X12_shortest_29) (ok_lf pc ok_X12_shortest_27)) (ok_lf pc ok_X12_shortest_25)) (ok_bf (ok_bf (ok_lf pc ok_X12_shortest_23) (ok_lf pc ok_X12_shortest_22)) (ok_lf pc ok_X12_shortest_21)))) (ok_bf (ok_bf (ok_bf (ok_bf (ok_lf pc ok_X12_shortest_20) (ok_lf pc ok_X12_shortest_19)) (ok_lf pc ok_X12_shortest_18)) (ok_bf (ok_bf (ok_lf pc ok_X12_shortest_15) (ok_lf pc ok_X12_shortest_12)) (ok_lf pc ok_X12_shortest_11))) (ok_bf (ok_bf (ok_bf (ok_lf pc ok_X12_shortest_8) (ok_lf pc ok_X12_shortest_5)) (ok_lf pc ok_X12_shortest_2)) (ok_bf (ok_lf pc ok_X12_shortest_1) (ok_lf pc ok_X12_shortest_0))))))
theorem mo_X12_shortest (pc : Nat) : mo_S (cd_X12_shortest pc) :=
  (mo_bf (mo_bf (mo_bf (mo_bf (mo_bf (mo_bf (mo_bf mo_ret mo_no) (mo_bf mo_ld mo_no)) (mo_bf mo_go mo_no)) (mo_bf (mo_bf (mo_bf mo_inc mo_no) (mo_bf mo_st mo_no)) (mo_bf mo_ld mo_no))) (mo_bf (mo_bf (mo_bf (mo_bf mo_go mo_no) (mo_bf mo_ld mo_no)) (mo_bf mo_if mo_no)) (mo_bf (mo_bf (mo_bf mo_ld mo_no) (mo_bf mo_st mo_no)) (mo_bf mo_push mo_no)))) (mo_bf (mo_bf (mo_bf (mo_bf (mo_bf mo_go mo_no) (mo_bf mo_push mo_no)) (mo_bf mo_ic mo_no)) (mo_bf (mo_bf (mo_bf mo_cs mo_no) (mo_bf mo_ld mo_no)) (mo_bf mo_ld mo_no))) (mo_bf (mo_bf (mo_bf (mo_bf mo_cs mo_no) (mo_bf mo_ld mo_no)) (mo_bf mo_ld mo_no)) (mo_bf (mo_bf (mo_bf mo_if mo_no) (mo_bf mo_ld mo_no)) (mo_bf mo_ic mo_no))))) (mo_bf (mo_bf (mo_bf (mo_bf (mo_bf (mo_bf mo_push mo_no) (mo_bf mo_i2 mo_no)) (mo_bf mo_push mo_no)) (mo_bf (mo_bf (mo_bf mo_i2 mo_no) (mo_bf mo_ld mo_no)) (mo_bf mo_ld mo_no))) (mo_bf (mo_bf (mo_bf (mo_bf mo_ic mo_no) (mo_bf mo_push mo_no)) (mo_bf mo_ld mo_no)) (mo_bf (mo_bf (mo_bf mo_st mo_no) (mo_bf mo_push mo_no)) (mo_bf mo_st mo_no)))) (mo_bf (mo_bf (mo_bf (mo_bf (mo_bf mo_push mo_no) (mo_bf mo_ret mo_no)) (mo_bf mo_push mo_no)) (mo_bf (mo_bf (mo_bf mo_if mo_no) (mo_bf mo_cs mo_no)) (mo_bf mo_ld mo_no))) (mo_bf (mo_bf (mo_bf (mo_bf mo_if mo_no) (mo_bf mo_cs mo_no)) (mo_bf mo_push mo_no)) (mo_bf (mo_bf mo_push mo_no) (mo_bf mo_ld mo_no))))))
theorem ok_X12_fromEnd_0 : ok_S 215 0 (sf_ld 2 0 1) := ok_aload_n (by decide +kernel : decode (mb_ 215) 0 = .ok (.aload_n 0, 1)) rfl
theorem ok_X12_fromEnd_1 : ok_S 215 1 (sf_ld 0 1 2) := ok_iload_n (by decide +kernel : decode (mb_ 215) 1 = .ok (.iload_n 1, 1)) rfl
theorem ok_X12_fromEnd_2 : ok_S 215 2 (sf_push (0, 3) 3) := ok_iconst (by decide +kernel : decode (mb_ 215) 2 = .ok (.iconst 3, 1)) ⟨by decide, by decide⟩
theorem ok_X12_fromEnd_3 : ok_S 215 3 (sf_cv 13 [2, 0, 0] 161 6) := ok_cv mt_161 cl_13 (by decide +kernel : decode (mb_ 215) 3 = .ok (.invokevirtual 162, 3)) tw_1285 tw_1287 ts_40 tw_7 rfl (by decide +kernel) (mh_ok rfl) (by decide) (by decide)
theorem ok_X12_fromEnd_6 : ok_S 215 6 (sf_push (0, 1) 7) := ok_iconst (by decide +kernel : decode (mb_ 215) 6 = .ok (.iconst 1, 1)) ⟨by decide, by decide⟩
theorem ok_X12_fromEnd_7 : ok_S 215 7 (sf_i2 mx_sub 8) := ok_isub (by decide +kernel : decode (mb_ 215) 7 = .ok (.isub, 1))
theorem ok_X12_fromEnd_8 : ok_S 215 8 (sf_ld 0 2 9) := ok_iload_n (by decide +kernel : decode (mb_ 215) 8 = .ok (.iload_n 2, 1)) rfl
theorem ok_X12_fromEnd_9 : ok_S 215 9 (sf_i2 mx_sub 10) := ok_isub (by decide +kernel : decode (mb_ 215) 9 = .ok (.isub, 1))
theorem ok_X12_fromEnd_10 : ok_S 215 10 (sf_st 0 3 11) := ok_istore_n (by decide +kernel : decode (mb_ 215) 10 = .ok (.istore_n 3, 1)) rfl
theorem ok_X12_fromEnd_11 : ok_S 215 11 (sf_ld 0 3 12) := ok_iload_n (by decide +kernel : decode (mb_ 215) 11 = .ok (.iload_n 3, 1)) rfl
theorem ok_X12_fromEnd_12 : ok_S 215 12 (sf_if 3 19 15) := ok_if3 (by decide +kernel : decode (mb_ 215) 12 = .ok (.ifCond .ge 7, 3)) (by decide)
theorem ok_X12_fromEnd_15 : ok_S 215 15 (sf_push (0, 0) 16) := ok_iconst (by decide +kernel : decode (mb_ 215) 15 = .ok (.iconst 0, 1)) ⟨by decide, by decide⟩
theorem ok_X12_fromEnd_16 : ok_S 215 16 (sf_go 27) := ok_goto (by decide +kernel : decode (mb_ 215) 16 = .ok (.goto 11, 3)) (by decide)
theorem ok_X12_fromEnd_19 : ok_S 215 19 (sf_ld 2 0 20) := ok_aload_n (by decide +kernel : decode (mb_ 215) 19 = .ok (.aload_n 0, 1)) rfl
theorem ok_X12_fromEnd_20 : ok_S 215 20 (sf_ld 0 1 21) := ok_iload_n (by decide +kernel : decode (mb_ 215) 20 = .ok (.iload_n 1, 1)) rfl
theorem ok_X12_fromEnd_21 : ok_S 215 21 (sf_push (0, 4) 22) := ok_iconst (by decide +kernel : decode (mb_ 215) 21 = .ok (.iconst 4, 1)) ⟨by decide, by decide⟩
theorem ok_X12_fromEnd_22 : ok_S 215 22 (sf_ld 0 3 23) := ok_iload_n (by decide +kernel : decode (mb_ 215) 22 = .ok (.iload_n 3, 1)) rfl
theorem ok_X12_fromEnd_23 : ok_S 215 23 (sf_i2 mx_add 24) := ok_iadd (by decide +kernel : decode (mb_ 215) 23 = .ok (.iadd, 1))
theorem ok_X12_fromEnd_24 : ok_S 215 24 (sf_cv 13 [2, 0, 0] 161 27) := ok_cv mt_161 cl_13 (by decide +kernel : decode (mb_ 215) 24 = .ok (.invokevirtual 162, 3)) tw_1285 tw_1287 ts_40 tw_7 rfl (by decide +kernel) (mh_ok rfl) (by decide) (by decide)
theorem ok_X12_fromEnd_27 : ok_S 215 27 (sf_ret 0) := ok_ret0 (by decide +kernel : decode (mb_ 215) 27 = .ok (.ireturn, 1)) rfl
theorem ok_X12_fromEnd (pc : Nat) : ok_S 215 pc (cd_X12_fromEnd pc) :=
  (ok_bf (ok_bf (ok_bf (ok_bf (ok_bf (ok_lf pc ok_X12_fromEnd_27) (ok_lf pc ok_X12_fromEnd_24)) (ok_lf pc ok_X12_fromEnd_23)) (ok_bf (ok_lf pc ok_X12_fromEnd_22) (ok_lf pc ok_X12_fromEnd_21))) (ok_bf (ok_bf (ok_bf (ok_lf pc ok_X12_fromEnd_20) (ok_lf pc ok_X12_fromEnd_19)) (ok_lf pc ok_X12_fromEnd_16)) (ok_bf (ok_lf pc ok_X12_fromEnd_15) (ok_lf pc ok_X12_fromEnd_12)))) (ok_bf (ok_bf (ok_bf (ok_bf (ok_lf pc ok_X12_fromEnd_11) (ok_lf pc ok_X12_fromEnd_10)) (ok_lf pc ok_X12_fromEnd_9)) (ok_bf (ok_lf pc ok_X12_fromEnd_8) (ok_lf pc ok_X12_fromEnd_7))) (ok_bf (ok_bf (ok_bf (ok_lf pc ok_X12_fromEnd_6) (ok_lf pc ok_X12_fromEnd_3)) (ok_lf pc ok_X12_fromEnd_2)) (ok_bf (ok_lf pc ok_X12_fromEnd_1) (ok_lf pc ok_X12_fromEnd_0)))))
theorem mo_X12_fromEnd (pc : Nat) : mo_S (cd_X12_fromEnd pc) :=
  (mo_bf (mo_bf (mo_bf (mo_bf (mo_bf (mo_bf mo_ret mo_no) (mo_bf mo_cv mo_no)) (mo_bf mo_i2 mo_no)) (mo_bf (mo_bf mo_ld mo_no) (mo_bf mo_push mo_no))) (mo_bf (mo_bf (mo_bf (mo_bf mo_ld mo_no) (mo_bf mo_ld mo_no)) (mo_bf mo_go mo_no)) (mo_bf (mo_bf mo_push mo_no) (mo_bf mo_if mo_no)))) (mo_bf (mo_bf (mo_bf (mo_bf (mo_bf mo_ld mo_no) (mo_bf mo_st mo_no)) (mo_bf mo_i2 mo_no)) (mo_bf (mo_bf mo_ld mo_no) (mo_bf mo_i2 mo_no))) (mo_bf (mo_bf (mo_bf (mo_bf mo_push mo_no) (mo_bf mo_cv mo_no)) (mo_bf mo_push mo_no)) (mo_bf (mo_bf mo_ld mo_no) (mo_bf mo_ld mo_no)))))
theorem ok_X12_add_0 : ok_S 216 0 (sf_ld 2 0 1) := ok_aload_n (by decide +kernel : decode (mb_ 216) 0 = .ok (.aload_n 0, 1)) rfl
theorem ok_X12_add_1 : ok_S 216 1 (sf_ld 0 1 2) := ok_iload_n (by decide +kernel : decode (mb_ 216) 1 = .ok (.iload_n 1, 1)) rfl
theorem ok_X12_add_2 : ok_S 216 2 (sf_cv 13 [2, 0] 158 5) := ok_cv mt_158 cl_13 (by decide +kernel : decode (mb_ 216) 2 = .ok (.invokevirtual 166, 3)) tw_1297 tw_1299 ts_41 tw_7 rfl (by decide +kernel) (mh_ok rfl) (by decide) (by decide)
theorem ok_X12_add_5 : ok_S 216 5 (sf_if 0 16 8) := ok_if0 (by decide +kernel : decode (mb_ 216) 5 = .ok (.ifCond .eq 11, 3)) (by decide)
theorem ok_X12_add_8 : ok_S 216 8 (sf_ld 2 0 9) := ok_aload_n (by decide +kernel : decode (mb_ 216) 8 = .ok (.aload_n 0, 1)) rfl
theorem ok_X12_add_9 : ok_S 216 9 (sf_ld 0 2 10) := ok_iload_n (by decide +kernel : decode (mb_ 216) 9 = .ok (.iload_n 2, 1)) rfl
theorem ok_X12_add_10 : ok_S 216 10 (sf_cv 13 [2, 0] 158 13) := ok_cv mt_158 cl_13 (by decide +kernel : decode (mb_ 216) 10 = .ok (.invokevirtual 166, 3)) tw_1297 tw_1299 ts_41 tw_7 rfl (by decide +kernel) (mh_ok rfl) (by decide) (by decide)
theorem ok_X12_add_13 : ok_S 216 13 (sf_if 1 18 16) := ok_if1 (by decide +kernel : decode (mb_ 216) 13 = .ok (.ifCond .ne 5, 3)) (by decide)
theorem ok_X12_add_16 : ok_S 216 16 (sf_push (0, (-1)) 17) := ok_iconst (by decide +kernel : decode (mb_ 216) 16 = .ok (.iconst (-1), 1)) ⟨by decide, by decide⟩
theorem ok_X12_add_17 : ok_S 216 17 (sf_ret 0) := ok_ret0 (by decide +kernel : decode (mb_ 216) 17 = .ok (.ireturn, 1)) rfl
theorem ok_X12_add_18 : ok_S 216 18 (sf_ld 2 0 19) := ok_aload_n (by decide +kernel : decode (mb_ 216) 18 = .ok (.aload_n 0, 1)) rfl
theorem ok_X12_add_19 : ok_S 216 19 (sf_ld 0 1 20) := ok_iload_n (by decide +kernel : decode (mb_ 216) 19 = .ok (.iload_n 1, 1)) rfl
theorem ok_X12_add_20 : ok_S 216 20 (sf_push (0, 0) 21) := ok_iconst (by decide +kernel : decode (mb_ 216) 20 = .ok (.iconst 0, 1)) ⟨by decide, by decide⟩
theorem ok_X12_add_21 : ok_S 216 21 (sf_cv 13 [2, 0, 0] 161 24) := ok_cv mt_161 cl_13 (by decide +kernel : decode (mb_ 216) 21 = .ok (.invokevirtual 162, 3)) tw_1285 tw_1287 ts_40 tw_7 rfl (by decide +kernel) (mh_ok rfl) (by decide) (by decide)
theorem ok_X12_add_24 : ok_S 216 24 (sf_if 1 36 27) := ok_if1 (by decide +kernel : decode (mb_ 216) 24 = .ok (.ifCond .ne 12, 3)) (by decide)
theorem ok_X12_add_27 : ok_S 216 27 (sf_ld 2 0 28) := ok_aload_n (by decide +kernel : decode (mb_ 216) 27 = .ok (.aload_n 0, 1)) rfl
theorem ok_X12_add_28 : ok_S 216 28 (sf_ld 0 2 29) := ok_iload_n (by decide +kernel : decode (mb_ 216) 28 = .ok (.iload_n 2, 1)) rfl
theorem ok_X12_add_29 : ok_S 216 29 (sf_push (0, 0) 30) := ok_iconst (by decide +kernel : decode (mb_ 216) 29 = .ok (.iconst 0, 1)) ⟨by decide, by decide⟩
theorem ok_X12_add_30 : ok_S 216 30 (sf_cv 13 [2, 0, 0] 161 33) := ok_cv mt_161 cl_13 (by decide +kernel : decode (mb_ 216) 30 = .ok (.invokevirtual 162, 3)) tw_1285 tw_1287 ts_40 tw_7 rfl (by decide +kernel) (mh_ok rfl) (by decide) (by decide)
theorem ok_X12_add_33 : ok_S 216 33 (sf_if 0 39 36) := ok_if0 (by decide +kernel : decode (mb_ 216) 33 = .ok (.ifCond .eq 6, 3)) (by decide)
theorem ok_X12_add_36 : ok_S 216 36 (sf_push (0, (-4)) 38) := ok_bipush (by decide +kernel : decode (mb_ 216) 36 = .ok (.bipush (-4), 2)) ⟨by decide, by decide⟩ (by decide +kernel)
theorem ok_X12_add_38 : ok_S 216 38 (sf_ret 0) := ok_ret0 (by decide +kernel : decode (mb_ 216) 38 = .ok (.ireturn, 1)) rfl
theorem ok_X12_add_39 : ok_S 216 39 (sf_ld 2 0 40) := ok_aload_n (by decide +kernel : decode (mb_ 216) 39 = .ok (.aload_n 0, 1)) rfl
theorem ok_X12_add_40 : ok_S 216 40 (sf_ld 0 1 41) := ok_iload_n (by decide +kernel : decode (mb_ 216) 40 = .ok (.iload_n 1, 1)) rfl
theorem ok_X12_add_41 : ok_S 216 41 (sf_push (0, 3) 42) := ok_iconst (by decide +kernel : decode (mb_ 216) 41 = .ok (.iconst 3, 1)) ⟨by decide, by decide⟩
theorem ok_X12_add_42 : ok_S 216 42 (sf_cv 13 [2, 0, 0] 161 45) := ok_cv mt_161 cl_13 (by decide +kernel : decode (mb_ 216) 42 = .ok (.invokevirtual 162, 3)) tw_1285 tw_1287 ts_40 tw_7 rfl (by decide +kernel) (mh_ok rfl) (by decide) (by decide)
theorem ok_X12_add_45 : ok_S 216 45 (sf_ld 2 0 46) := ok_aload_n (by decide +kernel : decode (mb_ 216) 45 = .ok (.aload_n 0, 1)) rfl
theorem ok_X12_add_46 : ok_S 216 46 (sf_ld 0 2 47) := ok_iload_n (by decide +kernel : decode (mb_ 216) 46 = .ok (.iload_n 2, 1)) rfl
theorem ok_X12_add_47 : ok_S 216 47 (sf_push (0, 3) 48) := ok_iconst (by decide +kernel : decode (mb_ 216) 47 = .ok (.iconst 3, 1)) ⟨by decide, by decide⟩
theorem ok_X12_add_48 : ok_S 216 48 (sf_cv 13 [2, 0, 0] 161 51) := ok_cv mt_161 cl_13 (by decide +kernel : decode (mb_ 216) 48 = .ok (.invokevirtual 162, 3)) tw_1285 tw_1287 ts_40 tw_7 rfl (by decide +kernel) (mh_ok rfl) (by decide) (by decide)
theorem ok_X12_add_51 : ok_S 216 51 (sf_ic 5 63 54) := ok_ic5 (by decide +kernel : decode (mb_ 216) 51 = .ok (.if_icmp .le 12, 3)) (by decide)
theorem ok_X12_add_54 : ok_S 216 54 (sf_ld 2 0 55) := ok_aload_n (by decide +kernel : decode (mb_ 216) 54 = .ok (.aload_n 0, 1)) rfl
theorem ok_X12_add_55 : ok_S 216 55 (sf_ld 0 1 56) := ok_iload_n (by decide +kernel : decode (mb_ 216) 55 = .ok (.iload_n 1, 1)) rfl
theorem ok_X12_add_56 : ok_S 216 56 (sf_push (0, 3) 57) := ok_iconst (by decide +kernel : decode (mb_ 216) 56 = .ok (.iconst 3, 1)) ⟨by decide, by decide⟩
theorem ok_X12_add_57 : ok_S 216 57 (sf_cv 13 [2, 0, 0] 161 60) := ok_cv mt_161 cl_13 (by decide +kernel : decode (mb_ 216) 57 = .ok (.invokevirtual 162, 3)) tw_1285 tw_1287 ts_40 tw_7 rfl (by decide +kernel) (mh_ok rfl) (by decide) (by decide)
theorem ok_X12_add_60 : ok_S 216 60 (sf_go 69) := ok_goto (by decide +kernel : decode (mb_ 216) 60 = .ok (.goto 9, 3)) (by decide)
theorem ok_X12_add_63 : ok_S 216 63 (sf_ld 2 0 64) := ok_aload_n (by decide +kernel : decode (mb_ 216) 63 = .ok (.aload_n 0, 1)) rfl
theorem ok_X12_add_64 : ok_S 216 64 (sf_ld 0 2 65) := ok_iload_n (by decide +kernel : decode (mb_ 216) 64 = .ok (.iload_n 2, 1)) rfl
theorem ok_X12_add_65 : ok_S 216 65 (sf_push (0, 3) 66) := ok_iconst (by decide +kernel : decode (mb_ 216) 65 = .ok (.iconst 3, 1)) ⟨by decide, by decide⟩
theorem ok_X12_add_66 : ok_S 216 66 (sf_cv 13 [2, 0, 0] 161 69) := ok_cv mt_161 cl_13 (by decide +kernel : decode (mb_ 216) 66 = .ok (.invokevirtual 162, 3)) tw_1285 tw_1287 ts_40 tw_7 rfl (by decide +kernel) (mh_ok rfl) (by decide) (by decide)
theorem ok_X12_add_69 : ok_S 216 69 (sf_st 0 3 70) := ok_istore_n (by decide +kernel : decode (mb_ 216) 69 = .ok (.istore_n 3, 1)) rfl
theorem ok_X12_add_70 : ok_S 216 70 (sf_push (0, 0) 71) := ok_iconst (by decide +kernel : decode (mb_ 216) 70 = .ok (.iconst 0, 1)) ⟨by decide, by decide⟩
theorem ok_X12_add_71 : ok_S 216 71 (sf_st 0 4 73) := ok_istore (by decide +kernel : decode (mb_ 216) 71 = .ok (.istore 4, 2))
theorem ok_X12_add_73 : ok_S 216 73 (sf_ld 0 3 74) := ok_iload_n (by decide +kernel : decode (mb_ 216) 73 = .ok (.iload_n 3, 1)) rfl
theorem ok_X12_add_74 : ok_S 216 74 (sf_push (0, 1) 75) := ok_iconst (by decide +kernel : decode (mb_ 216) 74 = .ok (.iconst 1, 1)) ⟨by decide, by decide⟩
theorem ok_X12_add_75 : ok_S 216 75 (sf_i2 mx_sub 76) := ok_isub (by decide +kernel : decode (mb_ 216) 75 = .ok (.isub, 1))
theorem ok_X12_add_76 : ok_S 216 76 (sf_st 0 5 78) := ok_istore (by decide +kernel : decode (mb_ 216) 76 = .ok (.istore 5, 2))
theorem ok_X12_add_78 : ok_S 216 78 (sf_ld 0 5 80) := ok_iload (by decide +kernel : decode (mb_ 216) 78 = .ok (.iload 5, 2))
theorem ok_X12_add_80 : ok_S 216 80 (sf_if 2 125 83) := ok_if2 (by decide +kernel : decode (mb_ 216) 80 = .ok (.ifCond .lt 45, 3)) (by decide)
theorem ok_X12_add_83 : ok_S 216 83 (sf_ld 2 0 84) := ok_aload_n (by decide +kernel : decode (mb_ 216) 83 = .ok (.aload_n 0, 1)) rfl
theorem ok_X12_add_84 : ok_S 216 84 (sf_ld 0 1 85) := ok_iload_n (by decide +kernel : decode (mb_ 216) 84 = .ok (.iload_n 1, 1)) rfl
theorem ok_X12_add_85 : ok_S 216 85 (sf_ld 0 5 87) := ok_iload (by decide +kernel : decode (mb_ 216) 85 = .ok (.iload 5, 2))
theorem ok_X12_add_87 : ok_S 216 87 (sf_cv 13 [2, 0, 0] 215 90) := ok_cv mt_215 cl_13 (by decide +kernel : decode (mb_ 216) 87 = .ok (.invokevirtual 235, 3)) tw_1452 tw_1454 ts_55 tw_7 rfl (by decide +kernel) (mh_ok rfl) (by decide) (by decide)
theorem ok_X12_add_90 : ok_S 216 90 (sf_ld 2 0 91) := ok_aload_n (by decide +kernel : decode (mb_ 216) 90 = .ok (.aload_n 0, 1)) rfl
theorem ok_X12_add_91 : ok_S 216 91 (sf_ld 0 2 92) := ok_iload_n (by decide +kernel : decode (mb_ 216) 91 = .ok (.iload_n 2, 1)) rfl
theorem ok_X12_add_92 : ok_S 216 92 (sf_ld 0 5 94) := ok_iload (by decide +kernel : decode (mb_ 216) 92 = .ok (.iload 5, 2))
theorem ok_X12_add_94 : ok_S 216 94 (sf_cv 13 [2, 0, 0] 215 97) := ok_cv mt_215 cl_13 (by decide +kernel : decode (mb_ 216) 94 = .ok (.invokevirtual 235, 3)) tw_1452 tw_1454 ts_55 tw_7 rfl (by decide +kernel) (mh_ok rfl) (by decide) (by decide)
theorem ok_X12_add_97 : ok_S 216 97 (sf_i2 mx_add 98) := ok_iadd (by decide +kernel : decode (mb_ 216) 97 = .ok (.iadd, 1))
theorem ok_X12_add_98 : ok_S 216 98 (sf_st 0 6 100) := ok_istore (by decide +kernel : decode (mb_ 216) 98 = .ok (.istore 6, 2))
theorem ok_X12_add_100 : ok_S 216 100 (sf_ld 0 6 102) := ok_iload (by decide +kernel : decode (mb_ 216) 100 = .ok (.iload 6, 2))
theorem ok_X12_add_102 : ok_S 216 102 (sf_push (0, 15) 104) := ok_bipush (by decide +kernel : decode (mb_ 216) 102 = .ok (.bipush 15, 2)) ⟨by decide, by decide⟩ (by decide +kernel)
theorem ok_X12_add_104 : ok_S 216 104 (sf_ic 5 110 107) := ok_ic5 (by decide +kernel : decode (mb_ 216) 104 = .ok (.if_icmp .le 6, 3)) (by decide)
theorem ok_X12_add_107 : ok_S 216 107 (sf_push (0, (-4)) 109) := ok_bipush (by decide +kernel : decode (mb_ 216) 107 = .ok (.bipush (-4), 2)) ⟨by decide, by decide⟩ (by decide +kernel)
theorem ok_X12_add_109 : ok_S 216 109 (sf_ret 0) := ok_ret0 (by decide +kernel : decode (mb_ 216) 109 = .ok (.ireturn, 1)) rfl
theorem ok_X12_add_110 : ok_S 216 110 (sf_ld 0 4 112) := ok_iload (by decide +kernel : decode (mb_ 216) 110 = .ok (.iload 4, 2))
theorem ok_X12_add_112 : ok_S 216 112 (sf_push (0, 4) 113) := ok_iconst (by decide +kernel : decode (mb_ 216) 112 = .ok (.iconst 4, 1)) ⟨by decide, by decide⟩
theorem ok_X12_add_113 : ok_S 216 113 (sf_i2 mx_shl 114) := ok_ishl (by decide +kernel : decode (mb_ 216) 113 = .ok (.ishl, 1))
theorem ok_X12_add_114 : ok_S 216 114 (sf_ld 0 6 116) := ok_iload (by decide +kernel : decode (mb_ 216) 114 = .ok (.iload 6, 2))
theorem ok_X12_add_116 : ok_S 216 116 (sf_i2 mx_or 117) := ok_ior (by decide +kernel : decode (mb_ 216) 116 = .ok (.ior, 1))
theorem ok_X12_add_117 : ok_S 216 117 (sf_st 0 4 119) := ok_istore (by decide +kernel : decode (mb_ 216) 117 = .ok (.istore 4, 2))
theorem ok_X12_add_119 : ok_S 216 119 (sf_inc 5 (-1) 122) := ok_iinc (by decide +kernel : decode (mb_ 216) 119 = .ok (.iinc 5 (-1), 3))
theorem ok_X12_add_122 : ok_S 216 122 (sf_go 78) := ok_goto (by decide +kernel : decode (mb_ 216) 122 = .ok (.goto (-44), 3)) (by decide)
theorem ok_X12_add_125 : ok_S 216 125 (sf_ld 2 0 126) := ok_aload_n (by decide +kernel : decode (mb_ 216) 125 = .ok (.aload_n 0, 1)) rfl
theorem ok_X12_add_126 : ok_S 216 126 (sf_push (0, 0) 127) := ok_iconst (by decide +kernel : decode (mb_ 216) 126 = .ok (.iconst 0, 1)) ⟨by decide, by decide⟩
theorem ok_X12_add_127 : ok_S 216 127 (sf_ld 2 0 128) := ok_aload_n (by decide +kernel : decode (mb_ 216) 127 = .ok (.aload_n 0, 1)) rfl
theorem ok_X12_add_128 : ok_S 216 128 (sf_ld 0 1 129) := ok_iload_n (by decide +kernel : decode (mb_ 216) 128 = .ok (.iload_n 1, 1)) rfl
theorem ok_X12_add_129 : ok_S 216 129 (sf_push (0, 1) 130) := ok_iconst (by decide +kernel : decode (mb_ 216) 129 = .ok (.iconst 1, 1)) ⟨by decide, by decide⟩
theorem ok_X12_add_130 : ok_S 216 130 (sf_cv 13 [2, 0, 0] 161 133) := ok_cv mt_161 cl_13 (by decide +kernel : decode (mb_ 216) 130 = .ok (.invokevirtual 162, 3)) tw_1285 tw_1287 ts_40 tw_7 rfl (by decide +kernel) (mh_ok rfl) (by decide) (by decide)
theorem ok_X12_add_133 : ok_S 216 133 (sf_push (0, 0) 134) := ok_iconst (by decide +kernel : decode (mb_ 216) 133 = .ok (.iconst 0, 1)) ⟨by decide, by decide⟩
theorem ok_X12_add_134 : ok_S 216 134 (sf_ld 0 3 135) := ok_iload_n (by decide +kernel : decode (mb_ 216) 134 = .ok (.iload_n 3, 1)) rfl
theorem ok_X12_add_135 : ok_S 216 135 (sf_ld 0 4 137) := ok_iload (by decide +kernel : decode (mb_ 216) 135 = .ok (.iload 4, 2))
theorem ok_X12_add_137 : ok_S 216 137 (sf_cv 13 [2, 0, 0, 0, 0, 0] 177 140) := ok_cv mt_177 cl_13 (by decide +kernel : decode (mb_ 216) 137 = .ok (.invokevirtual 238, 3)) tw_1456 tw_1290 tw_1291 tw_7 rfl (by decide +kernel) (mh_ok rfl) (by decide) (by decide)
theorem ok_X12_add_140 : ok_S 216 140 (sf_ret 0) := ok_ret0 (by decide +kernel : decode (mb_ 216) 140 = .ok (.ireturn, 1)) rfl
theorem ok_X12_add (pc : Nat) : ok_S 216 pc (cd_X12_add pc) :=
  (ok_bf (ok_bf (ok_bf (ok_bf (ok_bf (ok_bf (ok_bf (ok_lf pc ok_X12_add_140) (ok_lf pc ok_X12_add_137)) (ok_lf pc ok_X12_add_135)) (ok_bf (ok_bf (ok_lf pc ok_X12_add_134) (ok_lf pc ok_X12_add_133)) (ok_lf pc ok_X12_add_130))) (ok_bf (ok_bf (ok_bf (ok_lf pc ok_X12_add_129) (ok_lf pc ok_X12_add_128)) (ok_lf pc ok_X12_add_127)) (ok_bf (ok_lf pc ok_X12_add_126) (ok_lf pc ok_X12_add_125)))) (ok_bf (ok_bf (ok_bf (ok_bf (ok_lf pc ok_X12_add_122) (ok_lf pc ok_X12_add_119)) (ok_lf pc ok_X12_add_117)) (ok_bf (ok_lf pc ok_X12_add_116) (ok_lf pc ok_X12_add_114))) (ok_bf (ok_bf (ok_bf (ok_lf pc ok_X12_add_113) (ok_lf pc ok_X12_add_112)) (ok_lf pc ok_X12_add_110)) (ok_bf (ok_lf pc ok_X12_add_109) (ok_lf pc ok_X12_add_107))))) (ok_bf (ok_bf (ok_bf (ok_bf (ok_bf (ok_lf pc ok_X12_add_104) (ok_lf pc ok_X12_add_102)) (ok_lf pc ok_X12_add_100)) (ok_bf (ok_bf (ok_lf pc ok_X12_add_98) (ok_lf pc ok_X12_add_97)) (ok_lf pc ok_X12_add_94))) (ok_bf (ok_bf (ok_bf (ok_lf pc ok_X12_add_92) (ok_lf pc ok_X12_add_91)) (ok_lf pc ok_X12_add_90)) (ok_bf (ok_lf pc ok_X12_add_87) (ok_lf pc ok_X12_add_85)))) (ok_bf (ok_bf (ok_bf (ok_bf (ok_lf pc ok_X12_add_84) (ok_lf pc ok_X12_add_83)) (ok_lf pc ok_X12_add_80)) (ok_bf (ok_lf pc ok_X12_add_78) (ok_lf pc ok_X12_add_76))) (ok_bf (ok_bf (ok_bf (ok_lf pc ok_X12_add_75) (ok_lf pc ok_X12_add_74)) (ok_lf pc ok_X12_add_73)) (ok_bf (ok_lf pc ok_X12_add_71) (ok_lf pc ok_X12_add_70)))))) (ok_bf (ok_bf (ok_bf (ok_bf (ok_bf (ok_bf (ok_lf pc ok_X12_add_69) (ok_lf pc ok_X12_add_66)) (ok_lf pc ok_X12_add_65)) (ok_bf (ok_bf (ok_lf pc ok_X12_add_64) (ok_lf pc ok_X12_add_63)) (ok_lf pc ok_X12_add_60))) (ok_bf (ok_bf (ok_bf (ok_lf pc ok_X12_add_57) (ok_lf pc ok_X12_add_56)) (ok_lf pc ok_X12_add_55)) (ok_bf (ok_lf pc ok_X12_add_54) (ok_lf pc ok_X12_add_51)))) (ok_bf (ok_bf (ok_bf (ok_bf (ok_lf pc ok_X12_add_48) (ok_lf pc ok_X12_add_47)) (ok_lf pc ok_X12_add_46)) (ok_bf (ok_lf pc ok_X12_add_45) (ok_lf pc ok_X12_add_42))) (ok_bf (ok_bf (ok_bf (ok_lf pc ok_X12_add_41) (ok_lf pc ok_X12_add_40)) (ok_lf pc ok_X12_add_39)) (ok_bf (ok_lf pc ok_X12_add_38) (ok_lf pc ok_X12_add_36))))) (ok_bf (ok_bf (ok_bf (ok_bf (ok_bf (ok_lf pc ok_X12_add_33) (ok_lf pc ok_X12_add_30)) (ok_lf pc ok_X12_add_29)) (ok_bf (ok_lf pc ok_X12_add_28) (ok_lf pc ok_X12_add_27))) (ok_bf (ok_bf (ok_bf (ok_lf pc ok_X12_add_24) (ok_lf pc ok_X12_add_21)) (ok_lf pc ok_X12_add_20)) (ok_bf (ok_lf pc ok_X12_add_19) (ok_lf pc ok_X12_add_18)))) (ok_bf (ok_bf (ok_bf (ok_bf (ok_lf pc ok_X12_add_17) (ok_lf pc ok_X12_add_16)) (ok_lf pc ok_X12_add_13)) (ok_bf (ok_lf pc ok_X12_add_10) (ok_lf pc ok_X12_add_9))) (ok_bf (ok_bf (ok_bf (ok_lf pc ok_X12_add_8) (ok_lf pc ok_X12_add_5)) (ok_lf pc ok_X12_add_2)) (ok_bf (ok_lf pc ok_X12_add_1) (ok_lf pc ok_X12_add_0)))))))
theorem mo_X12_add (pc : Nat) : mo_S (cd_X12_add pc) :=
  (mo_bf (mo_bf (mo_bf (mo_bf (mo_bf (mo_bf (mo_bf (mo_bf mo_ret mo_no) (mo_bf mo_cv mo_no)) (mo_bf mo_ld mo_no)) (mo_bf (mo_bf (mo_bf mo_ld mo_no) (mo_bf mo_push mo_no)) (mo_bf mo_cv mo_no))) (mo_bf (mo_bf (mo_bf (mo_bf mo_push mo_no) (mo_bf mo_ld mo_no)) (mo_bf mo_ld mo_no)) (mo_bf (mo_bf mo_push mo_no) (mo_bf mo_ld mo_no)))) (mo_bf (mo_bf (mo_bf (mo_bf (mo_bf mo_go mo_no) (mo_bf mo_inc mo_no)) (mo_bf mo_st mo_no)) (mo_bf (mo_bf mo_i2 mo_no) (mo_bf mo_ld mo_no))) (mo_bf (mo_bf (mo_bf (mo_bf mo_i2 mo_no) (mo_bf mo_push mo_no)) (mo_bf mo_ld mo_no)) (mo_bf (mo_bf mo_ret mo_no) (mo_bf mo_push mo_no))))) (mo_bf (mo_bf (mo_bf (mo_bf (mo_bf (mo_bf mo_ic mo_no) (mo_bf mo_push mo_no)) (mo_bf mo_ld mo_no)) (mo_bf (mo_bf (mo_bf mo_st mo_no) (mo_bf mo_i2 mo_no)) (mo_bf mo_cv mo_no))) (mo_bf (mo_bf (mo_bf (mo_bf mo_ld mo_no) (mo_bf mo_ld mo_no)) (mo_bf mo_ld mo_no)) (mo_bf (mo_bf mo_cv mo_no) (mo_bf mo_ld mo_no)))) (mo_bf (mo_bf (mo_bf (mo_bf (mo_bf mo_ld mo_no) (mo_bf mo_ld mo_no)) (mo_bf mo_if mo_no)) (mo_bf (mo_bf mo_ld mo_no) (mo_bf mo_st mo_no))) (mo_bf (mo_bf (mo_bf (mo_bf mo_i2 mo_no) (mo_bf mo_push mo_no)) (mo_bf mo_ld mo_no)) (mo_bf (mo_bf mo_st mo_no) (mo_bf mo_push mo_no)))))) (mo_bf (mo_bf (mo_bf (mo_bf (mo_bf (mo_bf (mo_bf mo_st mo_no) (mo_bf mo_cv mo_no)) (mo_bf mo_push mo_no)) (mo_bf (mo_bf (mo_bf mo_ld mo_no) (mo_bf mo_ld mo_no)) (mo_bf mo_go mo_no))) (mo_bf (mo_bf (mo_bf (mo_bf mo_cv mo_no) (mo_bf mo_push mo_no)) (mo_bf mo_ld mo_no)) (mo_bf (mo_bf mo_ld mo_no) (mo_bf mo_ic mo_no)))) (mo_bf (mo_bf (mo_bf (mo_bf (mo_bf mo_cv mo_no) (mo_bf mo_push mo_no)) (mo_bf mo_ld mo_no)) (mo_bf (mo_bf mo_ld mo_no) (mo_bf mo_cv mo_no))) (mo_bf (mo_bf (mo_bf (mo_bf mo_push mo_no) (mo_bf mo_ld mo_no)) (mo_bf mo_ld mo_no)) (mo_bf (mo_bf mo_ret mo_no) (mo_bf mo_push mo_no))))) (mo_bf (mo_bf (mo_bf (mo_bf (mo_bf (mo_bf mo_if mo_no) (mo_bf mo_cv mo_no)) (mo_bf mo_push mo_no)) (mo_bf (mo_bf mo_ld mo_no) (mo_bf mo_ld mo_no))) (mo_bf (mo_bf (mo_bf (mo_bf mo_if mo_no) (mo_bf mo_cv mo_no)) (mo_bf mo_push mo_no)) (mo_bf (mo_bf mo_ld mo_no) (mo_bf mo_ld mo_no)))) (mo_bf (mo_bf (mo_bf (mo_bf (mo_bf mo_ret mo_no) (mo_bf mo_push mo_no)) (mo_bf mo_if mo_no)) (mo_bf (mo_bf mo_cv mo_no) (mo_bf mo_ld mo_no))) (mo_bf (mo_bf (mo_bf (mo_bf mo_ld mo_no) (mo_bf mo_if mo_no)) (mo_bf mo_cv mo_no)) (mo_bf (mo_bf mo_ld mo_no) (mo_bf mo_ld mo_no)))))))
theorem ok_X12_seed_0 : ok_S 217 0 (sf_ld 2 0 1) := ok_aload_n (by decide +kernel : decode (mb_ 217) 0 = .ok (.aload_n 0, 1)) rfl
theorem ok_X12_seed_1 : ok_S 217 1 (sf_gr 13 13 0 4) := ok_gr fd_13_0 (by decide +kernel : decode (mb_ 217) 1 = .ok (.getfield 7, 3)) tw_1126 (Or.inl rfl) rfl
theorem ok_X12_seed_4 : ok_S 217 4 (sf_push (0, 2) 5) := ok_iconst (by decide +kernel : decode (mb_ 217) 4 = .ok (.iconst 2, 1)) ⟨by decide, by decide⟩
theorem ok_X12_seed_5 : ok_S 217 5 (sf_iald 6) := ok_iald (by decide +kernel : decode (mb_ 217) 5 = .ok (.iaload, 1))
theorem ok_X12_seed_6 : ok_S 217 6 (sf_st 0 2 7) := ok_istore_n (by decide +kernel : decode (mb_ 217) 6 = .ok (.istore_n 2, 1)) rfl
theorem ok_X12_seed_7 : ok_S 217 7 (sf_ld 2 0 8) := ok_aload_n (by decide +kernel : decode (mb_ 217) 7 = .ok (.aload_n 0, 1)) rfl
theorem ok_X12_seed_8 : ok_S 217 8 (sf_gr 13 13 0 11) := ok_gr fd_13_0 (by decide +kernel : decode (mb_ 217) 8 = .ok (.getfield 7, 3)) tw_1126 (Or.inl rfl) rfl
theorem ok_X12_seed_11 : ok_S 217 11 (sf_push (0, 2) 12) := ok_iconst (by decide +kernel : decode (mb_ 217) 11 = .ok (.iconst 2, 1)) ⟨by decide, by decide⟩
theorem ok_X12_seed_12 : ok_S 217 12 (sf_ld 0 1 13) := ok_iload_n (by decide +kernel : decode (mb_ 217) 12 = .ok (.iload_n 1, 1)) rfl
theorem ok_X12_seed_13 : ok_S 217 13 (sf_iast 14) := ok_iast (by decide +kernel : decode (mb_ 217) 13 = .ok (.iastore, 1))
theorem ok_X12_seed_14 : ok_S 217 14 (sf_ld 0 2 15) := ok_iload_n (by decide +kernel : decode (mb_ 217) 14 = .ok (.iload_n 2, 1)) rfl
theorem ok_X12_seed_15 : ok_S 217 15 (sf_ret 0) := ok_ret0 (by decide +kernel : decode (mb_ 217) 15 = .ok (.ireturn, 1)) rfl
theorem ok_X12_seed (pc : Nat) : ok_S 217 pc (cd_X12_seed pc) :=
  (ok_bf (ok_bf (ok_bf (ok_bf (ok_lf pc ok_X12_seed_15) (ok_lf pc ok_X12_seed_14)) (ok_lf pc ok_X12_seed_13)) (ok_bf (ok_bf (ok_lf pc ok_X12_seed_12) (ok_lf pc ok_X12_seed_11)) (ok_lf pc ok_X12_seed_8))) (ok_bf (ok_bf (ok_bf (ok_lf pc ok_X12_seed_7) (ok_lf pc ok_X12_seed_6)) (ok_lf pc ok_X12_seed_5)) (ok_bf (ok_bf (ok_lf pc ok_X12_seed_4) (ok_lf pc ok_X12_seed_1)) (ok_lf pc ok_X12_seed_0))))
theorem mo_X12_seed (pc : Nat) : mo_S (cd_X12_seed pc) :=
  (mo_bf (mo_bf (mo_bf (mo_bf (mo_bf mo_ret mo_no) (mo_bf mo_ld mo_no)) (mo_bf mo_iast mo_no)) (mo_bf (mo_bf (mo_bf mo_ld mo_no) (mo_bf mo_push mo_no)) (mo_bf mo_gr mo_no))) (mo_bf (mo_bf (mo_bf (mo_bf mo_ld mo_no) (mo_bf mo_st mo_no)) (mo_bf mo_iald mo_no)) (mo_bf (mo_bf (mo_bf mo_push mo_no) (mo_bf mo_gr mo_no)) (mo_bf mo_ld mo_no))))
theorem ok_X12_guess_0 : ok_S 218 0 (sf_ld 2 0 1) := ok_aload_n (by decide +kernel : decode (mb_ 218) 0 = .ok (.aload_n 0, 1)) rfl
theorem ok_X12_guess_1 : ok_S 218 1 (sf_push (0, 63) 3) := ok_bipush (by decide +kernel : decode (mb_ 218) 1 = .ok (.bipush 63, 2)) ⟨by decide, by decide⟩ (by decide +kernel)
theorem ok_X12_guess_3 : ok_S 218 3 (sf_push (0, 9999) 6) := ok_sipush (by decide +kernel : decode (mb_ 218) 3 = .ok (.sipush 9999, 3)) ⟨by decide, by decide⟩ (by decide +kernel)
theorem ok_X12_guess_6 : ok_S 218 6 (sf_cv 13 [2, 0, 0] 195 9) := ok_cv mt_195 cl_13 (by decide +kernel : decode (mb_ 218) 6 = .ok (.invokevirtual 204, 3)) tw_1358 tw_1360 ts_48 tw_7 rfl (by decide +kernel) (mh_ok rfl) (by decide) (by decide)
theorem ok_X12_guess_9 : ok_S 218 9 (sf_st 0 1 10) := ok_istore_n (by decide +kernel : decode (mb_ 218) 9 = .ok (.istore_n 1, 1)) rfl
theorem ok_X12_guess_10 : ok_S 218 10 (sf_ld 0 1 11) := ok_iload_n (by decide +kernel : decode (mb_ 218) 10 = .ok (.iload_n 1, 1)) rfl
theorem ok_X12_guess_11 : ok_S 218 11 (sf_if 1 17 14) := ok_if1 (by decide +kernel : decode (mb_ 218) 11 = .ok (.ifCond .ne 6, 3)) (by decide)
theorem ok_X12_guess_14 : ok_S 218 14 (sf_push (0, (-3)) 16) := ok_bipush (by decide +kernel : decode (mb_ 218) 14 = .ok (.bipush (-3), 2)) ⟨by decide, by decide⟩ (by decide +kernel)
theorem ok_X12_guess_16 : ok_S 218 16 (sf_ret 0) := ok_ret0 (by decide +kernel : decode (mb_ 218) 16 = .ok (.ireturn, 1)) rfl
theorem ok_X12_guess_17 : ok_S 218 17 (sf_ld 2 0 18) := ok_aload_n (by decide +kernel : decode (mb_ 218) 17 = .ok (.aload_n 0, 1)) rfl
theorem ok_X12_guess_18 : ok_S 218 18 (sf_gr 13 13 0 21) := ok_gr fd_13_0 (by decide +kernel : decode (mb_ 218) 18 = .ok (.getfield 7, 3)) tw_1126 (Or.inl rfl) rfl
theorem ok_X12_guess_21 : ok_S 218 21 (sf_push (0, 2) 22) := ok_iconst (by decide +kernel : decode (mb_ 218) 21 = .ok (.iconst 2, 1)) ⟨by decide, by decide⟩
theorem ok_X12_guess_22 : ok_S 218 22 (sf_ld 2 0 23) := ok_aload_n (by decide +kernel : decode (mb_ 218) 22 = .ok (.aload_n 0, 1)) rfl
theorem ok_X12_guess_23 : ok_S 218 23 (sf_gr 13 13 0 26) := ok_gr fd_13_0 (by decide +kernel : decode (mb_ 218) 23 = .ok (.getfield 7, 3)) tw_1126 (Or.inl rfl) rfl
theorem ok_X12_guess_26 : ok_S 218 26 (sf_push (0, 2) 27) := ok_iconst (by decide +kernel : decode (mb_ 218) 26 = .ok (.iconst 2, 1)) ⟨by decide, by decide⟩
theorem ok_X12_guess_27 : ok_S 218 27 (sf_iald 28) := ok_iald (by decide +kernel : decode (mb_ 218) 27 = .ok (.iaload, 1))
theorem ok_X12_guess_28 : ok_S 218 28 (sf_push (0, 1103515245) 30) := ok_ldc (by decide +kernel : decode (mb_ 218) 28 = .ok (.ldc 241, 2)) ⟨by decide, by decide⟩ tw_1465
theorem ok_X12_guess_30 : ok_S 218 30 (sf_i2 mx_mul 31) := ok_imul (by decide +kernel : decode (mb_ 218) 30 = .ok (.imul, 1))
theorem ok_X12_guess_31 : ok_S 218 31 (sf_push (0, 12345) 34) := ok_sipush (by decide +kernel : decode (mb_ 218) 31 = .ok (.sipush 12345, 3)) ⟨by decide, by decide⟩ (by decide +kernel)
theorem ok_X12_guess_34 : ok_S 218 34 (sf_i2 mx_add 35) := ok_iadd (by decide +kernel : decode (mb_ 218) 34 = .ok (.iadd, 1))
theorem ok_X12_guess_35 : ok_S 218 35 (sf_iast 36) := ok_iast (by decide +kernel : decode (mb_ 218) 35 = .ok (.iastore, 1))
theorem ok_X12_guess_36 : ok_S 218 36 (sf_ld 2 0 37) := ok_aload_n (by decide +kernel : decode (mb_ 218) 36 = .ok (.aload_n 0, 1)) rfl
theorem ok_X12_guess_37 : ok_S 218 37 (sf_gr 13 13 0 40) := ok_gr fd_13_0 (by decide +kernel : decode (mb_ 218) 37 = .ok (.getfield 7, 3)) tw_1126 (Or.inl rfl) rfl
theorem ok_X12_guess_40 : ok_S 218 40 (sf_push (0, 2) 41) := ok_iconst (by decide +kernel : decode (mb_ 218) 40 = .ok (.iconst 2, 1)) ⟨by decide, by decide⟩
theorem ok_X12_guess_41 : ok_S 218 41 (sf_iald 42) := ok_iald (by decide +kernel : decode (mb_ 218) 41 = .ok (.iaload, 1))
theorem ok_X12_guess_42 : ok_S 218 42 (sf_push (0, 16) 44) := ok_bipush (by decide +kernel : decode (mb_ 218) 42 = .ok (.bipush 16, 2)) ⟨by decide, by decide⟩ (by decide +kernel)
theorem ok_X12_guess_44 : ok_S 218 44 (sf_i2 mx_ush 45) := ok_iushr (by decide +kernel : decode (mb_ 218) 44 = .ok (.iushr, 1))
theorem ok_X12_guess_45 : ok_S 218 45 (sf_ld 0 1 46) := ok_iload_n (by decide +kernel : decode (mb_ 218) 45 = .ok (.iload_n 1, 1)) rfl
theorem ok_X12_guess_46 : ok_S 218 46 (sf_i2d mx_rem 47) := ok_irem (by decide +kernel : decode (mb_ 218) 46 = .ok (.irem, 1))
theorem ok_X12_guess_47 : ok_S 218 47 (sf_ret 0) := ok_ret0 (by decide +kernel : decode (mb_ 218) 47 = .ok (.ireturn, 1)) rfl
theorem ok_X12_guess (pc : Nat) : ok_S 218 pc (cd_X12_guess pc) :=
  (ok_bf (ok_bf (ok_bf (ok_bf (ok_bf (ok_lf pc ok_X12_guess_47) (ok_lf pc ok_X12_guess_46)) (ok_bf (ok_lf pc ok_X12_guess_45) (ok_lf pc ok_X12_guess_44))) (ok_bf (ok_bf (ok_lf pc ok_X12_guess_42) (ok_lf pc ok_X12_guess_41)) (ok_bf (ok_lf pc ok_X12_guess_40) (ok_lf pc ok_X12_guess_37)))) (ok_bf (ok_bf (ok_bf (ok_lf pc ok_X12_guess_36) (ok_lf pc ok_X12_guess_35)) (ok_bf (ok_lf pc ok_X12_guess_34) (ok_lf pc ok_X12_guess_31))) (ok_bf (ok_bf (ok_lf pc ok_X12_guess_30) (ok_lf pc ok_X12_guess_28)) (ok_lf pc ok_X12_guess_27)))) (ok_bf (ok_bf (ok_bf (ok_bf (ok_lf pc ok_X12_guess_26) (ok_lf pc ok_X12_guess_23)) (ok_bf (ok_lf pc ok_X12_guess_22) (ok_lf pc ok_X12_guess_21))) (ok_bf (ok_bf (ok_lf pc ok_X12_guess_18) (ok_lf pc ok_X12_guess_17)) (ok_bf (ok_lf pc ok_X12_guess_16) (ok_lf pc ok_X12_guess_14)))) (ok_bf (ok_bf (ok_bf (ok_lf pc ok_X12_guess_11) (ok_lf pc ok_X12_guess_10)) (ok_bf (ok_lf pc ok_X12_guess_9) (ok_lf pc ok_X12_guess_6))) (ok_bf (ok_bf (ok_lf pc ok_X12_guess_3) (ok_lf pc ok_X12_guess_1)) (ok_lf pc ok_X12_guess_0)))))
theorem mo_X12_guess (pc : Nat) : mo_S (cd_X12_guess pc) :=
  (mo_bf (mo_bf (mo_bf (mo_bf (mo_bf (mo_bf mo_ret mo_no) (mo_bf mo_i2d mo_no)) (mo_bf (mo_bf mo_ld mo_no) (mo_bf mo_i2 mo_no))) (mo_bf (mo_bf (mo_bf mo_push mo_no) (mo_bf mo_iald mo_no)) (mo_bf (mo_bf mo_push mo_no) (mo_bf mo_gr mo_no)))) (mo_bf (mo_bf (mo_bf (mo_bf mo_ld mo_no) (mo_bf mo_iast mo_no)) (mo_bf (mo_bf mo_i2 mo_no) (mo_bf mo_push mo_no))) (mo_bf (mo_bf (mo_bf mo_i2 mo_no) (mo_bf mo_push mo_no)) (mo_bf mo_iald mo_no)))) (mo_bf (mo_bf (mo_bf (mo_bf (mo_bf mo_push mo_no) (mo_bf mo_gr mo_no)) (mo_bf (mo_bf mo_ld mo_no) (mo_bf mo_push mo_no))) (mo_bf (mo_bf (mo_bf mo_gr mo_no) (mo_bf mo_ld mo_no)) (mo_bf (mo_bf mo_ret mo_no) (mo_bf mo_push mo_no)))) (mo_bf (mo_bf (mo_bf (mo_bf mo_if mo_no) (mo_bf mo_ld mo_no)) (mo_bf (mo_bf mo_st mo_no) (mo_bf mo_cv mo_no))) (mo_bf (mo_bf (mo_bf mo_push mo_no) (mo_bf mo_push mo_no)) (mo_bf mo_ld mo_no)))))
theorem ok_X12_prove_0 : ok_S 219 0 (sf_ld 2 0 1) := ok_aload_n (by decide +kernel : decode (mb_ 219) 0 = .ok (.aload_n 0, 1)) rfl
theorem ok_X12_prove_1 : ok_S 219 1 (sf_ld 0 1 2) := ok_iload_n (by decide +kernel : decode (mb_ 219) 1 = .ok (.iload_n 1, 1)) rfl
theorem ok_X12_prove_2 : ok_S 219 2 (sf_cv 13 [2, 0] 198 5) := ok_cv mt_198 cl_13 (by decide +kernel : decode (mb_ 219) 2 = .ok (.invokevirtual 207, 3)) tw_1382 tw_1384 ts_53 tw_7 rfl (by decide +kernel) (mh_ok rfl) (by decide) (by decide)
theorem ok_X12_prove_5 : ok_S 219 5 (sf_if 1 11 8) := ok_if1 (by decide +kernel : decode (mb_ 219) 5 = .ok (.ifCond .ne 6, 3)) (by decide)
theorem ok_X12_prove_8 : ok_S 219 8 (sf_push (0, (-3)) 10) := ok_bipush (by decide +kernel : decode (mb_ 219) 8 = .ok (.bipush (-3), 2)) ⟨by decide, by decide⟩ (by decide +kernel)
theorem ok_X12_prove_10 : ok_S 219 10 (sf_ret 0) := ok_ret0 (by decide +kernel : decode (mb_ 219) 10 = .ok (.ireturn, 1)) rfl
theorem ok_X12_prove_11 : ok_S 219 11 (sf_ld 2 0 12) := ok_aload_n (by decide +kernel : decode (mb_ 219) 11 = .ok (.aload_n 0, 1)) rfl
theorem ok_X12_prove_12 : ok_S 219 12 (sf_ld 2 0 13) := ok_aload_n (by decide +kernel : decode (mb_ 219) 12 = .ok (.aload_n 0, 1)) rfl
theorem ok_X12_prove_13 : ok_S 219 13 (sf_gr 13 13 0 16) := ok_gr fd_13_0 (by decide +kernel : decode (mb_ 219) 13 = .ok (.getfield 7, 3)) tw_1126 (Or.inl rfl) rfl
theorem ok_X12_prove_16 : ok_S 219 16 (sf_push (0, 0) 17) := ok_iconst (by decide +kernel : decode (mb_ 219) 16 = .ok (.iconst 0, 1)) ⟨by decide, by decide⟩
theorem ok_X12_prove_17 : ok_S 219 17 (sf_iald 18) := ok_iald (by decide +kernel : decode (mb_ 219) 17 = .ok (.iaload, 1))
theorem ok_X12_prove_18 : ok_S 219 18 (sf_pi 13 13 15 21) := ok_pi fd_13_15 (by decide +kernel : decode (mb_ 219) 18 = .ok (.putfield 153, 3)) tw_1141 rfl (Or.inl ff_13_15) rfl
theorem ok_X12_prove_21 : ok_S 219 21 (sf_push (0, 0) 22) := ok_iconst (by decide +kernel : decode (mb_ 219) 21 = .ok (.iconst 0, 1)) ⟨by decide, by decide⟩
theorem ok_X12_prove_22 : ok_S 219 22 (sf_st 0 2 23) := ok_istore_n (by decide +kernel : decode (mb_ 219) 22 = .ok (.istore_n 2, 1)) rfl
theorem ok_X12_prove_23 : ok_S 219 23 (sf_ld 0 2 24) := ok_iload_n (by decide +kernel : decode (mb_ 219) 23 = .ok (.iload_n 2, 1)) rfl
theorem ok_X12_prove_24 : ok_S 219 24 (sf_ld 2 0 25) := ok_aload_n (by decide +kernel : decode (mb_ 219) 24 = .ok (.aload_n 0, 1)) rfl
theorem ok_X12_prove_25 : ok_S 219 25 (sf_gi 13 13 15 28) := ok_gi fd_13_15 (by decide +kernel : decode (mb_ 219) 25 = .ok (.getfield 153, 3)) tw_1141 (Or.inl rfl) rfl
theorem ok_X12_prove_28 : ok_S 219 28 (sf_ic 3 84 31) := ok_ic3 (by decide +kernel : decode (mb_ 219) 28 = .ok (.if_icmp .ge 56, 3)) (by decide)
theorem ok_X12_prove_31 : ok_S 219 31 (sf_ld 2 0 32) := ok_aload_n (by decide +kernel : decode (mb_ 219) 31 = .ok (.aload_n 0, 1)) rfl
theorem ok_X12_prove_32 : ok_S 219 32 (sf_gr 13 13 14 35) := ok_gr fd_13_14 (by decide +kernel : decode (mb_ 219) 32 = .ok (.getfield 31, 3)) tw_1140 (Or.inl rfl) rfl
theorem ok_X12_prove_35 : ok_S 219 35 (sf_push (0, 3) 36) := ok_iconst (by decide +kernel : decode (mb_ 219) 35 = .ok (.iconst 3, 1)) ⟨by decide, by decide⟩
theorem ok_X12_prove_36 : ok_S 219 36 (sf_ld 0 2 37) := ok_iload_n (by decide +kernel : decode (mb_ 219) 36 = .ok (.iload_n 2, 1)) rfl
theorem ok_X12_prove_37 : ok_S 219 37 (sf_i2 mx_mul 38) := ok_imul (by decide +kernel : decode (mb_ 219) 37 = .ok (.imul, 1))
theorem ok_X12_prove_38 : ok_S 219 38 (sf_ld 0 2 39) := ok_iload_n (by decide +kernel : decode (mb_ 219) 38 = .ok (.iload_n 2, 1)) rfl
theorem ok_X12_prove_39 : ok_S 219 39 (sf_i2l 40) := ok_i2l (by decide +kernel : decode (mb_ 219) 39 = .ok (.i2l, 1))
theorem ok_X12_prove_40 : ok_S 219 40 (sf_last 41) := ok_last (by decide +kernel : decode (mb_ 219) 40 = .ok (.lastore, 1))
theorem ok_X12_prove_41 : ok_S 219 41 (sf_ld 2 0 42) := ok_aload_n (by decide +kernel : decode (mb_ 219) 41 = .ok (.aload_n 0, 1)) rfl
theorem ok_X12_prove_42 : ok_S 219 42 (sf_gr 13 13 14 45) := ok_gr fd_13_14 (by decide +kernel : decode (mb_ 219) 42 = .ok (.getfield 31, 3)) tw_1140 (Or.inl rfl) rfl
theorem ok_X12_prove_45 : ok_S 219 45 (sf_push (0, 3) 46) := ok_iconst (by decide +kernel : decode (mb_ 219) 45 = .ok (.iconst 3, 1)) ⟨by decide, by decide⟩
theorem ok_X12_prove_46 : ok_S 219 46 (sf_ld 0 2 47) := ok_iload_n (by decide +kernel : decode (mb_ 219) 46 = .ok (.iload_n 2, 1)) rfl
theorem ok_X12_prove_47 : ok_S 219 47 (sf_i2 mx_mul 48) := ok_imul (by decide +kernel : decode (mb_ 219) 47 = .ok (.imul, 1))
theorem ok_X12_prove_48 : ok_S 219 48 (sf_push (0, 1) 49) := ok_iconst (by decide +kernel : decode (mb_ 219) 48 = .ok (.iconst 1, 1)) ⟨by decide, by decide⟩
theorem ok_X12_prove_49 : ok_S 219 49 (sf_i2 mx_add 50) := ok_iadd (by decide +kernel : decode (mb_ 219) 49 = .ok (.iadd, 1))
theorem ok_X12_prove_50 : ok_S 219 50 (sf_ld 2 0 51) := ok_aload_n (by decide +kernel : decode (mb_ 219) 50 = .ok (.aload_n 0, 1)) rfl
theorem ok_X12_prove_51 : ok_S 219 51 (sf_gr 13 13 11 54) := ok_gr fd_13_11 (by decide +kernel : decode (mb_ 219) 51 = .ok (.getfield 22, 3)) tw_1137 (Or.inl rfl) rfl
theorem ok_X12_prove_54 : ok_S 219 54 (sf_ld 2 0 55) := ok_aload_n (by decide +kernel : decode (mb_ 219) 54 = .ok (.aload_n 0, 1)) rfl
theorem ok_X12_prove_55 : ok_S 219 55 (sf_ld 0 2 56) := ok_iload_n (by decide +kernel : decode (mb_ 219) 55 = .ok (.iload_n 2, 1)) rfl
theorem ok_X12_prove_56 : ok_S 219 56 (sf_push (0, 1) 57) := ok_iconst (by decide +kernel : decode (mb_ 219) 56 = .ok (.iconst 1, 1)) ⟨by decide, by decide⟩
theorem ok_X12_prove_57 : ok_S 219 57 (sf_cv 13 [2, 0, 0] 161 60) := ok_cv mt_161 cl_13 (by decide +kernel : decode (mb_ 219) 57 = .ok (.invokevirtual 162, 3)) tw_1285 tw_1287 ts_40 tw_7 rfl (by decide +kernel) (mh_ok rfl) (by decide) (by decide)
theorem ok_X12_prove_60 : ok_S 219 60 (sf_iald 61) := ok_iald (by decide +kernel : decode (mb_ 219) 60 = .ok (.iaload, 1))
theorem ok_X12_prove_61 : ok_S 219 61 (sf_i2l 62) := ok_i2l (by decide +kernel : decode (mb_ 219) 61 = .ok (.i2l, 1))
theorem ok_X12_prove_62 : ok_S 219 62 (sf_last 63) := ok_last (by decide +kernel : decode (mb_ 219) 62 = .ok (.lastore, 1))
theorem ok_X12_prove_63 : ok_S 219 63 (sf_ld 2 0 64) := ok_aload_n (by decide +kernel : decode (mb_ 219) 63 = .ok (.aload_n 0, 1)) rfl
theorem ok_X12_prove_64 : ok_S 219 64 (sf_gr 13 13 14 67) := ok_gr fd_13_14 (by decide +kernel : decode (mb_ 219) 64 = .ok (.getfield 31, 3)) tw_1140 (Or.inl rfl) rfl
theorem ok_X12_prove_67 : ok_S 219 67 (sf_push (0, 3) 68) := ok_iconst (by decide +kernel : decode (mb_ 219) 67 = .ok (.iconst 3, 1)) ⟨by decide, by decide⟩
theorem ok_X12_prove_68 : ok_S 219 68 (sf_ld 0 2 69) := ok_iload_n (by decide +kernel : decode (mb_ 219) 68 = .ok (.iload_n 2, 1)) rfl
theorem ok_X12_prove_69 : ok_S 219 69 (sf_i2 mx_mul 70) := ok_imul (by decide +kernel : decode (mb_ 219) 69 = .ok (.imul, 1))
theorem ok_X12_prove_70 : ok_S 219 70 (sf_push (0, 2) 71) := ok_iconst (by decide +kernel : decode (mb_ 219) 70 = .ok (.iconst 2, 1)) ⟨by decide, by decide⟩
theorem ok_X12_prove_71 : ok_S 219 71 (sf_i2 mx_add 72) := ok_iadd (by decide +kernel : decode (mb_ 219) 71 = .ok (.iadd, 1))
theorem ok_X12_prove_72 : ok_S 219 72 (sf_ld 2 0 73) := ok_aload_n (by decide +kernel : decode (mb_ 219) 72 = .ok (.aload_n 0, 1)) rfl
theorem ok_X12_prove_73 : ok_S 219 73 (sf_ld 0 2 74) := ok_iload_n (by decide +kernel : decode (mb_ 219) 73 = .ok (.iload_n 2, 1)) rfl
theorem ok_X12_prove_74 : ok_S 219 74 (sf_cv 13 [2, 0] 191 77) := ok_cv mt_191 cl_13 (by decide +kernel : decode (mb_ 219) 74 = .ok (.invokevirtual 191, 3)) tw_1374 tw_1376 ts_52 tw_7 rfl (by decide +kernel) (mh_ok rfl) (by decide) (by decide)
theorem ok_X12_prove_77 : ok_S 219 77 (sf_last 78) := ok_last (by decide +kernel : decode (mb_ 219) 77 = .ok (.lastore, 1))
theorem ok_X12_prove_78 : ok_S 219 78 (sf_inc 2 1 81) := ok_iinc (by decide +kernel : decode (mb_ 219) 78 = .ok (.iinc 2 1, 3))
theorem ok_X12_prove_81 : ok_S 219 81 (sf_go 23) := ok_goto (by decide +kernel : decode (mb_ 219) 81 = .ok (.goto (-58), 3)) (by decide)
theorem ok_X12_prove_84 : ok_S 219 84 (sf_ld 2 0 85) := ok_aload_n (by decide +kernel : decode (mb_ 219) 84 = .ok (.aload_n 0, 1)) rfl
theorem ok_X12_prove_85 : ok_S 219 85 (sf_gi 13 13 15 88) := ok_gi fd_13_15 (by decide +kernel : decode (mb_ 219) 85 = .ok (.getfield 153, 3)) tw_1141 (Or.inl rfl) rfl
theorem ok_X12_prove_88 : ok_S 219 88 (sf_ret 0) := ok_ret0 (by decide +kernel : decode (mb_ 219) 88 = .ok (.ireturn, 1)) rfl
theorem ok_X12_prove (pc : Nat) : ok_S 219 pc (cd_X12_prove pc) :=
  (ok_bf (ok_bf (ok_bf (ok_bf (ok_bf (ok_bf (ok_lf pc ok_X12_prove_88) (ok_lf pc ok_X12_prove_85)) (ok_bf (ok_lf pc ok_X12_prove_84) (ok_lf pc ok_X12_prove_81))) (ok_bf (ok_bf (ok_lf pc ok_X12_prove_78) (ok_lf pc ok_X12_prove_77)) (ok_bf (ok_lf pc ok_X12_prove_74) (ok_lf pc ok_X12_prove_73)))) (ok_bf (ok_bf (ok_bf (ok_lf pc ok_X12_prove_72) (ok_lf pc ok_X12_prove_71)) (ok_bf (ok_lf pc ok_X12_prove_70) (ok_lf pc ok_X12_prove_69))) (ok_bf (ok_bf (ok_lf pc ok_X12_prove_68) (ok_lf pc ok_X12_prove_67)) (ok_lf pc ok_X12_prove_64)))) (ok_bf (ok_bf (ok_bf (ok_bf (ok_lf pc ok_X12_prove_63) (ok_lf pc ok_X12_prove_62)) (ok_bf (ok_lf pc ok_X12_prove_61) (ok_lf pc ok_X12_prove_60))) (ok_bf (ok_bf (ok_lf pc ok_X12_prove_57) (ok_lf pc ok_X12_prove_56)) (ok_lf pc ok_X12_prove_55))) (ok_bf (ok_bf (ok_bf (ok_lf pc ok_X12_prove_54) (ok_lf pc ok_X12_prove_51)) (ok_bf (ok_lf pc ok_X12_prove_50) (ok_lf pc ok_X12_prove_49))) (ok_bf (ok_bf (ok_lf pc ok_X12_prove_48) (ok_lf pc ok_X12_prove_47)) (ok_lf pc ok_X12_prove_46))))) (ok_bf (ok_bf (ok_bf (ok_bf (ok_bf (ok_lf pc ok_X12_prove_45) (ok_lf pc ok_X12_prove_42)) (ok_bf (ok_lf pc ok_X12_prove_41) (ok_lf pc ok_X12_prove_40))) (ok_bf (ok_bf (ok_lf pc ok_X12_prove_39) (ok_lf pc ok_X12_prove_38)) (ok_bf (ok_lf pc ok_X12_prove_37) (ok_lf pc ok_X12_prove_36)))) (ok_bf (ok_bf (ok_bf (ok_lf pc ok_X12_prove_35) (ok_lf pc ok_X12_prove_32)) (ok_bf (ok_lf pc ok_X12_prove_31) (ok_lf pc ok_X12_prove_28))) (ok_bf (ok_bf (ok_lf pc ok_X12_prove_25) (ok_lf pc ok_X12_prove_24)) (ok_lf pc ok_X12_prove_23)))) (ok_bf (ok_bf (ok_bf (ok_bf (ok_lf pc ok_X12_prove_22) (ok_lf pc ok_X12_prove_21)) (ok_bf (ok_lf pc ok_X12_prove_18) (ok_lf pc ok_X12_prove_17))) (ok_bf (ok_bf (ok_lf pc ok_X12_prove_16) (ok_lf pc ok_X12_prove_13)) (ok_lf pc ok_X12_prove_12))) (ok_bf (ok_bf (ok_bf (ok_lf pc ok_X12_prove_11) (ok_lf pc ok_X12_prove_10)) (ok_bf (ok_lf pc ok_X12_prove_8) (ok_lf pc ok_X12_prove_5))) (ok_bf (ok_bf (ok_lf pc ok_X12_prove_2) (ok_lf pc ok_X12_prove_1)) (ok_lf pc ok_X12_prove_0))))))
theorem mo_X12_prove (pc : Nat) : mo_S (cd_X12_prove pc) :=
  (mo_bf (mo_bf (mo_bf (mo_bf (mo_bf (mo_bf (mo_bf mo_ret mo_no) (mo_bf mo_gi mo_no)) (mo_bf (mo_bf mo_ld mo_no) (mo_bf mo_go mo_no))) (mo_bf (mo_bf (mo_bf mo_inc mo_no) (mo_bf mo_last mo_no)) (mo_bf (mo_bf mo_cv mo_no) (mo_bf mo_ld mo_no)))) (mo_bf (mo_bf (mo_bf (mo_bf mo_ld mo_no) (mo_bf mo_i2 mo_no)) (mo_bf (mo_bf mo_push mo_no) (mo_bf mo_i2 mo_no))) (mo_bf (mo_bf (mo_bf mo_ld mo_no) (mo_bf mo_push mo_no)) (mo_bf mo_gr mo_no)))) (mo_bf (mo_bf (mo_bf (mo_bf (mo_bf mo_ld mo_no) (mo_bf mo_last mo_no)) (mo_bf (mo_bf mo_i2l mo_no) (mo_bf mo_iald mo_no))) (mo_bf (mo_bf (mo_bf mo_cv mo_no) (mo_bf mo_push mo_no)) (mo_bf mo_ld mo_no))) (mo_bf (mo_bf (mo_bf (mo_bf mo_ld mo_no) (mo_bf mo_gr mo_no)) (mo_bf (mo_bf mo_ld mo_no) (mo_bf mo_i2 mo_no))) (mo_bf (mo_bf (mo_bf mo_push mo_no) (mo_bf mo_i2 mo_no)) (mo_bf mo_ld mo_no))))) (mo_bf (mo_bf (mo_bf (mo_bf (mo_bf (mo_bf mo_push mo_no) (mo_bf mo_gr mo_no)) (mo_bf (mo_bf mo_ld mo_no) (mo_bf mo_last mo_no))) (mo_bf (mo_bf (mo_bf mo_i2l mo_no) (mo_bf mo_ld mo_no)) (mo_bf (mo_bf mo_i2 mo_no) (mo_bf mo_ld mo_no)))) (mo_bf (mo_bf (mo_bf (mo_bf mo_push mo_no) (mo_bf mo_gr mo_no)) (mo_bf (mo_bf mo_ld mo_no) (mo_bf mo_ic mo_no))) (mo_bf (mo_bf (mo_bf mo_gi mo_no) (mo_bf mo_ld mo_no)) (mo_bf mo_ld mo_no)))) (mo_bf (mo_bf (mo_bf (mo_bf (mo_bf mo_st mo_no) (mo_bf mo_push mo_no)) (mo_bf (mo_bf mo_pi mo_no) (mo_bf mo_iald mo_no))) (mo_bf (mo_bf (mo_bf mo_push mo_no) (mo_bf mo_gr mo_no)) (mo_bf mo_ld mo_no))) (mo_bf (mo_bf (mo_bf (mo_bf mo_ld mo_no) (mo_bf mo_ret mo_no)) (mo_bf (mo_bf mo_push mo_no) (mo_bf mo_if mo_no))) (mo_bf (mo_bf (mo_bf mo_cv mo_no) (mo_bf mo_ld mo_no)) (mo_bf mo_ld mo_no))))))
theorem ok_X12_isRow_0 : ok_S 220 0 (sf_ld 0 1 1) := ok_iload_n (by decide +kernel : decode (mb_ 220) 0 = .ok (.iload_n 1, 1)) rfl
theorem ok_X12_isRow_1 : ok_S 220 1 (sf_push (0, 0) 2) := ok_iconst (by decide +kernel : decode (mb_ 220) 1 = .ok (.iconst 0, 1)) ⟨by decide, by decide⟩
theorem ok_X12_isRow_2 : ok_S 220 2 (sf_ld 2 0 3) := ok_aload_n (by decide +kernel : decode (mb_ 220) 2 = .ok (.aload_n 0, 1)) rfl
theorem ok_X12_isRow_3 : ok_S 220 3 (sf_gi 13 13 15 6) := ok_gi fd_13_15 (by decide +kernel : decode (mb_ 220) 3 = .ok (.getfield 153, 3)) tw_1141 (Or.inl rfl) rfl
theorem ok_X12_isRow_6 : ok_S 220 6 (sf_push (0, 1) 7) := ok_iconst (by decide +kernel : decode (mb_ 220) 6 = .ok (.iconst 1, 1)) ⟨by decide, by decide⟩
theorem ok_X12_isRow_7 : ok_S 220 7 (sf_i2 mx_sub 8) := ok_isub (by decide +kernel : decode (mb_ 220) 7 = .ok (.isub, 1))
theorem ok_X12_isRow_8 : ok_S 220 8 (sf_cs [0, 0, 0] 157 11) := ok_cs mt_157 (by decide +kernel : decode (mb_ 220) 8 = .ok (.invokestatic 56, 3)) tw_1206 tw_1207 tw_7 (by decide +kernel) (mh_ok rfl) (by decide) (by decide)
theorem ok_X12_isRow_11 : ok_S 220 11 (sf_if 0 27 14) := ok_if0 (by decide +kernel : decode (mb_ 220) 11 = .ok (.ifCond .eq 16, 3)) (by decide)
theorem ok_X12_isRow_14 : ok_S 220 14 (sf_ld 0 2 15) := ok_iload_n (by decide +kernel : decode (mb_ 220) 14 = .ok (.iload_n 2, 1)) rfl
theorem ok_X12_isRow_15 : ok_S 220 15 (sf_push (0, 0) 16) := ok_iconst (by decide +kernel : decode (mb_ 220) 15 = .ok (.iconst 0, 1)) ⟨by decide, by decide⟩
theorem ok_X12_isRow_16 : ok_S 220 16 (sf_push (0, 2) 17) := ok_iconst (by decide +kernel : decode (mb_ 220) 16 = .ok (.iconst 2, 1)) ⟨by decide, by decide⟩
theorem ok_X12_isRow_17 : ok_S 220 17 (sf_cs [0, 0, 0] 157 20) := ok_cs mt_157 (by decide +kernel : decode (mb_ 220) 17 = .ok (.invokestatic 56, 3)) tw_1206 tw_1207 tw_7 (by decide +kernel) (mh_ok rfl) (by decide) (by decide)
theorem ok_X12_isRow_20 : ok_S 220 20 (sf_if 0 27 23) := ok_if0 (by decide +kernel : decode (mb_ 220) 20 = .ok (.ifCond .eq 7, 3)) (by decide)
theorem ok_X12_isRow_23 : ok_S 220 23 (sf_push (0, 1) 24) := ok_iconst (by decide +kernel : decode (mb_ 220) 23 = .ok (.iconst 1, 1)) ⟨by decide, by decide⟩
theorem ok_X12_isRow_24 : ok_S 220 24 (sf_go 28) := ok_goto (by decide +kernel : decode (mb_ 220) 24 = .ok (.goto 4, 3)) (by decide)
theorem ok_X12_isRow_27 : ok_S 220 27 (sf_push (0, 0) 28) := ok_iconst (by decide +kernel : decode (mb_ 220) 27 = .ok (.iconst 0, 1)) ⟨by decide, by decide⟩
theorem ok_X12_isRow_28 : ok_S 220 28 (sf_rr 0 1) := ok_rr (by decide +kernel : decode (mb_ 220) 28 = .ok (.ireturn, 1)) rfl (so_nz .boolean rfl rfl)
theorem ok_X12_isRow (pc : Nat) : ok_S 220 pc (cd_X12_isRow pc) :=
  (ok_bf (ok_bf (ok_bf (ok_bf (ok_bf (ok_lf pc ok_X12_isRow_28) (ok_lf pc ok_X12_isRow_27)) (ok_lf pc ok_X12_isRow_24)) (ok_bf (ok_lf pc ok_X12_isRow_23) (ok_lf pc ok_X12_isRow_20))) (ok_bf (ok_bf (ok_lf pc ok_X12_isRow_17) (ok_lf pc ok_X12_isRow_16)) (ok_bf (ok_lf pc ok_X12_isRow_15) (ok_lf pc ok_X12_isRow_14)))) (ok_bf (ok_bf (ok_bf (ok_lf pc ok_X12_isRow_11) (ok_lf pc ok_X12_isRow_8)) (ok_bf (ok_lf pc ok_X12_isRow_7) (ok_lf pc ok_X12_isRow_6))) (ok_bf (ok_bf (ok_lf pc ok_X12_isRow_3) (ok_lf pc ok_X12_isRow_2)) (ok_bf (ok_lf pc ok_X12_isRow_1) (ok_lf pc ok_X12_isRow_0)))))
theorem mo_X12_isRow (pc : Nat) : mo_S (cd_X12_isRow pc) :=
  (mo_bf (mo_bf (mo_bf (mo_bf (mo_bf (mo_bf mo_rr mo_no) (mo_bf mo_push mo_no)) (mo_bf mo_go mo_no)) (mo_bf (mo_bf mo_push mo_no) (mo_bf mo_if mo_no))) (mo_bf (mo_bf (mo_bf mo_cs mo_no) (mo_bf mo_push mo_no)) (mo_bf (mo_bf mo_push mo_no) (mo_bf mo_ld mo_no)))) (mo_bf (mo_bf (mo_bf (mo_bf mo_if mo_no) (mo_bf mo_cs mo_no)) (mo_bf (mo_bf mo_i2 mo_no) (mo_bf mo_push mo_no))) (mo_bf (mo_bf (mo_bf mo_gi mo_no) (mo_bf mo_ld mo_no)) (mo_bf (mo_bf mo_push mo_no) (mo_bf mo_ld mo_no)))))
theorem ok_X12_row_0 : ok_S 221 0 (sf_ld 2 0 1) := ok_aload_n (by decide +kernel : decode (mb_ 221) 0 = .ok (.aload_n 0, 1)) rfl
theorem ok_X12_row_1 : ok_S 221 1 (sf_ld 0 1 2) := ok_iload_n (by decide +kernel : decode (mb_ 221) 1 = .ok (.iload_n 1, 1)) rfl
theorem ok_X12_row_2 : ok_S 221 2 (sf_ld 0 2 3) := ok_iload_n (by decide +kernel : decode (mb_ 221) 2 = .ok (.iload_n 2, 1)) rfl
theorem ok_X12_row_3 : ok_S 221 3 (sf_cv 13 [2, 0, 0] 220 6) := ok_cv mt_220 cl_13 (by decide +kernel : decode (mb_ 221) 3 = .ok (.invokevirtual 242, 3)) tw_1474 tw_1476 ts_56 tw_7 rfl (by decide +kernel) (mh_ok rfl) (by decide) (by decide)
theorem ok_X12_row_6 : ok_S 221 6 (sf_if 0 22 9) := ok_if0 (by decide +kernel : decode (mb_ 221) 6 = .ok (.ifCond .eq 16, 3)) (by decide)
theorem ok_X12_row_9 : ok_S 221 9 (sf_ld 2 0 10) := ok_aload_n (by decide +kernel : decode (mb_ 221) 9 = .ok (.aload_n 0, 1)) rfl
theorem ok_X12_row_10 : ok_S 221 10 (sf_gr 13 13 14 13) := ok_gr fd_13_14 (by decide +kernel : decode (mb_ 221) 10 = .ok (.getfield 31, 3)) tw_1140 (Or.inl rfl) rfl
theorem ok_X12_row_13 : ok_S 221 13 (sf_push (0, 3) 14) := ok_iconst (by decide +kernel : decode (mb_ 221) 13 = .ok (.iconst 3, 1)) ⟨by decide, by decide⟩
theorem ok_X12_row_14 : ok_S 221 14 (sf_ld 0 1 15) := ok_iload_n (by decide +kernel : decode (mb_ 221) 14 = .ok (.iload_n 1, 1)) rfl
theorem ok_X12_row_15 : ok_S 221 15 (sf_i2 mx_mul 16) := ok_imul (by decide +kernel : decode (mb_ 221) 15 = .ok (.imul, 1))
theorem ok_X12_row_16 : ok_S 221 16 (sf_ld 0 2 17) := ok_iload_n (by decide +kernel : decode (mb_ 221) 16 = .ok (.iload_n 2, 1)) rfl
theorem ok_X12_row_17 : ok_S 221 17 (sf_i2 mx_add 18) := ok_iadd (by decide +kernel : decode (mb_ 221) 17 = .ok (.iadd, 1))
theorem ok_X12_row_18 : ok_S 221 18 (sf_lald 19) := ok_lald (by decide +kernel : decode (mb_ 221) 18 = .ok (.laload, 1))
theorem ok_X12_row_19 : ok_S 221 19 (sf_go 25) := ok_goto (by decide +kernel : decode (mb_ 221) 19 = .ok (.goto 6, 3)) (by decide)
theorem ok_X12_row_22 : ok_S 221 22 (sf_push (1, (-1000000000000)) 25) := ok_ldc2 (by decide +kernel : decode (mb_ 221) 22 = .ok (.ldc2_w 180, 3)) ⟨by decide, by decide⟩ tw_1325
theorem ok_X12_row_25 : ok_S 221 25 (sf_ret 1) := ok_ret1 (by decide +kernel : decode (mb_ 221) 25 = .ok (.lreturn, 1)) rfl
theorem ok_X12_row (pc : Nat) : ok_S 221 pc (cd_X12_row pc) :=
  (ok_bf (ok_bf (ok_bf (ok_bf (ok_lf pc ok_X12_row_25) (ok_lf pc ok_X12_row_22)) (ok_bf (ok_lf pc ok_X12_row_19) (ok_lf pc ok_X12_row_18))) (ok_bf (ok_bf (ok_lf pc ok_X12_row_17) (ok_lf pc ok_X12_row_16)) (ok_bf (ok_lf pc ok_X12_row_15) (ok_lf pc ok_X12_row_14)))) (ok_bf (ok_bf (ok_bf (ok_lf pc ok_X12_row_13) (ok_lf pc ok_X12_row_10)) (ok_bf (ok_lf pc ok_X12_row_9) (ok_lf pc ok_X12_row_6))) (ok_bf (ok_bf (ok_lf pc ok_X12_row_3) (ok_lf pc ok_X12_row_2)) (ok_bf (ok_lf pc ok_X12_row_1) (ok_lf pc ok_X12_row_0)))))
theorem mo_X12_row (pc : Nat) : mo_S (cd_X12_row pc) :=
  (mo_bf (mo_bf (mo_bf (mo_bf (mo_bf mo_ret mo_no) (mo_bf mo_push mo_no)) (mo_bf (mo_bf mo_go mo_no) (mo_bf mo_lald mo_no))) (mo_bf (mo_bf (mo_bf mo_i2 mo_no) (mo_bf mo_ld mo_no)) (mo_bf (mo_bf mo_i2 mo_no) (mo_bf mo_ld mo_no)))) (mo_bf (mo_bf (mo_bf (mo_bf mo_push mo_no) (mo_bf mo_gr mo_no)) (mo_bf (mo_bf mo_ld mo_no) (mo_bf mo_if mo_no))) (mo_bf (mo_bf (mo_bf mo_cv mo_no) (mo_bf mo_ld mo_no)) (mo_bf (mo_bf mo_ld mo_no) (mo_bf mo_ld mo_no)))))
theorem ok_X12_alterRow_0 : ok_S 222 0 (sf_ld 2 0 1) := ok_aload_n (by decide +kernel : decode (mb_ 222) 0 = .ok (.aload_n 0, 1)) rfl
theorem ok_X12_alterRow_1 : ok_S 222 1 (sf_ld 0 1 2) := ok_iload_n (by decide +kernel : decode (mb_ 222) 1 = .ok (.iload_n 1, 1)) rfl
theorem ok_X12_alterRow_2 : ok_S 222 2 (sf_ld 0 2 3) := ok_iload_n (by decide +kernel : decode (mb_ 222) 2 = .ok (.iload_n 2, 1)) rfl
theorem ok_X12_alterRow_3 : ok_S 222 3 (sf_cv 13 [2, 0, 0] 220 6) := ok_cv mt_220 cl_13 (by decide +kernel : decode (mb_ 222) 3 = .ok (.invokevirtual 242, 3)) tw_1474 tw_1476 ts_56 tw_7 rfl (by decide +kernel) (mh_ok rfl) (by decide) (by decide)
theorem ok_X12_alterRow_6 : ok_S 222 6 (sf_if 1 13 9) := ok_if1 (by decide +kernel : decode (mb_ 222) 6 = .ok (.ifCond .ne 7, 3)) (by decide)
theorem ok_X12_alterRow_9 : ok_S 222 9 (sf_push (1, (-1000000000000)) 12) := ok_ldc2 (by decide +kernel : decode (mb_ 222) 9 = .ok (.ldc2_w 180, 3)) ⟨by decide, by decide⟩ tw_1325
theorem ok_X12_alterRow_12 : ok_S 222 12 (sf_ret 1) := ok_ret1 (by decide +kernel : decode (mb_ 222) 12 = .ok (.lreturn, 1)) rfl
theorem ok_X12_alterRow_13 : ok_S 222 13 (sf_ld 2 0 14) := ok_aload_n (by decide +kernel : decode (mb_ 222) 13 = .ok (.aload_n 0, 1)) rfl
theorem ok_X12_alterRow_14 : ok_S 222 14 (sf_gr 13 13 14 17) := ok_gr fd_13_14 (by decide +kernel : decode (mb_ 222) 14 = .ok (.getfield 31, 3)) tw_1140 (Or.inl rfl) rfl
theorem ok_X12_alterRow_17 : ok_S 222 17 (sf_push (0, 3) 18) := ok_iconst (by decide +kernel : decode (mb_ 222) 17 = .ok (.iconst 3, 1)) ⟨by decide, by decide⟩
theorem ok_X12_alterRow_18 : ok_S 222 18 (sf_ld 0 1 19) := ok_iload_n (by decide +kernel : decode (mb_ 222) 18 = .ok (.iload_n 1, 1)) rfl
theorem ok_X12_alterRow_19 : ok_S 222 19 (sf_i2 mx_mul 20) := ok_imul (by decide +kernel : decode (mb_ 222) 19 = .ok (.imul, 1))
theorem ok_X12_alterRow_20 : ok_S 222 20 (sf_ld 0 2 21) := ok_iload_n (by decide +kernel : decode (mb_ 222) 20 = .ok (.iload_n 2, 1)) rfl
theorem ok_X12_alterRow_21 : ok_S 222 21 (sf_i2 mx_add 22) := ok_iadd (by decide +kernel : decode (mb_ 222) 21 = .ok (.iadd, 1))
theorem ok_X12_alterRow_22 : ok_S 222 22 (sf_lald 23) := ok_lald (by decide +kernel : decode (mb_ 222) 22 = .ok (.laload, 1))
theorem ok_X12_alterRow_23 : ok_S 222 23 (sf_st2 5 25) := ok_lstore (by decide +kernel : decode (mb_ 222) 23 = .ok (.lstore 5, 2))
theorem ok_X12_alterRow_25 : ok_S 222 25 (sf_ld 2 0 26) := ok_aload_n (by decide +kernel : decode (mb_ 222) 25 = .ok (.aload_n 0, 1)) rfl
theorem ok_X12_alterRow_26 : ok_S 222 26 (sf_gr 13 13 14 29) := ok_gr fd_13_14 (by decide +kernel : decode (mb_ 222) 26 = .ok (.getfield 31, 3)) tw_1140 (Or.inl rfl) rfl
theorem ok_X12_alterRow_29 : ok_S 222 29 (sf_push (0, 3) 30) := ok_iconst (by decide +kernel : decode (mb_ 222) 29 = .ok (.iconst 3, 1)) ⟨by decide, by decide⟩
theorem ok_X12_alterRow_30 : ok_S 222 30 (sf_ld 0 1 31) := ok_iload_n (by decide +kernel : decode (mb_ 222) 30 = .ok (.iload_n 1, 1)) rfl
theorem ok_X12_alterRow_31 : ok_S 222 31 (sf_i2 mx_mul 32) := ok_imul (by decide +kernel : decode (mb_ 222) 31 = .ok (.imul, 1))
theorem ok_X12_alterRow_32 : ok_S 222 32 (sf_ld 0 2 33) := ok_iload_n (by decide +kernel : decode (mb_ 222) 32 = .ok (.iload_n 2, 1)) rfl
theorem ok_X12_alterRow_33 : ok_S 222 33 (sf_i2 mx_add 34) := ok_iadd (by decide +kernel : decode (mb_ 222) 33 = .ok (.iadd, 1))
theorem ok_X12_alterRow_34 : ok_S 222 34 (sf_ld 1 3 35) := ok_lload_n (by decide +kernel : decode (mb_ 222) 34 = .ok (.lload_n 3, 1)) rfl
theorem ok_X12_alterRow_35 : ok_S 222 35 (sf_last 36) := ok_last (by decide +kernel : decode (mb_ 222) 35 = .ok (.lastore, 1))
theorem ok_X12_alterRow_36 : ok_S 222 36 (sf_ld 1 5 38) := ok_lload (by decide +kernel : decode (mb_ 222) 36 = .ok (.lload 5, 2))
theorem ok_X12_alterRow_38 : ok_S 222 38 (sf_ret 1) := ok_ret1 (by decide +kernel : decode (mb_ 222) 38 = .ok (.lreturn, 1)) rfl
theorem ok_X12_alterRow (pc : Nat) : ok_S 222 pc (cd_X12_alterRow pc) :=
  (ok_bf (ok_bf (ok_bf (ok_bf (ok_bf (ok_lf pc ok_X12_alterRow_38) (ok_lf pc ok_X12_alterRow_36)) (ok_bf (ok_lf pc ok_X12_alterRow_35) (ok_lf pc ok_X12_alterRow_34))) (ok_bf (ok_bf (ok_lf pc ok_X12_alterRow_33) (ok_lf pc ok_X12_alterRow_32)) (ok_lf pc ok_X12_alterRow_31))) (ok_bf (ok_bf (ok_bf (ok_lf pc ok_X12_alterRow_30) (ok_lf pc ok_X12_alterRow_29)) (ok_bf (ok_lf pc ok_X12_alterRow_26) (ok_lf pc ok_X12_alterRow_25))) (ok_bf (ok_bf (ok_lf pc ok_X12_alterRow_23) (ok_lf pc ok_X12_alterRow_22)) (ok_lf pc ok_X12_alterRow_21)))) (ok_bf (ok_bf (ok_bf (ok_bf (ok_lf pc ok_X12_alterRow_20) (ok_lf pc ok_X12_alterRow_19)) (ok_bf (ok_lf pc ok_X12_alterRow_18) (ok_lf pc ok_X12_alterRow_17))) (ok_bf (ok_bf (ok_lf pc ok_X12_alterRow_14) (ok_lf pc ok_X12_alterRow_13)) (ok_lf pc ok_X12_alterRow_12))) (ok_bf (ok_bf (ok_bf (ok_lf pc ok_X12_alterRow_9) (ok_lf pc ok_X12_alterRow_6)) (ok_lf pc ok_X12_alterRow_3)) (ok_bf (ok_bf (ok_lf pc ok_X12_alterRow_2) (ok_lf pc ok_X12_alterRow_1)) (ok_lf pc ok_X12_alterRow_0)))))
theorem mo_X12_alterRow (pc : Nat) : mo_S (cd_X12_alterRow pc) :=
  (mo_bf (mo_bf (mo_bf (mo_bf (mo_bf (mo_bf mo_ret mo_no) (mo_bf mo_ld mo_no)) (mo_bf (mo_bf mo_last mo_no) (mo_bf mo_ld mo_no))) (mo_bf (mo_bf (mo_bf mo_i2 mo_no) (mo_bf mo_ld mo_no)) (mo_bf mo_i2 mo_no))) (mo_bf (mo_bf (mo_bf (mo_bf mo_ld mo_no) (mo_bf mo_push mo_no)) (mo_bf (mo_bf mo_gr mo_no) (mo_bf mo_ld mo_no))) (mo_bf (mo_bf (mo_bf mo_st2 mo_no) (mo_bf mo_lald mo_no)) (mo_bf mo_i2 mo_no)))) (mo_bf (mo_bf (mo_bf (mo_bf (mo_bf mo_ld mo_no) (mo_bf mo_i2 mo_no)) (mo_bf (mo_bf mo_ld mo_no) (mo_bf mo_push mo_no))) (mo_bf (mo_bf (mo_bf mo_gr mo_no) (mo_bf mo_ld mo_no)) (mo_bf mo_ret mo_no))) (mo_bf (mo_bf (mo_bf (mo_bf mo_push mo_no) (mo_bf mo_if mo_no)) (mo_bf mo_cv mo_no)) (mo_bf (mo_bf (mo_bf mo_ld mo_no) (mo_bf mo_ld mo_no)) (mo_bf mo_ld mo_no)))))
theorem ok_X12_isRight_0 : ok_S 223 0 (sf_ld 2 0 1) := ok_aload_n (by decide +kernel : decode (mb_ 223) 0 = .ok (.aload_n 0, 1)) rfl
theorem ok_X12_isRight_1 : ok_S 223 1 (sf_ld 0 1 2) := ok_iload_n (by decide +kernel : decode (mb_ 223) 1 = .ok (.iload_n 1, 1)) rfl
theorem ok_X12_isRight_2 : ok_S 223 2 (sf_cv 13 [2, 0] 158 5) := ok_cv mt_158 cl_13 (by decide +kernel : decode (mb_ 223) 2 = .ok (.invokevirtual 166, 3)) tw_1297 tw_1299 ts_41 tw_7 rfl (by decide +kernel) (mh_ok rfl) (by decide) (by decide)
theorem ok_X12_isRight_5 : ok_S 223 5 (sf_if 0 56 8) := ok_if0 (by decide +kernel : decode (mb_ 223) 5 = .ok (.ifCond .eq 51, 3)) (by decide)
theorem ok_X12_isRight_8 : ok_S 223 8 (sf_ld 2 0 9) := ok_aload_n (by decide +kernel : decode (mb_ 223) 8 = .ok (.aload_n 0, 1)) rfl
theorem ok_X12_isRight_9 : ok_S 223 9 (sf_gr 13 13 14 12) := ok_gr fd_13_14 (by decide +kernel : decode (mb_ 223) 9 = .ok (.getfield 31, 3)) tw_1140 (Or.inl rfl) rfl
theorem ok_X12_isRight_12 : ok_S 223 12 (sf_push (0, 3) 13) := ok_iconst (by decide +kernel : decode (mb_ 223) 12 = .ok (.iconst 3, 1)) ⟨by decide, by decide⟩
theorem ok_X12_isRight_13 : ok_S 223 13 (sf_ld 0 1 14) := ok_iload_n (by decide +kernel : decode (mb_ 223) 13 = .ok (.iload_n 1, 1)) rfl
theorem ok_X12_isRight_14 : ok_S 223 14 (sf_i2 mx_mul 15) := ok_imul (by decide +kernel : decode (mb_ 223) 14 = .ok (.imul, 1))
theorem ok_X12_isRight_15 : ok_S 223 15 (sf_lald 16) := ok_lald (by decide +kernel : decode (mb_ 223) 15 = .ok (.laload, 1))
theorem ok_X12_isRight_16 : ok_S 223 16 (sf_ld 0 1 17) := ok_iload_n (by decide +kernel : decode (mb_ 223) 16 = .ok (.iload_n 1, 1)) rfl
theorem ok_X12_isRight_17 : ok_S 223 17 (sf_i2l 18) := ok_i2l (by decide +kernel : decode (mb_ 223) 17 = .ok (.i2l, 1))
theorem ok_X12_isRight_18 : ok_S 223 18 (sf_lcmp 19) := ok_lcmp (by decide +kernel : decode (mb_ 223) 18 = .ok (.lcmp, 1))
theorem ok_X12_isRight_19 : ok_S 223 19 (sf_if 1 56 22) := ok_if1 (by decide +kernel : decode (mb_ 223) 19 = .ok (.ifCond .ne 37, 3)) (by decide)
theorem ok_X12_isRight_22 : ok_S 223 22 (sf_ld 2 0 23) := ok_aload_n (by decide +kernel : decode (mb_ 223) 22 = .ok (.aload_n 0, 1)) rfl
theorem ok_X12_isRight_23 : ok_S 223 23 (sf_gr 13 13 14 26) := ok_gr fd_13_14 (by decide +kernel : decode (mb_ 223) 23 = .ok (.getfield 31, 3)) tw_1140 (Or.inl rfl) rfl
theorem ok_X12_isRight_26 : ok_S 223 26 (sf_push (0, 3) 27) := ok_iconst (by decide +kernel : decode (mb_ 223) 26 = .ok (.iconst 3, 1)) ⟨by decide, by decide⟩
theorem ok_X12_isRight_27 : ok_S 223 27 (sf_ld 0 1 28) := ok_iload_n (by decide +kernel : decode (mb_ 223) 27 = .ok (.iload_n 1, 1)) rfl
theorem ok_X12_isRight_28 : ok_S 223 28 (sf_i2 mx_mul 29) := ok_imul (by decide +kernel : decode (mb_ 223) 28 = .ok (.imul, 1))
theorem ok_X12_isRight_29 : ok_S 223 29 (sf_push (0, 1) 30) := ok_iconst (by decide +kernel : decode (mb_ 223) 29 = .ok (.iconst 1, 1)) ⟨by decide, by decide⟩
theorem ok_X12_isRight_30 : ok_S 223 30 (sf_i2 mx_add 31) := ok_iadd (by decide +kernel : decode (mb_ 223) 30 = .ok (.iadd, 1))
theorem ok_X12_isRight_31 : ok_S 223 31 (sf_lald 32) := ok_lald (by decide +kernel : decode (mb_ 223) 31 = .ok (.laload, 1))
theorem ok_X12_isRight_32 : ok_S 223 32 (sf_push (1, 2) 35) := ok_ldc2 (by decide +kernel : decode (mb_ 223) 32 = .ok (.ldc2_w 245, 3)) ⟨by decide, by decide⟩ tw_1490
theorem ok_X12_isRight_35 : ok_S 223 35 (sf_lcmp 36) := ok_lcmp (by decide +kernel : decode (mb_ 223) 35 = .ok (.lcmp, 1))
theorem ok_X12_isRight_36 : ok_S 223 36 (sf_if 2 56 39) := ok_if2 (by decide +kernel : decode (mb_ 223) 36 = .ok (.ifCond .lt 20, 3)) (by decide)
theorem ok_X12_isRight_39 : ok_S 223 39 (sf_ld 2 0 40) := ok_aload_n (by decide +kernel : decode (mb_ 223) 39 = .ok (.aload_n 0, 1)) rfl
theorem ok_X12_isRight_40 : ok_S 223 40 (sf_gr 13 13 14 43) := ok_gr fd_13_14 (by decide +kernel : decode (mb_ 223) 40 = .ok (.getfield 31, 3)) tw_1140 (Or.inl rfl) rfl
theorem ok_X12_isRight_43 : ok_S 223 43 (sf_push (0, 3) 44) := ok_iconst (by decide +kernel : decode (mb_ 223) 43 = .ok (.iconst 3, 1)) ⟨by decide, by decide⟩
theorem ok_X12_isRight_44 : ok_S 223 44 (sf_ld 0 1 45) := ok_iload_n (by decide +kernel : decode (mb_ 223) 44 = .ok (.iload_n 1, 1)) rfl
theorem ok_X12_isRight_45 : ok_S 223 45 (sf_i2 mx_mul 46) := ok_imul (by decide +kernel : decode (mb_ 223) 45 = .ok (.imul, 1))
theorem ok_X12_isRight_46 : ok_S 223 46 (sf_push (0, 1) 47) := ok_iconst (by decide +kernel : decode (mb_ 223) 46 = .ok (.iconst 1, 1)) ⟨by decide, by decide⟩
theorem ok_X12_isRight_47 : ok_S 223 47 (sf_i2 mx_add 48) := ok_iadd (by decide +kernel : decode (mb_ 223) 47 = .ok (.iadd, 1))
theorem ok_X12_isRight_48 : ok_S 223 48 (sf_lald 49) := ok_lald (by decide +kernel : decode (mb_ 223) 48 = .ok (.laload, 1))
theorem ok_X12_isRight_49 : ok_S 223 49 (sf_push (1, 16) 52) := ok_ldc2 (by decide +kernel : decode (mb_ 223) 49 = .ok (.ldc2_w 247, 3)) ⟨by decide, by decide⟩ tw_1491
theorem ok_X12_isRight_52 : ok_S 223 52 (sf_lcmp 53) := ok_lcmp (by decide +kernel : decode (mb_ 223) 52 = .ok (.lcmp, 1))
theorem ok_X12_isRight_53 : ok_S 223 53 (sf_if 5 58 56) := ok_if5 (by decide +kernel : decode (mb_ 223) 53 = .ok (.ifCond .le 5, 3)) (by decide)
theorem ok_X12_isRight_56 : ok_S 223 56 (sf_push (0, 0) 57) := ok_iconst (by decide +kernel : decode (mb_ 223) 56 = .ok (.iconst 0, 1)) ⟨by decide, by decide⟩
theorem ok_X12_isRight_57 : ok_S 223 57 (sf_rr 0 1) := ok_rr (by decide +kernel : decode (mb_ 223) 57 = .ok (.ireturn, 1)) rfl (so_nz .boolean rfl rfl)
theorem ok_X12_isRight_58 : ok_S 223 58 (sf_ld 2 0 59) := ok_aload_n (by decide +kernel : decode (mb_ 223) 58 = .ok (.aload_n 0, 1)) rfl
theorem ok_X12_isRight_59 : ok_S 223 59 (sf_ld 0 1 60) := ok_iload_n (by decide +kernel : decode (mb_ 223) 59 = .ok (.iload_n 1, 1)) rfl
theorem ok_X12_isRight_60 : ok_S 223 60 (sf_push (0, 1) 61) := ok_iconst (by decide +kernel : decode (mb_ 223) 60 = .ok (.iconst 1, 1)) ⟨by decide, by decide⟩
theorem ok_X12_isRight_61 : ok_S 223 61 (sf_cv 13 [2, 0, 0] 161 64) := ok_cv mt_161 cl_13 (by decide +kernel : decode (mb_ 223) 61 = .ok (.invokevirtual 162, 3)) tw_1285 tw_1287 ts_40 tw_7 rfl (by decide +kernel) (mh_ok rfl) (by decide) (by decide)
theorem ok_X12_isRight_64 : ok_S 223 64 (sf_st 0 2 65) := ok_istore_n (by decide +kernel : decode (mb_ 223) 64 = .ok (.istore_n 2, 1)) rfl
theorem ok_X12_isRight_65 : ok_S 223 65 (sf_ld 2 0 66) := ok_aload_n (by decide +kernel : decode (mb_ 223) 65 = .ok (.aload_n 0, 1)) rfl
theorem ok_X12_isRight_66 : ok_S 223 66 (sf_gr 13 13 14 69) := ok_gr fd_13_14 (by decide +kernel : decode (mb_ 223) 66 = .ok (.getfield 31, 3)) tw_1140 (Or.inl rfl) rfl
theorem ok_X12_isRight_69 : ok_S 223 69 (sf_push (0, 3) 70) := ok_iconst (by decide +kernel : decode (mb_ 223) 69 = .ok (.iconst 3, 1)) ⟨by decide, by decide⟩
theorem ok_X12_isRight_70 : ok_S 223 70 (sf_ld 0 1 71) := ok_iload_n (by decide +kernel : decode (mb_ 223) 70 = .ok (.iload_n 1, 1)) rfl
theorem ok_X12_isRight_71 : ok_S 223 71 (sf_i2 mx_mul 72) := ok_imul (by decide +kernel : decode (mb_ 223) 71 = .ok (.imul, 1))
theorem ok_X12_isRight_72 : ok_S 223 72 (sf_push (0, 1) 73) := ok_iconst (by decide +kernel : decode (mb_ 223) 72 = .ok (.iconst 1, 1)) ⟨by decide, by decide⟩
theorem ok_X12_isRight_73 : ok_S 223 73 (sf_i2 mx_add 74) := ok_iadd (by decide +kernel : decode (mb_ 223) 73 = .ok (.iadd, 1))
theorem ok_X12_isRight_74 : ok_S 223 74 (sf_lald 75) := ok_lald (by decide +kernel : decode (mb_ 223) 74 = .ok (.laload, 1))
theorem ok_X12_isRight_75 : ok_S 223 75 (sf_l2i 76) := ok_l2i (by decide +kernel : decode (mb_ 223) 75 = .ok (.l2i, 1))
theorem ok_X12_isRight_76 : ok_S 223 76 (sf_st 0 3 77) := ok_istore_n (by decide +kernel : decode (mb_ 223) 76 = .ok (.istore_n 3, 1)) rfl
theorem ok_X12_isRight_77 : ok_S 223 77 (sf_ld 0 3 78) := ok_iload_n (by decide +kernel : decode (mb_ 223) 77 = .ok (.iload_n 3, 1)) rfl
theorem ok_X12_isRight_78 : ok_S 223 78 (sf_ld 2 0 79) := ok_aload_n (by decide +kernel : decode (mb_ 223) 78 = .ok (.aload_n 0, 1)) rfl
theorem ok_X12_isRight_79 : ok_S 223 79 (sf_gr 13 13 0 82) := ok_gr fd_13_0 (by decide +kernel : decode (mb_ 223) 79 = .ok (.getfield 7, 3)) tw_1126 (Or.inl rfl) rfl
theorem ok_X12_isRight_82 : ok_S 223 82 (sf_push (0, 3) 83) := ok_iconst (by decide +kernel : decode (mb_ 223) 82 = .ok (.iconst 3, 1)) ⟨by decide, by decide⟩
theorem ok_X12_isRight_83 : ok_S 223 83 (sf_push (0, 2) 84) := ok_iconst (by decide +kernel : decode (mb_ 223) 83 = .ok (.iconst 2, 1)) ⟨by decide, by decide⟩
theorem ok_X12_isRight_84 : ok_S 223 84 (sf_ld 0 2 85) := ok_iload_n (by decide +kernel : decode (mb_ 223) 84 = .ok (.iload_n 2, 1)) rfl
theorem ok_X12_isRight_85 : ok_S 223 85 (sf_i2 mx_mul 86) := ok_imul (by decide +kernel : decode (mb_ 223) 85 = .ok (.imul, 1))
theorem ok_X12_isRight_86 : ok_S 223 86 (sf_i2 mx_add 87) := ok_iadd (by decide +kernel : decode (mb_ 223) 86 = .ok (.iadd, 1))
theorem ok_X12_isRight_87 : ok_S 223 87 (sf_iald 88) := ok_iald (by decide +kernel : decode (mb_ 223) 87 = .ok (.iaload, 1))
theorem ok_X12_isRight_88 : ok_S 223 88 (sf_ld 2 0 89) := ok_aload_n (by decide +kernel : decode (mb_ 223) 88 = .ok (.aload_n 0, 1)) rfl
theorem ok_X12_isRight_89 : ok_S 223 89 (sf_gr 13 13 0 92) := ok_gr fd_13_0 (by decide +kernel : decode (mb_ 223) 89 = .ok (.getfield 7, 3)) tw_1126 (Or.inl rfl) rfl
theorem ok_X12_isRight_92 : ok_S 223 92 (sf_push (0, 3) 93) := ok_iconst (by decide +kernel : decode (mb_ 223) 92 = .ok (.iconst 3, 1)) ⟨by decide, by decide⟩
theorem ok_X12_isRight_93 : ok_S 223 93 (sf_push (0, 2) 94) := ok_iconst (by decide +kernel : decode (mb_ 223) 93 = .ok (.iconst 2, 1)) ⟨by decide, by decide⟩
theorem ok_X12_isRight_94 : ok_S 223 94 (sf_ld 0 2 95) := ok_iload_n (by decide +kernel : decode (mb_ 223) 94 = .ok (.iload_n 2, 1)) rfl
theorem ok_X12_isRight_95 : ok_S 223 95 (sf_i2 mx_mul 96) := ok_imul (by decide +kernel : decode (mb_ 223) 95 = .ok (.imul, 1))
theorem ok_X12_isRight_96 : ok_S 223 96 (sf_i2 mx_add 97) := ok_iadd (by decide +kernel : decode (mb_ 223) 96 = .ok (.iadd, 1))
theorem ok_X12_isRight_97 : ok_S 223 97 (sf_push (0, 1) 98) := ok_iconst (by decide +kernel : decode (mb_ 223) 97 = .ok (.iconst 1, 1)) ⟨by decide, by decide⟩
theorem ok_X12_isRight_98 : ok_S 223 98 (sf_i2 mx_add 99) := ok_iadd (by decide +kernel : decode (mb_ 223) 98 = .ok (.iadd, 1))
theorem ok_X12_isRight_99 : ok_S 223 99 (sf_iald 100) := ok_iald (by decide +kernel : decode (mb_ 223) 99 = .ok (.iaload, 1))
theorem ok_X12_isRight_100 : ok_S 223 100 (sf_cs [0, 0, 0] 157 103) := ok_cs mt_157 (by decide +kernel : decode (mb_ 223) 100 = .ok (.invokestatic 56, 3)) tw_1206 tw_1207 tw_7 (by decide +kernel) (mh_ok rfl) (by decide) (by decide)
theorem ok_X12_isRight_103 : ok_S 223 103 (sf_if 0 138 106) := ok_if0 (by decide +kernel : decode (mb_ 223) 103 = .ok (.ifCond .eq 35, 3)) (by decide)
theorem ok_X12_isRight_106 : ok_S 223 106 (sf_ld 2 0 107) := ok_aload_n (by decide +kernel : decode (mb_ 223) 106 = .ok (.aload_n 0, 1)) rfl
theorem ok_X12_isRight_107 : ok_S 223 107 (sf_gr 13 13 11 110) := ok_gr fd_13_11 (by decide +kernel : decode (mb_ 223) 107 = .ok (.getfield 22, 3)) tw_1137 (Or.inl rfl) rfl
theorem ok_X12_isRight_110 : ok_S 223 110 (sf_ld 0 2 111) := ok_iload_n (by decide +kernel : decode (mb_ 223) 110 = .ok (.iload_n 2, 1)) rfl
theorem ok_X12_isRight_111 : ok_S 223 111 (sf_iald 112) := ok_iald (by decide +kernel : decode (mb_ 223) 111 = .ok (.iaload, 1))
theorem ok_X12_isRight_112 : ok_S 223 112 (sf_if 0 125 115) := ok_if0 (by decide +kernel : decode (mb_ 223) 112 = .ok (.ifCond .eq 13, 3)) (by decide)
theorem ok_X12_isRight_115 : ok_S 223 115 (sf_ld 2 0 116) := ok_aload_n (by decide +kernel : decode (mb_ 223) 115 = .ok (.aload_n 0, 1)) rfl
theorem ok_X12_isRight_116 : ok_S 223 116 (sf_gr 13 13 11 119) := ok_gr fd_13_11 (by decide +kernel : decode (mb_ 223) 116 = .ok (.getfield 22, 3)) tw_1137 (Or.inl rfl) rfl
theorem ok_X12_isRight_119 : ok_S 223 119 (sf_ld 0 2 120) := ok_iload_n (by decide +kernel : decode (mb_ 223) 119 = .ok (.iload_n 2, 1)) rfl
theorem ok_X12_isRight_120 : ok_S 223 120 (sf_iald 121) := ok_iald (by decide +kernel : decode (mb_ 223) 120 = .ok (.iaload, 1))
theorem ok_X12_isRight_121 : ok_S 223 121 (sf_ld 0 3 122) := ok_iload_n (by decide +kernel : decode (mb_ 223) 121 = .ok (.iload_n 3, 1)) rfl
theorem ok_X12_isRight_122 : ok_S 223 122 (sf_ic 1 138 125) := ok_ic1 (by decide +kernel : decode (mb_ 223) 122 = .ok (.if_icmp .ne 16, 3)) (by decide)
theorem ok_X12_isRight_125 : ok_S 223 125 (sf_ld 2 0 126) := ok_aload_n (by decide +kernel : decode (mb_ 223) 125 = .ok (.aload_n 0, 1)) rfl
theorem ok_X12_isRight_126 : ok_S 223 126 (sf_ld 0 1 127) := ok_iload_n (by decide +kernel : decode (mb_ 223) 126 = .ok (.iload_n 1, 1)) rfl
theorem ok_X12_isRight_127 : ok_S 223 127 (sf_ld 0 3 128) := ok_iload_n (by decide +kernel : decode (mb_ 223) 127 = .ok (.iload_n 3, 1)) rfl
theorem ok_X12_isRight_128 : ok_S 223 128 (sf_cv 13 [2, 0, 0] 184 131) := ok_cv mt_184 cl_13 (by decide +kernel : decode (mb_ 223) 128 = .ok (.invokevirtual 182, 3)) tw_1330 tw_1332 ts_45 tw_7 rfl (by decide +kernel) (mh_ok rfl) (by decide) (by decide)
theorem ok_X12_isRight_131 : ok_S 223 131 (sf_if 0 138 134) := ok_if0 (by decide +kernel : decode (mb_ 223) 131 = .ok (.ifCond .eq 7, 3)) (by decide)
theorem ok_X12_isRight_134 : ok_S 223 134 (sf_push (0, 1) 135) := ok_iconst (by decide +kernel : decode (mb_ 223) 134 = .ok (.iconst 1, 1)) ⟨by decide, by decide⟩
theorem ok_X12_isRight_135 : ok_S 223 135 (sf_go 139) := ok_goto (by decide +kernel : decode (mb_ 223) 135 = .ok (.goto 4, 3)) (by decide)
theorem ok_X12_isRight_138 : ok_S 223 138 (sf_push (0, 0) 139) := ok_iconst (by decide +kernel : decode (mb_ 223) 138 = .ok (.iconst 0, 1)) ⟨by decide, by decide⟩
theorem ok_X12_isRight_139 : ok_S 223 139 (sf_st 0 4 141) := ok_istore (by decide +kernel : decode (mb_ 223) 139 = .ok (.istore 4, 2))
theorem ok_X12_isRight_141 : ok_S 223 141 (sf_ld 2 0 142) := ok_aload_n (by decide +kernel : decode (mb_ 223) 141 = .ok (.aload_n 0, 1)) rfl
theorem ok_X12_isRight_142 : ok_S 223 142 (sf_gr 13 13 11 145) := ok_gr fd_13_11 (by decide +kernel : decode (mb_ 223) 142 = .ok (.getfield 22, 3)) tw_1137 (Or.inl rfl) rfl
theorem ok_X12_isRight_145 : ok_S 223 145 (sf_ld 0 2 146) := ok_iload_n (by decide +kernel : decode (mb_ 223) 145 = .ok (.iload_n 2, 1)) rfl
theorem ok_X12_isRight_146 : ok_S 223 146 (sf_ld 0 3 147) := ok_iload_n (by decide +kernel : decode (mb_ 223) 146 = .ok (.iload_n 3, 1)) rfl
theorem ok_X12_isRight_147 : ok_S 223 147 (sf_iast 148) := ok_iast (by decide +kernel : decode (mb_ 223) 147 = .ok (.iastore, 1))
theorem ok_X12_isRight_148 : ok_S 223 148 (sf_ld 0 4 150) := ok_iload (by decide +kernel : decode (mb_ 223) 148 = .ok (.iload 4, 2))
theorem ok_X12_isRight_150 : ok_S 223 150 (sf_if 0 177 153) := ok_if0 (by decide +kernel : decode (mb_ 223) 150 = .ok (.ifCond .eq 27, 3)) (by decide)
theorem ok_X12_isRight_153 : ok_S 223 153 (sf_ld 2 0 154) := ok_aload_n (by decide +kernel : decode (mb_ 223) 153 = .ok (.aload_n 0, 1)) rfl
theorem ok_X12_isRight_154 : ok_S 223 154 (sf_gr 13 13 14 157) := ok_gr fd_13_14 (by decide +kernel : decode (mb_ 223) 154 = .ok (.getfield 31, 3)) tw_1140 (Or.inl rfl) rfl
theorem ok_X12_isRight_157 : ok_S 223 157 (sf_push (0, 3) 158) := ok_iconst (by decide +kernel : decode (mb_ 223) 157 = .ok (.iconst 3, 1)) ⟨by decide, by decide⟩
theorem ok_X12_isRight_158 : ok_S 223 158 (sf_ld 0 1 159) := ok_iload_n (by decide +kernel : decode (mb_ 223) 158 = .ok (.iload_n 1, 1)) rfl
theorem ok_X12_isRight_159 : ok_S 223 159 (sf_i2 mx_mul 160) := ok_imul (by decide +kernel : decode (mb_ 223) 159 = .ok (.imul, 1))
theorem ok_X12_isRight_160 : ok_S 223 160 (sf_push (0, 2) 161) := ok_iconst (by decide +kernel : decode (mb_ 223) 160 = .ok (.iconst 2, 1)) ⟨by decide, by decide⟩
theorem ok_X12_isRight_161 : ok_S 223 161 (sf_i2 mx_add 162) := ok_iadd (by decide +kernel : decode (mb_ 223) 161 = .ok (.iadd, 1))
theorem ok_X12_isRight_162 : ok_S 223 162 (sf_lald 163) := ok_lald (by decide +kernel : decode (mb_ 223) 162 = .ok (.laload, 1))
theorem ok_X12_isRight_163 : ok_S 223 163 (sf_ld 2 0 164) := ok_aload_n (by decide +kernel : decode (mb_ 223) 163 = .ok (.aload_n 0, 1)) rfl
theorem ok_X12_isRight_164 : ok_S 223 164 (sf_ld 0 1 165) := ok_iload_n (by decide +kernel : decode (mb_ 223) 164 = .ok (.iload_n 1, 1)) rfl
theorem ok_X12_isRight_165 : ok_S 223 165 (sf_ld 0 3 166) := ok_iload_n (by decide +kernel : decode (mb_ 223) 165 = .ok (.iload_n 3, 1)) rfl
theorem ok_X12_isRight_166 : ok_S 223 166 (sf_cv 13 [2, 0, 0] 183 169) := ok_cv mt_183 cl_13 (by decide +kernel : decode (mb_ 223) 166 = .ok (.invokevirtual 176, 3)) tw_1317 tw_1319 ts_43 tw_7 rfl (by decide +kernel) (mh_ok rfl) (by decide) (by decide)
theorem ok_X12_isRight_169 : ok_S 223 169 (sf_lcmp 170) := ok_lcmp (by decide +kernel : decode (mb_ 223) 169 = .ok (.lcmp, 1))
theorem ok_X12_isRight_170 : ok_S 223 170 (sf_if 1 177 173) := ok_if1 (by decide +kernel : decode (mb_ 223) 170 = .ok (.ifCond .ne 7, 3)) (by decide)
theorem ok_X12_isRight_173 : ok_S 223 173 (sf_push (0, 1) 174) := ok_iconst (by decide +kernel : decode (mb_ 223) 173 = .ok (.iconst 1, 1)) ⟨by decide, by decide⟩
theorem ok_X12_isRight_174 : ok_S 223 174 (sf_go 178) := ok_goto (by decide +kernel : decode (mb_ 223) 174 = .ok (.goto 4, 3)) (by decide)
theorem ok_X12_isRight_177 : ok_S 223 177 (sf_push (0, 0) 178) := ok_iconst (by decide +kernel : decode (mb_ 223) 177 = .ok (.iconst 0, 1)) ⟨by decide, by decide⟩
theorem ok_X12_isRight_178 : ok_S 223 178 (sf_rr 0 1) := ok_rr (by decide +kernel : decode (mb_ 223) 178 = .ok (.ireturn, 1)) rfl (so_nz .boolean rfl rfl)
theorem ok_X12_isRight (pc : Nat) : ok_S 223 pc (cd_X12_isRight pc) :=
  (ok_bf (ok_bf (ok_bf (ok_bf (ok_bf (ok_bf (ok_bf (ok_lf pc ok_X12_isRight_178) (ok_lf pc ok_X12_isRight_177)) (ok_bf (ok_lf pc ok_X12_isRight_174) (ok_lf pc ok_X12_isRight_173))) (ok_bf (ok_bf (ok_lf pc ok_X12_isRight_170) (ok_lf pc ok_X12_isRight_169)) (ok_bf (ok_lf pc ok_X12_isRight_166) (ok_lf pc ok_X12_isRight_165)))) (ok_bf (ok_bf (ok_bf (ok_lf pc ok_X12_isRight_164) (ok_lf pc ok_X12_isRight_163)) (ok_bf (ok_lf pc ok_X12_isRight_162) (ok_lf pc ok_X12_isRight_161))) (ok_bf (ok_bf (ok_lf pc ok_X12_isRight_160) (ok_lf pc ok_X12_isRight_159)) (ok_lf pc ok_X12_isRight_158)))) (ok_bf (ok_bf (ok_bf (ok_bf (ok_lf pc ok_X12_isRight_157) (ok_lf pc ok_X12_isRight_154)) (ok_bf (ok_lf pc ok_X12_isRight_153) (ok_lf pc ok_X12_isRight_150))) (ok_bf (ok_bf (ok_lf pc ok_X12_isRight_148) (ok_lf pc ok_X12_isRight_147)) (ok_bf (ok_lf pc ok_X12_isRight_146) (ok_lf pc ok_X12_isRight_145)))) (ok_bf (ok_bf (ok_bf (ok_lf pc ok_X12_isRight_142) (ok_lf pc ok_X12_isRight_141)) (ok_bf (ok_lf pc ok_X12_isRight_139) (ok_lf pc ok_X12_isRight_138))) (ok_bf (ok_bf (ok_lf pc ok_X12_isRight_135) (ok_lf pc ok_X12_isRight_134)) (ok_lf pc ok_X12_isRight_131))))) (ok_bf (ok_bf (ok_bf (ok_bf (ok_bf (ok_lf pc ok_X12_isRight_128) (ok_lf pc ok_X12_isRight_127)) (ok_bf (ok_lf pc ok_X12_isRight_126) (ok_lf pc ok_X12_isRight_125))) (ok_bf (ok_bf (ok_lf pc ok_X12_isRight_122) (ok_lf pc ok_X12_isRight_121)) (ok_bf (ok_lf pc ok_X12_isRight_120) (ok_lf pc ok_X12_isRight_119)))) (ok_bf (ok_bf (ok_bf (ok_lf pc ok_X12_isRight_116) (ok_lf pc ok_X12_isRight_115)) (ok_bf (ok_lf pc ok_X12_isRight_112) (ok_lf pc ok_X12_isRight_111))) (ok_bf (ok_bf (ok_lf pc ok_X12_isRight_110) (ok_lf pc ok_X12_isRight_107)) (ok_lf pc ok_X12_isRight_106)))) (ok_bf (ok_bf (ok_bf (ok_bf (ok_lf pc ok_X12_isRight_103) (ok_lf pc ok_X12_isRight_100)) (ok_bf (ok_lf pc ok_X12_isRight_99) (ok_lf pc ok_X12_isRight_98))) (ok_bf (ok_bf (ok_lf pc ok_X12_isRight_97) (ok_lf pc ok_X12_isRight_96)) (ok_bf (ok_lf pc ok_X12_isRight_95) (ok_lf pc ok_X12_isRight_94)))) (ok_bf (ok_bf (ok_bf (ok_lf pc ok_X12_isRight_93) (ok_lf pc ok_X12_isRight_92)) (ok_bf (ok_lf pc ok_X12_isRight_89) (ok_lf pc ok_X12_isRight_88))) (ok_bf (ok_bf (ok_lf pc ok_X12_isRight_87) (ok_lf pc ok_X12_isRight_86)) (ok_lf pc ok_X12_isRight_85)))))) (ok_bf (ok_bf (ok_bf (ok_bf (ok_bf (ok_bf (ok_lf pc ok_X12_isRight_84) (ok_lf pc ok_X12_isRight_83)) (ok_bf (ok_lf pc ok_X12_isRight_82) (ok_lf pc ok_X12_isRight_79))) (ok_bf (ok_bf (ok_lf pc ok_X12_isRight_78) (ok_lf pc ok_X12_isRight_77)) (ok_bf (ok_lf pc ok_X12_isRight_76) (ok_lf pc ok_X12_isRight_75)))) (ok_bf (ok_bf (ok_bf (ok_lf pc ok_X12_isRight_74) (ok_lf pc ok_X12_isRight_73)) (ok_bf (ok_lf pc ok_X12_isRight_72) (ok_lf pc ok_X12_isRight_71))) (ok_bf (ok_bf (ok_lf pc ok_X12_isRight_70) (ok_lf pc ok_X12_isRight_69)) (ok_lf pc ok_X12_isRight_66)))) (ok_bf (ok_bf (ok_bf (ok_bf (ok_lf pc ok_X12_isRight_65) (ok_lf pc ok_X12_isRight_64)) (ok_bf (ok_lf pc ok_X12_isRight_61) (ok_lf pc ok_X12_isRight_60))) (ok_bf (ok_bf (ok_lf pc ok_X12_isRight_59) (ok_lf pc ok_X12_isRight_58)) (ok_bf (ok_lf pc ok_X12_isRight_57) (ok_lf pc ok_X12_isRight_56)))) (ok_bf (ok_bf (ok_bf (ok_lf pc ok_X12_isRight_53) (ok_lf pc ok_X12_isRight_52)) (ok_bf (ok_lf pc ok_X12_isRight_49) (ok_lf pc ok_X12_isRight_48))) (ok_bf (ok_bf (ok_lf pc ok_X12_isRight_47) (ok_lf pc ok_X12_isRight_46)) (ok_lf pc ok_X12_isRight_45))))) (ok_bf (ok_bf (ok_bf (ok_bf (ok_bf (ok_lf pc ok_X12_isRight_44) (ok_lf pc ok_X12_isRight_43)) (ok_bf (ok_lf pc ok_X12_isRight_40) (ok_lf pc ok_X12_isRight_39))) (ok_bf (ok_bf (ok_lf pc ok_X12_isRight_36) (ok_lf pc ok_X12_isRight_35)) (ok_bf (ok_lf pc ok_X12_isRight_32) (ok_lf pc ok_X12_isRight_31)))) (ok_bf (ok_bf (ok_bf (ok_lf pc ok_X12_isRight_30) (ok_lf pc ok_X12_isRight_29)) (ok_bf (ok_lf pc ok_X12_isRight_28) (ok_lf pc ok_X12_isRight_27))) (ok_bf (ok_bf (ok_lf pc ok_X12_isRight_26) (ok_lf pc ok_X12_isRight_23)) (ok_lf pc ok_X12_isRight_22)))) (ok_bf (ok_bf (ok_bf (ok_bf (ok_lf pc ok_X12_isRight_19) (ok_lf pc ok_X12_isRight_18)) (ok_bf (ok_lf pc ok_X12_isRight_17) (ok_lf pc ok_X12_isRight_16))) (ok_bf (ok_bf (ok_lf pc ok_X12_isRight_15) (ok_lf pc ok_X12_isRight_14)) (ok_lf pc ok_X12_isRight_13))) (ok_bf (ok_bf (ok_bf (ok_lf pc ok_X12_isRight_12) (ok_lf pc ok_X12_isRight_9)) (ok_bf (ok_lf pc ok_X12_isRight_8) (ok_lf pc ok_X12_isRight_5))) (ok_bf (ok_bf (ok_lf pc ok_X12_isRight_2) (ok_lf pc ok_X12_isRight_1)) (ok_lf pc ok_X12_isRight_0)))))))
theorem mo_X12_isRight (pc : Nat) : mo_S (cd_X12_isRight pc) :=
  (mo_bf (mo_bf (mo_bf (mo_bf (mo_bf (mo_bf (mo_bf (mo_bf mo_rr mo_no) (mo_bf mo_push mo_no)) (mo_bf (mo_bf mo_go mo_no) (mo_bf mo_push mo_no))) (mo_bf (mo_bf (mo_bf mo_if mo_no) (mo_bf mo_lcmp mo_no)) (mo_bf (mo_bf mo_cv mo_no) (mo_bf mo_ld mo_no)))) (mo_bf (mo_bf (mo_bf (mo_bf mo_ld mo_no) (mo_bf mo_ld mo_no)) (mo_bf (mo_bf mo_lald mo_no) (mo_bf mo_i2 mo_no))) (mo_bf (mo_bf (mo_bf mo_push mo_no) (mo_bf mo_i2 mo_no)) (mo_bf mo_ld mo_no)))) (mo_bf (mo_bf (mo_bf (mo_bf (mo_bf mo_push mo_no) (mo_bf mo_gr mo_no)) (mo_bf (mo_bf mo_ld mo_no) (mo_bf mo_if mo_no))) (mo_bf (mo_bf (mo_bf mo_ld mo_no) (mo_bf mo_iast mo_no)) (mo_bf (mo_bf mo_ld mo_no) (mo_bf mo_ld mo_no)))) (mo_bf (mo_bf (mo_bf (mo_bf mo_gr mo_no) (mo_bf mo_ld mo_no)) (mo_bf (mo_bf mo_st mo_no) (mo_bf mo_push mo_no))) (mo_bf (mo_bf (mo_bf mo_go mo_no) (mo_bf mo_push mo_no)) (mo_bf mo_if mo_no))))) (mo_bf (mo_bf (mo_bf (mo_bf (mo_bf (mo_bf mo_cv mo_no) (mo_bf mo_ld mo_no)) (mo_bf (mo_bf mo_ld mo_no) (mo_bf mo_ld mo_no))) (mo_bf (mo_bf (mo_bf mo_ic mo_no) (mo_bf mo_ld mo_no)) (mo_bf (mo_bf mo_iald mo_no) (mo_bf mo_ld mo_no)))) (mo_bf (mo_bf (mo_bf (mo_bf mo_gr mo_no) (mo_bf mo_ld mo_no)) (mo_bf (mo_bf mo_if mo_no) (mo_bf mo_iald mo_no))) (mo_bf (mo_bf (mo_bf mo_ld mo_no) (mo_bf mo_gr mo_no)) (mo_bf mo_ld mo_no)))) (mo_bf (mo_bf (mo_bf (mo_bf (mo_bf mo_if mo_no) (mo_bf mo_cs mo_no)) (mo_bf (mo_bf mo_iald mo_no) (mo_bf mo_i2 mo_no))) (mo_bf (mo_bf (mo_bf mo_push mo_no) (mo_bf mo_i2 mo_no)) (mo_bf (mo_bf mo_i2 mo_no) (mo_bf mo_ld mo_no)))) (mo_bf (mo_bf (mo_bf (mo_bf mo_push mo_no) (mo_bf mo_push mo_no)) (mo_bf (mo_bf mo_gr mo_no) (mo_bf mo_ld mo_no))) (mo_bf (mo_bf (mo_bf mo_iald mo_no) (mo_bf mo_i2 mo_no)) (mo_bf mo_i2 mo_no)))))) (mo_bf (mo_bf (mo_bf (mo_bf (mo_bf (mo_bf (mo_bf mo_ld mo_no) (mo_bf mo_push mo_no)) (mo_bf (mo_bf mo_push mo_no) (mo_bf mo_gr mo_no))) (mo_bf (mo_bf (mo_bf mo_ld mo_no) (mo_bf mo_ld mo_no)) (mo_bf (mo_bf mo_st mo_no) (mo_bf mo_l2i mo_no)))) (mo_bf (mo_bf (mo_bf (mo_bf mo_lald mo_no) (mo_bf mo_i2 mo_no)) (mo_bf (mo_bf mo_push mo_no) (mo_bf mo_i2 mo_no))) (mo_bf (mo_bf (mo_bf mo_ld mo_no) (mo_bf mo_push mo_no)) (mo_bf mo_gr mo_no)))) (mo_bf (mo_bf (mo_bf (mo_bf (mo_bf mo_ld mo_no) (mo_bf mo_st mo_no)) (mo_bf (mo_bf mo_cv mo_no) (mo_bf mo_push mo_no))) (mo_bf (mo_bf (mo_bf mo_ld mo_no) (mo_bf mo_ld mo_no)) (mo_bf (mo_bf mo_rr mo_no) (mo_bf mo_push mo_no)))) (mo_bf (mo_bf (mo_bf (mo_bf mo_if mo_no) (mo_bf mo_lcmp mo_no)) (mo_bf (mo_bf mo_push mo_no) (mo_bf mo_lald mo_no))) (mo_bf (mo_bf (mo_bf mo_i2 mo_no) (mo_bf mo_push mo_no)) (mo_bf mo_i2 mo_no))))) (mo_bf (mo_bf (mo_bf (mo_bf (mo_bf (mo_bf mo_ld mo_no) (mo_bf mo_push mo_no)) (mo_bf (mo_bf mo_gr mo_no) (mo_bf mo_ld mo_no))) (mo_bf (mo_bf (mo_bf mo_if mo_no) (mo_bf mo_lcmp mo_no)) (mo_bf (mo_bf mo_push mo_no) (mo_bf mo_lald mo_no)))) (mo_bf (mo_bf (mo_bf (mo_bf mo_i2 mo_no) (mo_bf mo_push mo_no)) (mo_bf (mo_bf mo_i2 mo_no) (mo_bf mo_ld mo_no))) (mo_bf (mo_bf (mo_bf mo_push mo_no) (mo_bf mo_gr mo_no)) (mo_bf mo_ld mo_no)))) (mo_bf (mo_bf (mo_bf (mo_bf (mo_bf mo_if mo_no) (mo_bf mo_lcmp mo_no)) (mo_bf (mo_bf mo_i2l mo_no) (mo_bf mo_ld mo_no))) (mo_bf (mo_bf (mo_bf mo_lald mo_no) (mo_bf mo_i2 mo_no)) (mo_bf mo_ld mo_no))) (mo_bf (mo_bf (mo_bf (mo_bf mo_push mo_no) (mo_bf mo_gr mo_no)) (mo_bf (mo_bf mo_ld mo_no) (mo_bf mo_if mo_no))) (mo_bf (mo_bf (mo_bf mo_cv mo_no) (mo_bf mo_ld mo_no)) (mo_bf mo_ld mo_no)))))))
theorem ok_X12_judge_0 : ok_S 224 0 (sf_push (0, 0) 1) := ok_iconst (by decide +kernel : decode (mb_ 224) 0 = .ok (.iconst 0, 1)) ⟨by decide, by decide⟩
theorem ok_X12_judge_1 : ok_S 224 1 (sf_st 0 1 2) := ok_istore_n (by decide +kernel : decode (mb_ 224) 1 = .ok (.istore_n 1, 1)) rfl
theorem ok_X12_judge_2 : ok_S 224 2 (sf_ld 0 1 3) := ok_iload_n (by decide +kernel : decode (mb_ 224) 2 = .ok (.iload_n 1, 1)) rfl
theorem ok_X12_judge_3 : ok_S 224 3 (sf_push (0, 3) 4) := ok_iconst (by decide +kernel : decode (mb_ 224) 3 = .ok (.iconst 3, 1)) ⟨by decide, by decide⟩
theorem ok_X12_judge_4 : ok_S 224 4 (sf_ic 3 20 7) := ok_ic3 (by decide +kernel : decode (mb_ 224) 4 = .ok (.if_icmp .ge 16, 3)) (by decide)
theorem ok_X12_judge_7 : ok_S 224 7 (sf_ld 2 0 8) := ok_aload_n (by decide +kernel : decode (mb_ 224) 7 = .ok (.aload_n 0, 1)) rfl
theorem ok_X12_judge_8 : ok_S 224 8 (sf_gr 13 13 11 11) := ok_gr fd_13_11 (by decide +kernel : decode (mb_ 224) 8 = .ok (.getfield 22, 3)) tw_1137 (Or.inl rfl) rfl
theorem ok_X12_judge_11 : ok_S 224 11 (sf_ld 0 1 12) := ok_iload_n (by decide +kernel : decode (mb_ 224) 11 = .ok (.iload_n 1, 1)) rfl
theorem ok_X12_judge_12 : ok_S 224 12 (sf_push (0, 0) 13) := ok_iconst (by decide +kernel : decode (mb_ 224) 12 = .ok (.iconst 0, 1)) ⟨by decide, by decide⟩
theorem ok_X12_judge_13 : ok_S 224 13 (sf_iast 14) := ok_iast (by decide +kernel : decode (mb_ 224) 13 = .ok (.iastore, 1))
theorem ok_X12_judge_14 : ok_S 224 14 (sf_inc 1 1 17) := ok_iinc (by decide +kernel : decode (mb_ 224) 14 = .ok (.iinc 1 1, 3))
theorem ok_X12_judge_17 : ok_S 224 17 (sf_go 2) := ok_goto (by decide +kernel : decode (mb_ 224) 17 = .ok (.goto (-15), 3)) (by decide)
theorem ok_X12_judge_20 : ok_S 224 20 (sf_push (0, 0) 21) := ok_iconst (by decide +kernel : decode (mb_ 224) 20 = .ok (.iconst 0, 1)) ⟨by decide, by decide⟩
theorem ok_X12_judge_21 : ok_S 224 21 (sf_st 0 1 22) := ok_istore_n (by decide +kernel : decode (mb_ 224) 21 = .ok (.istore_n 1, 1)) rfl
theorem ok_X12_judge_22 : ok_S 224 22 (sf_ld 0 1 23) := ok_iload_n (by decide +kernel : decode (mb_ 224) 22 = .ok (.iload_n 1, 1)) rfl
theorem ok_X12_judge_23 : ok_S 224 23 (sf_ld 2 0 24) := ok_aload_n (by decide +kernel : decode (mb_ 224) 23 = .ok (.aload_n 0, 1)) rfl
theorem ok_X12_judge_24 : ok_S 224 24 (sf_gi 13 13 15 27) := ok_gi fd_13_15 (by decide +kernel : decode (mb_ 224) 24 = .ok (.getfield 153, 3)) tw_1141 (Or.inl rfl) rfl
theorem ok_X12_judge_27 : ok_S 224 27 (sf_ic 3 48 30) := ok_ic3 (by decide +kernel : decode (mb_ 224) 27 = .ok (.if_icmp .ge 21, 3)) (by decide)
theorem ok_X12_judge_30 : ok_S 224 30 (sf_ld 2 0 31) := ok_aload_n (by decide +kernel : decode (mb_ 224) 30 = .ok (.aload_n 0, 1)) rfl
theorem ok_X12_judge_31 : ok_S 224 31 (sf_ld 0 1 32) := ok_iload_n (by decide +kernel : decode (mb_ 224) 31 = .ok (.iload_n 1, 1)) rfl
theorem ok_X12_judge_32 : ok_S 224 32 (sf_cv 13 [2, 0] 223 35) := ok_cv mt_223 cl_13 (by decide +kernel : decode (mb_ 224) 32 = .ok (.invokevirtual 249, 3)) tw_1486 tw_1488 ts_57 tw_7 rfl (by decide +kernel) (mh_ok rfl) (by decide) (by decide)
theorem ok_X12_judge_35 : ok_S 224 35 (sf_if 1 42 38) := ok_if1 (by decide +kernel : decode (mb_ 224) 35 = .ok (.ifCond .ne 7, 3)) (by decide)
theorem ok_X12_judge_38 : ok_S 224 38 (sf_push (0, 1) 39) := ok_iconst (by decide +kernel : decode (mb_ 224) 38 = .ok (.iconst 1, 1)) ⟨by decide, by decide⟩
theorem ok_X12_judge_39 : ok_S 224 39 (sf_ld 0 1 40) := ok_iload_n (by decide +kernel : decode (mb_ 224) 39 = .ok (.iload_n 1, 1)) rfl
theorem ok_X12_judge_40 : ok_S 224 40 (sf_i2 mx_add 41) := ok_iadd (by decide +kernel : decode (mb_ 224) 40 = .ok (.iadd, 1))
theorem ok_X12_judge_41 : ok_S 224 41 (sf_ret 0) := ok_ret0 (by decide +kernel : decode (mb_ 224) 41 = .ok (.ireturn, 1)) rfl
theorem ok_X12_judge_42 : ok_S 224 42 (sf_inc 1 1 45) := ok_iinc (by decide +kernel : decode (mb_ 224) 42 = .ok (.iinc 1 1, 3))
theorem ok_X12_judge_45 : ok_S 224 45 (sf_go 22) := ok_goto (by decide +kernel : decode (mb_ 224) 45 = .ok (.goto (-23), 3)) (by decide)
theorem ok_X12_judge_48 : ok_S 224 48 (sf_ld 2 0 49) := ok_aload_n (by decide +kernel : decode (mb_ 224) 48 = .ok (.aload_n 0, 1)) rfl
theorem ok_X12_judge_49 : ok_S 224 49 (sf_gi 13 13 15 52) := ok_gi fd_13_15 (by decide +kernel : decode (mb_ 224) 49 = .ok (.getfield 153, 3)) tw_1141 (Or.inl rfl) rfl
theorem ok_X12_judge_52 : ok_S 224 52 (sf_ld 2 0 53) := ok_aload_n (by decide +kernel : decode (mb_ 224) 52 = .ok (.aload_n 0, 1)) rfl
theorem ok_X12_judge_53 : ok_S 224 53 (sf_gr 13 13 0 56) := ok_gr fd_13_0 (by decide +kernel : decode (mb_ 224) 53 = .ok (.getfield 7, 3)) tw_1126 (Or.inl rfl) rfl
theorem ok_X12_judge_56 : ok_S 224 56 (sf_push (0, 0) 57) := ok_iconst (by decide +kernel : decode (mb_ 224) 56 = .ok (.iconst 0, 1)) ⟨by decide, by decide⟩
theorem ok_X12_judge_57 : ok_S 224 57 (sf_iald 58) := ok_iald (by decide +kernel : decode (mb_ 224) 57 = .ok (.iaload, 1))
theorem ok_X12_judge_58 : ok_S 224 58 (sf_ic 3 65 61) := ok_ic3 (by decide +kernel : decode (mb_ 224) 58 = .ok (.if_icmp .ge 7, 3)) (by decide)
theorem ok_X12_judge_61 : ok_S 224 61 (sf_push (0, 222) 64) := ok_sipush (by decide +kernel : decode (mb_ 224) 61 = .ok (.sipush 222, 3)) ⟨by decide, by decide⟩ (by decide +kernel)
theorem ok_X12_judge_64 : ok_S 224 64 (sf_ret 0) := ok_ret0 (by decide +kernel : decode (mb_ 224) 64 = .ok (.ireturn, 1)) rfl
theorem ok_X12_judge_65 : ok_S 224 65 (sf_push (0, 0) 66) := ok_iconst (by decide +kernel : decode (mb_ 224) 65 = .ok (.iconst 0, 1)) ⟨by decide, by decide⟩
theorem ok_X12_judge_66 : ok_S 224 66 (sf_st 0 1 67) := ok_istore_n (by decide +kernel : decode (mb_ 224) 66 = .ok (.istore_n 1, 1)) rfl
theorem ok_X12_judge_67 : ok_S 224 67 (sf_ld 0 1 68) := ok_iload_n (by decide +kernel : decode (mb_ 224) 67 = .ok (.iload_n 1, 1)) rfl
theorem ok_X12_judge_68 : ok_S 224 68 (sf_ld 2 0 69) := ok_aload_n (by decide +kernel : decode (mb_ 224) 68 = .ok (.aload_n 0, 1)) rfl
theorem ok_X12_judge_69 : ok_S 224 69 (sf_gr 13 13 0 72) := ok_gr fd_13_0 (by decide +kernel : decode (mb_ 224) 69 = .ok (.getfield 7, 3)) tw_1126 (Or.inl rfl) rfl
theorem ok_X12_judge_72 : ok_S 224 72 (sf_push (0, 1) 73) := ok_iconst (by decide +kernel : decode (mb_ 224) 72 = .ok (.iconst 1, 1)) ⟨by decide, by decide⟩
theorem ok_X12_judge_73 : ok_S 224 73 (sf_iald 74) := ok_iald (by decide +kernel : decode (mb_ 224) 73 = .ok (.iaload, 1))
theorem ok_X12_judge_74 : ok_S 224 74 (sf_ic 3 97 77) := ok_ic3 (by decide +kernel : decode (mb_ 224) 74 = .ok (.if_icmp .ge 23, 3)) (by decide)
theorem ok_X12_judge_77 : ok_S 224 77 (sf_ld 2 0 78) := ok_aload_n (by decide +kernel : decode (mb_ 224) 77 = .ok (.aload_n 0, 1)) rfl
theorem ok_X12_judge_78 : ok_S 224 78 (sf_ld 0 1 79) := ok_iload_n (by decide +kernel : decode (mb_ 224) 78 = .ok (.iload_n 1, 1)) rfl
theorem ok_X12_judge_79 : ok_S 224 79 (sf_cv 13 [2, 0] 192 82) := ok_cv mt_192 cl_13 (by decide +kernel : decode (mb_ 224) 79 = .ok (.invokevirtual 195, 3)) tw_1370 tw_1372 ts_51 tw_7 rfl (by decide +kernel) (mh_ok rfl) (by decide) (by decide)
theorem ok_X12_judge_82 : ok_S 224 82 (sf_if 1 91 85) := ok_if1 (by decide +kernel : decode (mb_ 224) 82 = .ok (.ifCond .ne 9, 3)) (by decide)
theorem ok_X12_judge_85 : ok_S 224 85 (sf_push (0, 300) 88) := ok_sipush (by decide +kernel : decode (mb_ 224) 85 = .ok (.sipush 300, 3)) ⟨by decide, by decide⟩ (by decide +kernel)
theorem ok_X12_judge_88 : ok_S 224 88 (sf_ld 0 1 89) := ok_iload_n (by decide +kernel : decode (mb_ 224) 88 = .ok (.iload_n 1, 1)) rfl
theorem ok_X12_judge_89 : ok_S 224 89 (sf_i2 mx_add 90) := ok_iadd (by decide +kernel : decode (mb_ 224) 89 = .ok (.iadd, 1))
theorem ok_X12_judge_90 : ok_S 224 90 (sf_ret 0) := ok_ret0 (by decide +kernel : decode (mb_ 224) 90 = .ok (.ireturn, 1)) rfl
theorem ok_X12_judge_91 : ok_S 224 91 (sf_inc 1 1 94) := ok_iinc (by decide +kernel : decode (mb_ 224) 91 = .ok (.iinc 1 1, 3))
theorem ok_X12_judge_94 : ok_S 224 94 (sf_go 67) := ok_goto (by decide +kernel : decode (mb_ 224) 94 = .ok (.goto (-27), 3)) (by decide)
theorem ok_X12_judge_97 : ok_S 224 97 (sf_push (0, 0) 98) := ok_iconst (by decide +kernel : decode (mb_ 224) 97 = .ok (.iconst 0, 1)) ⟨by decide, by decide⟩
theorem ok_X12_judge_98 : ok_S 224 98 (sf_ret 0) := ok_ret0 (by decide +kernel : decode (mb_ 224) 98 = .ok (.ireturn, 1)) rfl
theorem ok_X12_judge (pc : Nat) : ok_S 224 pc (cd_X12_judge pc) :=
  (ok_bf (ok_bf (ok_bf (ok_bf (ok_bf (ok_bf (ok_lf pc ok_X12_judge_98) (ok_lf pc ok_X12_judge_97)) (ok_bf (ok_lf pc ok_X12_judge_94) (ok_lf pc ok_X12_judge_91))) (ok_bf (ok_bf (ok_lf pc ok_X12_judge_90) (ok_lf pc ok_X12_judge_89)) (ok_bf (ok_lf pc ok_X12_judge_88) (ok_lf pc ok_X12_judge_85)))) (ok_bf (ok_bf (ok_bf (ok_lf pc ok_X12_judge_82) (ok_lf pc ok_X12_judge_79)) (ok_bf (ok_lf pc ok_X12_judge_78) (ok_lf pc ok_X12_judge_77))) (ok_bf (ok_bf (ok_lf pc ok_X12_judge_74) (ok_lf pc ok_X12_judge_73)) (ok_lf pc ok_X12_judge_72)))) (ok_bf (ok_bf (ok_bf (ok_bf (ok_lf pc ok_X12_judge_69) (ok_lf pc ok_X12_judge_68)) (ok_bf (ok_lf pc ok_X12_judge_67) (ok_lf pc ok_X12_judge_66))) (ok_bf (ok_bf (ok_lf pc ok_X12_judge_65) (ok_lf pc ok_X12_judge_64)) (ok_lf pc ok_X12_judge_61))) (ok_bf (ok_bf (ok_bf (ok_lf pc ok_X12_judge_58) (ok_lf pc ok_X12_judge_57)) (ok_bf (ok_lf pc ok_X12_judge_56) (ok_lf pc ok_X12_judge_53))) (ok_bf (ok_bf (ok_lf pc ok_X12_judge_52) (ok_lf pc ok_X12_judge_49)) (ok_lf pc ok_X12_judge_48))))) (ok_bf (ok_bf (ok_bf (ok_bf (ok_bf (ok_lf pc ok_X12_judge_45) (ok_lf pc ok_X12_judge_42)) (ok_bf (ok_lf pc ok_X12_judge_41) (ok_lf pc ok_X12_judge_40))) (ok_bf (ok_bf (ok_lf pc ok_X12_judge_39) (ok_lf pc ok_X12_judge_38)) (ok_lf pc ok_X12_judge_35))) (ok_bf (ok_bf (ok_bf (ok_lf pc ok_X12_judge_32) (ok_lf pc ok_X12_judge_31)) (ok_bf (ok_lf pc ok_X12_judge_30) (ok_lf pc ok_X12_judge_27))) (ok_bf (ok_bf (ok_lf pc ok_X12_judge_24) (ok_lf pc ok_X12_judge_23)) (ok_lf pc ok_X12_judge_22)))) (ok_bf (ok_bf (ok_bf (ok_bf (ok_lf pc ok_X12_judge_21) (ok_lf pc ok_X12_judge_20)) (ok_bf (ok_lf pc ok_X12_judge_17) (ok_lf pc ok_X12_judge_14))) (ok_bf (ok_bf (ok_lf pc ok_X12_judge_13) (ok_lf pc ok_X12_judge_12)) (ok_lf pc ok_X12_judge_11))) (ok_bf (ok_bf (ok_bf (ok_lf pc ok_X12_judge_8) (ok_lf pc ok_X12_judge_7)) (ok_bf (ok_lf pc ok_X12_judge_4) (ok_lf pc ok_X12_judge_3))) (ok_bf (ok_bf (ok_lf pc ok_X12_judge_2) (ok_lf pc ok_X12_judge_1)) (ok_lf pc ok_X12_judge_0))))))
theorem mo_X12_judge (pc : Nat) : mo_S (cd_X12_judge pc) :=
  (mo_bf (mo_bf (mo_bf (mo_bf (mo_bf (mo_bf (mo_bf mo_ret mo_no) (mo_bf mo_push mo_no)) (mo_bf (mo_bf mo_go mo_no) (mo_bf mo_inc mo_no))) (mo_bf (mo_bf (mo_bf mo_ret mo_no) (mo_bf mo_i2 mo_no)) (mo_bf (mo_bf mo_ld mo_no) (mo_bf mo_push mo_no)))) (mo_bf (mo_bf (mo_bf (mo_bf mo_if mo_no) (mo_bf mo_cv mo_no)) (mo_bf (mo_bf mo_ld mo_no) (mo_bf mo_ld mo_no))) (mo_bf (mo_bf (mo_bf mo_ic mo_no) (mo_bf mo_iald mo_no)) (mo_bf mo_push mo_no)))) (mo_bf (mo_bf (mo_bf (mo_bf (mo_bf mo_gr mo_no) (mo_bf mo_ld mo_no)) (mo_bf (mo_bf mo_ld mo_no) (mo_bf mo_st mo_no))) (mo_bf (mo_bf (mo_bf mo_push mo_no) (mo_bf mo_ret mo_no)) (mo_bf mo_push mo_no))) (mo_bf (mo_bf (mo_bf (mo_bf mo_ic mo_no) (mo_bf mo_iald mo_no)) (mo_bf (mo_bf mo_push mo_no) (mo_bf mo_gr mo_no))) (mo_bf (mo_bf (mo_bf mo_ld mo_no) (mo_bf mo_gi mo_no)) (mo_bf mo_ld mo_no))))) (mo_bf (mo_bf (mo_bf (mo_bf (mo_bf (mo_bf mo_go mo_no) (mo_bf mo_inc mo_no)) (mo_bf (mo_bf mo_ret mo_no) (mo_bf mo_i2 mo_no))) (mo_bf (mo_bf (mo_bf mo_ld mo_no) (mo_bf mo_push mo_no)) (mo_bf mo_if mo_no))) (mo_bf (mo_bf (mo_bf (mo_bf mo_cv mo_no) (mo_bf mo_ld mo_no)) (mo_bf (mo_bf mo_ld mo_no) (mo_bf mo_ic mo_no))) (mo_bf (mo_bf (mo_bf mo_gi mo_no) (mo_bf mo_ld mo_no)) (mo_bf mo_ld mo_no)))) (mo_bf (mo_bf (mo_bf (mo_bf (mo_bf mo_st mo_no) (mo_bf mo_push mo_no)) (mo_bf (mo_bf mo_go mo_no) (mo_bf mo_inc mo_no))) (mo_bf (mo_bf (mo_bf mo_iast mo_no) (mo_bf mo_push mo_no)) (mo_bf mo_ld mo_no))) (mo_bf (mo_bf (mo_bf (mo_bf mo_gr mo_no) (mo_bf mo_ld mo_no)) (mo_bf (mo_bf mo_ic mo_no) (mo_bf mo_push mo_no))) (mo_bf (mo_bf (mo_bf mo_ld mo_no) (mo_bf mo_st mo_no)) (mo_bf mo_push mo_no))))))
theorem ok_X12_isSheet_0 : ok_S 225 0 (sf_ld 0 0 1) := ok_iload_n (by decide +kernel : decode (mb_ 225) 0 = .ok (.iload_n 0, 1)) rfl
theorem ok_X12_isSheet_1 : ok_S 225 1 (sf_push (0, 0) 2) := ok_iconst (by decide +kernel : decode (mb_ 225) 1 = .ok (.iconst 0, 1)) ⟨by decide, by decide⟩
theorem ok_X12_isSheet_2 : ok_S 225 2 (sf_push (0, 3) 3) := ok_iconst (by decide +kernel : decode (mb_ 225) 2 = .ok (.iconst 3, 1)) ⟨by decide, by decide⟩
theorem ok_X12_isSheet_3 : ok_S 225 3 (sf_cs [0, 0, 0] 157 6) := ok_cs mt_157 (by decide +kernel : decode (mb_ 225) 3 = .ok (.invokestatic 56, 3)) tw_1206 tw_1207 tw_7 (by decide +kernel) (mh_ok rfl) (by decide) (by decide)
theorem ok_X12_isSheet_6 : ok_S 225 6 (sf_rr 0 1) := ok_rr (by decide +kernel : decode (mb_ 225) 6 = .ok (.ireturn, 1)) rfl (so_nz .boolean rfl rfl)
theorem ok_X12_isSheet (pc : Nat) : ok_S 225 pc (cd_X12_isSheet pc) :=
  (ok_bf (ok_bf (ok_bf (ok_lf pc ok_X12_isSheet_6) (ok_lf pc ok_X12_isSheet_3)) (ok_lf pc ok_X12_isSheet_2)) (ok_bf (ok_lf pc ok_X12_isSheet_1) (ok_lf pc ok_X12_isSheet_0)))
theorem mo_X12_isSheet (pc : Nat) : mo_S (cd_X12_isSheet pc) :=
  (mo_bf (mo_bf (mo_bf (mo_bf mo_rr mo_no) (mo_bf mo_cs mo_no)) (mo_bf mo_push mo_no)) (mo_bf (mo_bf mo_push mo_no) (mo_bf mo_ld mo_no)))
theorem ok_X12_signs_0 : ok_S 226 0 (sf_ld 2 0 1) := ok_aload_n (by decide +kernel : decode (mb_ 226) 0 = .ok (.aload_n 0, 1)) rfl
theorem ok_X12_signs_1 : ok_S 226 1 (sf_ld 0 1 2) := ok_iload_n (by decide +kernel : decode (mb_ 226) 1 = .ok (.iload_n 1, 1)) rfl
theorem ok_X12_signs_2 : ok_S 226 2 (sf_cv 13 [2, 0] 158 5) := ok_cv mt_158 cl_13 (by decide +kernel : decode (mb_ 226) 2 = .ok (.invokevirtual 166, 3)) tw_1297 tw_1299 ts_41 tw_7 rfl (by decide +kernel) (mh_ok rfl) (by decide) (by decide)
theorem ok_X12_signs_5 : ok_S 226 5 (sf_if 0 37 8) := ok_if0 (by decide +kernel : decode (mb_ 226) 5 = .ok (.ifCond .eq 32, 3)) (by decide)
theorem ok_X12_signs_8 : ok_S 226 8 (sf_ld 0 2 9) := ok_iload_n (by decide +kernel : decode (mb_ 226) 8 = .ok (.iload_n 2, 1)) rfl
theorem ok_X12_signs_9 : ok_S 226 9 (sf_cs [0] 225 12) := ok_cs mt_225 (by decide +kernel : decode (mb_ 226) 9 = .ok (.invokestatic 252, 3)) tw_1496 tw_1497 tw_7 (by decide +kernel) (mh_ok rfl) (by decide) (by decide)
theorem ok_X12_signs_12 : ok_S 226 12 (sf_if 0 37 15) := ok_if0 (by decide +kernel : decode (mb_ 226) 12 = .ok (.ifCond .eq 25, 3)) (by decide)
theorem ok_X12_signs_15 : ok_S 226 15 (sf_ld 0 4 17) := ok_iload (by decide +kernel : decode (mb_ 226) 15 = .ok (.iload 4, 2))
theorem ok_X12_signs_17 : ok_S 226 17 (sf_push (0, 0) 18) := ok_iconst (by decide +kernel : decode (mb_ 226) 17 = .ok (.iconst 0, 1)) ⟨by decide, by decide⟩
theorem ok_X12_signs_18 : ok_S 226 18 (sf_push (0, 6) 20) := ok_bipush (by decide +kernel : decode (mb_ 226) 18 = .ok (.bipush 6, 2)) ⟨by decide, by decide⟩ (by decide +kernel)
theorem ok_X12_signs_20 : ok_S 226 20 (sf_cs [0, 0, 0] 157 23) := ok_cs mt_157 (by decide +kernel : decode (mb_ 226) 20 = .ok (.invokestatic 56, 3)) tw_1206 tw_1207 tw_7 (by decide +kernel) (mh_ok rfl) (by decide) (by decide)
theorem ok_X12_signs_23 : ok_S 226 23 (sf_if 0 37 26) := ok_if0 (by decide +kernel : decode (mb_ 226) 23 = .ok (.ifCond .eq 14, 3)) (by decide)
theorem ok_X12_signs_26 : ok_S 226 26 (sf_ld 0 4 28) := ok_iload (by decide +kernel : decode (mb_ 226) 26 = .ok (.iload 4, 2))
theorem ok_X12_signs_28 : ok_S 226 28 (sf_ld 2 0 29) := ok_aload_n (by decide +kernel : decode (mb_ 226) 28 = .ok (.aload_n 0, 1)) rfl
theorem ok_X12_signs_29 : ok_S 226 29 (sf_ld 0 1 30) := ok_iload_n (by decide +kernel : decode (mb_ 226) 29 = .ok (.iload_n 1, 1)) rfl
theorem ok_X12_signs_30 : ok_S 226 30 (sf_push (0, 3) 31) := ok_iconst (by decide +kernel : decode (mb_ 226) 30 = .ok (.iconst 3, 1)) ⟨by decide, by decide⟩
theorem ok_X12_signs_31 : ok_S 226 31 (sf_cv 13 [2, 0, 0] 161 34) := ok_cv mt_161 cl_13 (by decide +kernel : decode (mb_ 226) 31 = .ok (.invokevirtual 162, 3)) tw_1285 tw_1287 ts_40 tw_7 rfl (by decide +kernel) (mh_ok rfl) (by decide) (by decide)
theorem ok_X12_signs_34 : ok_S 226 34 (sf_ic 5 39 37) := ok_ic5 (by decide +kernel : decode (mb_ 226) 34 = .ok (.if_icmp .le 5, 3)) (by decide)
theorem ok_X12_signs_37 : ok_S 226 37 (sf_push (0, (-1)) 38) := ok_iconst (by decide +kernel : decode (mb_ 226) 37 = .ok (.iconst (-1), 1)) ⟨by decide, by decide⟩
theorem ok_X12_signs_38 : ok_S 226 38 (sf_ret 0) := ok_ret0 (by decide +kernel : decode (mb_ 226) 38 = .ok (.ireturn, 1)) rfl
theorem ok_X12_signs_39 : ok_S 226 39 (sf_ld 2 0 40) := ok_aload_n (by decide +kernel : decode (mb_ 226) 39 = .ok (.aload_n 0, 1)) rfl
theorem ok_X12_signs_40 : ok_S 226 40 (sf_gr 13 13 16 43) := ok_gr fd_13_16 (by decide +kernel : decode (mb_ 226) 40 = .ok (.getfield 35, 3)) tw_1142 (Or.inl rfl) rfl
theorem ok_X12_signs_43 : ok_S 226 43 (sf_ld 0 2 44) := ok_iload_n (by decide +kernel : decode (mb_ 226) 43 = .ok (.iload_n 2, 1)) rfl
theorem ok_X12_signs_44 : ok_S 226 44 (sf_iald 45) := ok_iald (by decide +kernel : decode (mb_ 226) 44 = .ok (.iaload, 1))
theorem ok_X12_signs_45 : ok_S 226 45 (sf_if 3 51 48) := ok_if3 (by decide +kernel : decode (mb_ 226) 45 = .ok (.ifCond .ge 6, 3)) (by decide)
theorem ok_X12_signs_48 : ok_S 226 48 (sf_push (0, (-11)) 50) := ok_bipush (by decide +kernel : decode (mb_ 226) 48 = .ok (.bipush (-11), 2)) ⟨by decide, by decide⟩ (by decide +kernel)
theorem ok_X12_signs_50 : ok_S 226 50 (sf_ret 0) := ok_ret0 (by decide +kernel : decode (mb_ 226) 50 = .ok (.ireturn, 1)) rfl
theorem ok_X12_signs_51 : ok_S 226 51 (sf_ld 2 0 52) := ok_aload_n (by decide +kernel : decode (mb_ 226) 51 = .ok (.aload_n 0, 1)) rfl
theorem ok_X12_signs_52 : ok_S 226 52 (sf_gr 13 13 16 55) := ok_gr fd_13_16 (by decide +kernel : decode (mb_ 226) 52 = .ok (.getfield 35, 3)) tw_1142 (Or.inl rfl) rfl
theorem ok_X12_signs_55 : ok_S 226 55 (sf_ld 0 2 56) := ok_iload_n (by decide +kernel : decode (mb_ 226) 55 = .ok (.iload_n 2, 1)) rfl
theorem ok_X12_signs_56 : ok_S 226 56 (sf_iald 57) := ok_iald (by decide +kernel : decode (mb_ 226) 56 = .ok (.iaload, 1))
theorem ok_X12_signs_57 : ok_S 226 57 (sf_if 0 63 60) := ok_if0 (by decide +kernel : decode (mb_ 226) 57 = .ok (.ifCond .eq 6, 3)) (by decide)
theorem ok_X12_signs_60 : ok_S 226 60 (sf_push (0, (-13)) 62) := ok_bipush (by decide +kernel : decode (mb_ 226) 60 = .ok (.bipush (-13), 2)) ⟨by decide, by decide⟩ (by decide +kernel)
theorem ok_X12_signs_62 : ok_S 226 62 (sf_ret 0) := ok_ret0 (by decide +kernel : decode (mb_ 226) 62 = .ok (.ireturn, 1)) rfl
theorem ok_X12_signs_63 : ok_S 226 63 (sf_ld 0 3 64) := ok_iload_n (by decide +kernel : decode (mb_ 226) 63 = .ok (.iload_n 3, 1)) rfl
theorem ok_X12_signs_64 : ok_S 226 64 (sf_if 2 80 67) := ok_if2 (by decide +kernel : decode (mb_ 226) 64 = .ok (.ifCond .lt 16, 3)) (by decide)
theorem ok_X12_signs_67 : ok_S 226 67 (sf_ld 0 3 68) := ok_iload_n (by decide +kernel : decode (mb_ 226) 67 = .ok (.iload_n 3, 1)) rfl
theorem ok_X12_signs_68 : ok_S 226 68 (sf_ld 2 0 69) := ok_aload_n (by decide +kernel : decode (mb_ 226) 68 = .ok (.aload_n 0, 1)) rfl
theorem ok_X12_signs_69 : ok_S 226 69 (sf_gr 13 13 17 72) := ok_gr fd_13_17 (by decide +kernel : decode (mb_ 226) 69 = .ok (.getfield 38, 3)) tw_1143 (Or.inl rfl) rfl
theorem ok_X12_signs_72 : ok_S 226 72 (sf_ld 0 2 73) := ok_iload_n (by decide +kernel : decode (mb_ 226) 72 = .ok (.iload_n 2, 1)) rfl
theorem ok_X12_signs_73 : ok_S 226 73 (sf_iald 74) := ok_iald (by decide +kernel : decode (mb_ 226) 73 = .ok (.iaload, 1))
theorem ok_X12_signs_74 : ok_S 226 74 (sf_ld 0 4 76) := ok_iload (by decide +kernel : decode (mb_ 226) 74 = .ok (.iload 4, 2))
theorem ok_X12_signs_76 : ok_S 226 76 (sf_i2 mx_sub 77) := ok_isub (by decide +kernel : decode (mb_ 226) 76 = .ok (.isub, 1))
theorem ok_X12_signs_77 : ok_S 226 77 (sf_ic 5 83 80) := ok_ic5 (by decide +kernel : decode (mb_ 226) 77 = .ok (.if_icmp .le 6, 3)) (by decide)
theorem ok_X12_signs_80 : ok_S 226 80 (sf_push (0, (-12)) 82) := ok_bipush (by decide +kernel : decode (mb_ 226) 80 = .ok (.bipush (-12), 2)) ⟨by decide, by decide⟩ (by decide +kernel)
theorem ok_X12_signs_82 : ok_S 226 82 (sf_ret 0) := ok_ret0 (by decide +kernel : decode (mb_ 226) 82 = .ok (.ireturn, 1)) rfl
theorem ok_X12_signs_83 : ok_S 226 83 (sf_push (0, 0) 84) := ok_iconst (by decide +kernel : decode (mb_ 226) 83 = .ok (.iconst 0, 1)) ⟨by decide, by decide⟩
theorem ok_X12_signs_84 : ok_S 226 84 (sf_st 0 5 86) := ok_istore (by decide +kernel : decode (mb_ 226) 84 = .ok (.istore 5, 2))
theorem ok_X12_signs_86 : ok_S 226 86 (sf_ld 0 5 88) := ok_iload (by decide +kernel : decode (mb_ 226) 86 = .ok (.iload 5, 2))
theorem ok_X12_signs_88 : ok_S 226 88 (sf_ld 0 4 90) := ok_iload (by decide +kernel : decode (mb_ 226) 88 = .ok (.iload 4, 2))
theorem ok_X12_signs_90 : ok_S 226 90 (sf_ic 3 160 93) := ok_ic3 (by decide +kernel : decode (mb_ 226) 90 = .ok (.if_icmp .ge 70, 3)) (by decide)
theorem ok_X12_signs_93 : ok_S 226 93 (sf_ld 2 0 94) := ok_aload_n (by decide +kernel : decode (mb_ 226) 93 = .ok (.aload_n 0, 1)) rfl
theorem ok_X12_signs_94 : ok_S 226 94 (sf_gr 13 13 18 97) := ok_gr fd_13_18 (by decide +kernel : decode (mb_ 226) 94 = .ok (.getfield 41, 3)) tw_1144 (Or.inl rfl) rfl
theorem ok_X12_signs_97 : ok_S 226 97 (sf_push (0, 40) 99) := ok_bipush (by decide +kernel : decode (mb_ 226) 97 = .ok (.bipush 40, 2)) ⟨by decide, by decide⟩ (by decide +kernel)
theorem ok_X12_signs_99 : ok_S 226 99 (sf_ld 0 2 100) := ok_iload_n (by decide +kernel : decode (mb_ 226) 99 = .ok (.iload_n 2, 1)) rfl
theorem ok_X12_signs_100 : ok_S 226 100 (sf_i2 mx_mul 101) := ok_imul (by decide +kernel : decode (mb_ 226) 100 = .ok (.imul, 1))
theorem ok_X12_signs_101 : ok_S 226 101 (sf_ld 0 3 102) := ok_iload_n (by decide +kernel : decode (mb_ 226) 101 = .ok (.iload_n 3, 1)) rfl
theorem ok_X12_signs_102 : ok_S 226 102 (sf_i2 mx_add 103) := ok_iadd (by decide +kernel : decode (mb_ 226) 102 = .ok (.iadd, 1))
theorem ok_X12_signs_103 : ok_S 226 103 (sf_ld 0 5 105) := ok_iload (by decide +kernel : decode (mb_ 226) 103 = .ok (.iload 5, 2))
theorem ok_X12_signs_105 : ok_S 226 105 (sf_i2 mx_add 106) := ok_iadd (by decide +kernel : decode (mb_ 226) 105 = .ok (.iadd, 1))
theorem ok_X12_signs_106 : ok_S 226 106 (sf_lald 107) := ok_lald (by decide +kernel : decode (mb_ 226) 106 = .ok (.laload, 1))
theorem ok_X12_signs_107 : ok_S 226 107 (sf_st2 6 109) := ok_lstore (by decide +kernel : decode (mb_ 226) 107 = .ok (.lstore 6, 2))
theorem ok_X12_signs_109 : ok_S 226 109 (sf_ld 2 0 110) := ok_aload_n (by decide +kernel : decode (mb_ 226) 109 = .ok (.aload_n 0, 1)) rfl
theorem ok_X12_signs_110 : ok_S 226 110 (sf_gr 13 13 0 113) := ok_gr fd_13_0 (by decide +kernel : decode (mb_ 226) 110 = .ok (.getfield 7, 3)) tw_1126 (Or.inl rfl) rfl
theorem ok_X12_signs_113 : ok_S 226 113 (sf_push (0, 9) 115) := ok_bipush (by decide +kernel : decode (mb_ 226) 113 = .ok (.bipush 9, 2)) ⟨by decide, by decide⟩ (by decide +kernel)
theorem ok_X12_signs_115 : ok_S 226 115 (sf_push (0, 10) 117) := ok_bipush (by decide +kernel : decode (mb_ 226) 115 = .ok (.bipush 10, 2)) ⟨by decide, by decide⟩ (by decide +kernel)
theorem ok_X12_signs_117 : ok_S 226 117 (sf_ld 0 1 118) := ok_iload_n (by decide +kernel : decode (mb_ 226) 117 = .ok (.iload_n 1, 1)) rfl
theorem ok_X12_signs_118 : ok_S 226 118 (sf_i2 mx_mul 119) := ok_imul (by decide +kernel : decode (mb_ 226) 118 = .ok (.imul, 1))
theorem ok_X12_signs_119 : ok_S 226 119 (sf_i2 mx_add 120) := ok_iadd (by decide +kernel : decode (mb_ 226) 119 = .ok (.iadd, 1))
theorem ok_X12_signs_120 : ok_S 226 120 (sf_push (0, 4) 121) := ok_iconst (by decide +kernel : decode (mb_ 226) 120 = .ok (.iconst 4, 1)) ⟨by decide, by decide⟩
theorem ok_X12_signs_121 : ok_S 226 121 (sf_i2 mx_add 122) := ok_iadd (by decide +kernel : decode (mb_ 226) 121 = .ok (.iadd, 1))
theorem ok_X12_signs_122 : ok_S 226 122 (sf_ld 0 5 124) := ok_iload (by decide +kernel : decode (mb_ 226) 122 = .ok (.iload 5, 2))
theorem ok_X12_signs_124 : ok_S 226 124 (sf_i2 mx_add 125) := ok_iadd (by decide +kernel : decode (mb_ 226) 124 = .ok (.iadd, 1))
theorem ok_X12_signs_125 : ok_S 226 125 (sf_ld 1 6 127) := ok_lload (by decide +kernel : decode (mb_ 226) 125 = .ok (.lload 6, 2))
theorem ok_X12_signs_127 : ok_S 226 127 (sf_push (1, 0) 128) := ok_lconst (by decide +kernel : decode (mb_ 226) 127 = .ok (.lconst 0, 1)) ⟨by decide, by decide⟩ rfl
theorem ok_X12_signs_128 : ok_S 226 128 (sf_lcmp 129) := ok_lcmp (by decide +kernel : decode (mb_ 226) 128 = .ok (.lcmp, 1))
theorem ok_X12_signs_129 : ok_S 226 129 (sf_if 3 136 132) := ok_if3 (by decide +kernel : decode (mb_ 226) 129 = .ok (.ifCond .ge 7, 3)) (by decide)
theorem ok_X12_signs_132 : ok_S 226 132 (sf_push (0, 0) 133) := ok_iconst (by decide +kernel : decode (mb_ 226) 132 = .ok (.iconst 0, 1)) ⟨by decide, by decide⟩
theorem ok_X12_signs_133 : ok_S 226 133 (sf_go 153) := ok_goto (by decide +kernel : decode (mb_ 226) 133 = .ok (.goto 20, 3)) (by decide)
theorem ok_X12_signs_136 : ok_S 226 136 (sf_ld 1 6 138) := ok_lload (by decide +kernel : decode (mb_ 226) 136 = .ok (.lload 6, 2))
theorem ok_X12_signs_138 : ok_S 226 138 (sf_push (1, 15) 141) := ok_ldc2 (by decide +kernel : decode (mb_ 226) 138 = .ok (.ldc2_w 255, 3)) ⟨by decide, by decide⟩ tw_1499
theorem ok_X12_signs_141 : ok_S 226 141 (sf_lcmp 142) := ok_lcmp (by decide +kernel : decode (mb_ 226) 141 = .ok (.lcmp, 1))
theorem ok_X12_signs_142 : ok_S 226 142 (sf_if 5 150 145) := ok_if5 (by decide +kernel : decode (mb_ 226) 142 = .ok (.ifCond .le 8, 3)) (by decide)
theorem ok_X12_signs_145 : ok_S 226 145 (sf_push (0, 15) 147) := ok_bipush (by decide +kernel : decode (mb_ 226) 145 = .ok (.bipush 15, 2)) ⟨by decide, by decide⟩ (by decide +kernel)
theorem ok_X12_signs_147 : ok_S 226 147 (sf_go 153) := ok_goto (by decide +kernel : decode (mb_ 226) 147 = .ok (.goto 6, 3)) (by decide)
theorem ok_X12_signs_150 : ok_S 226 150 (sf_ld 1 6 152) := ok_lload (by decide +kernel : decode (mb_ 226) 150 = .ok (.lload 6, 2))
theorem ok_X12_signs_152 : ok_S 226 152 (sf_l2i 153) := ok_l2i (by decide +kernel : decode (mb_ 226) 152 = .ok (.l2i, 1))
theorem ok_X12_signs_153 : ok_S 226 153 (sf_iast 154) := ok_iast (by decide +kernel : decode (mb_ 226) 153 = .ok (.iastore, 1))
theorem ok_X12_signs_154 : ok_S 226 154 (sf_inc 5 1 157) := ok_iinc (by decide +kernel : decode (mb_ 226) 154 = .ok (.iinc 5 1, 3))
theorem ok_X12_signs_157 : ok_S 226 157 (sf_go 86) := ok_goto (by decide +kernel : decode (mb_ 226) 157 = .ok (.goto (-71), 3)) (by decide)
theorem ok_X12_signs_160 : ok_S 226 160 (sf_ld 0 4 162) := ok_iload (by decide +kernel : decode (mb_ 226) 160 = .ok (.iload 4, 2))
theorem ok_X12_signs_162 : ok_S 226 162 (sf_ret 0) := ok_ret0 (by decide +kernel : decode (mb_ 226) 162 = .ok (.ireturn, 1)) rfl
theorem ok_X12_signs (pc : Nat) : ok_S 226 pc (cd_X12_signs pc) :=
  (ok_bf (ok_bf (ok_bf (ok_bf (ok_bf (ok_bf (ok_bf (ok_lf pc ok_X12_signs_162) (ok_lf pc ok_X12_signs_160)) (ok_lf pc ok_X12_signs_157)) (ok_bf (ok_bf (ok_lf pc ok_X12_signs_154) (ok_lf pc ok_X12_signs_153)) (ok_lf pc ok_X12_signs_152))) (ok_bf (ok_bf (ok_bf (ok_lf pc ok_X12_signs_150) (ok_lf pc ok_X12_signs_147)) (ok_lf pc ok_X12_signs_145)) (ok_bf (ok_bf (ok_lf pc ok_X12_signs_142) (ok_lf pc ok_X12_signs_141)) (ok_lf pc ok_X12_signs_138)))) (ok_bf (ok_bf (ok_bf (ok_bf (ok_lf pc ok_X12_signs_136) (ok_lf pc ok_X12_signs_133)) (ok_lf pc ok_X12_signs_132)) (ok_bf (ok_bf (ok_lf pc ok_X12_signs_129) (ok_lf pc ok_X12_signs_128)) (ok_lf pc ok_X12_signs_127))) (ok_bf (ok_bf (ok_bf (ok_lf pc ok_X12_signs_125) (ok_lf pc ok_X12_signs_124)) (ok_lf pc ok_X12_signs_122)) (ok_bf (ok_lf pc ok_X12_signs_121) (ok_lf pc ok_X12_signs_120))))) (ok_bf (ok_bf (ok_bf (ok_bf (ok_bf (ok_lf pc ok_X12_signs_119) (ok_lf pc ok_X12_signs_118)) (ok_lf pc ok_X12_signs_117)) (ok_bf (ok_bf (ok_lf pc ok_X12_signs_115) (ok_lf pc ok_X12_signs_113)) (ok_lf pc ok_X12_signs_110))) (ok_bf (ok_bf (ok_bf (ok_lf pc ok_X12_signs_109) (ok_lf pc ok_X12_signs_107)) (ok_lf pc ok_X12_signs_106)) (ok_bf (ok_bf (ok_lf pc ok_X12_signs_105) (ok_lf pc ok_X12_signs_103)) (ok_lf pc ok_X12_signs_102)))) (ok_bf (ok_bf (ok_bf (ok_bf (ok_lf pc ok_X12_signs_101) (ok_lf pc ok_X12_signs_100)) (ok_lf pc ok_X12_signs_99)) (ok_bf (ok_bf (ok_lf pc ok_X12_signs_97) (ok_lf pc ok_X12_signs_94)) (ok_lf pc ok_X12_signs_93))) (ok_bf (ok_bf (ok_bf (ok_lf pc ok_X12_signs_90) (ok_lf pc ok_X12_signs_88)) (ok_lf pc ok_X12_signs_86)) (ok_bf (ok_lf pc ok_X12_signs_84) (ok_lf pc ok_X12_signs_83)))))) (ok_bf (ok_bf (ok_bf (ok_bf (ok_bf (ok_bf (ok_lf pc ok_X12_signs_82) (ok_lf pc ok_X12_signs_80)) (ok_lf pc ok_X12_signs_77)) (ok_bf (ok_bf (ok_lf pc ok_X12_signs_76) (ok_lf pc ok_X12_signs_74)) (ok_lf pc ok_X12_signs_73))) (ok_bf (ok_bf (ok_bf (ok_lf pc ok_X12_signs_72) (ok_lf pc ok_X12_signs_69)) (ok_lf pc ok_X12_signs_68)) (ok_bf (ok_bf (ok_lf pc ok_X12_signs_67) (ok_lf pc ok_X12_signs_64)) (ok_lf pc ok_X12_signs_63)))) (ok_bf (ok_bf (ok_bf (ok_bf (ok_lf pc ok_X12_signs_62) (ok_lf pc ok_X12_signs_60)) (ok_lf pc ok_X12_signs_57)) (ok_bf (ok_bf (ok_lf pc ok_X12_signs_56) (ok_lf pc ok_X12_signs_55)) (ok_lf pc ok_X12_signs_52))) (ok_bf (ok_bf (ok_bf (ok_lf pc ok_X12_signs_51) (ok_lf pc ok_X12_signs_50)) (ok_lf pc ok_X12_signs_48)) (ok_bf (ok_lf pc ok_X12_signs_45) (ok_lf pc ok_X12_signs_44))))) (ok_bf (ok_bf (ok_bf (ok_bf (ok_bf (ok_lf pc ok_X12_signs_43) (ok_lf pc ok_X12_signs_40)) (ok_lf pc ok_X12_signs_39)) (ok_bf (ok_bf (ok_lf pc ok_X12_signs_38) (ok_lf pc ok_X12_signs_37)) (ok_lf pc ok_X12_signs_34))) (ok_bf (ok_bf (ok_bf (ok_lf pc ok_X12_signs_31) (ok_lf pc ok_X12_signs_30)) (ok_lf pc ok_X12_signs_29)) (ok_bf (ok_bf (ok_lf pc ok_X12_signs_28) (ok_lf pc ok_X12_signs_26)) (ok_lf pc ok_X12_signs_23)))) (ok_bf (ok_bf (ok_bf (ok_bf (ok_lf pc ok_X12_signs_20) (ok_lf pc ok_X12_signs_18)) (ok_lf pc ok_X12_signs_17)) (ok_bf (ok_bf (ok_lf pc ok_X12_signs_15) (ok_lf pc ok_X12_signs_12)) (ok_lf pc ok_X12_signs_9))) (ok_bf (ok_bf (ok_bf (ok_lf pc ok_X12_signs_8) (ok_lf pc ok_X12_signs_5)) (ok_lf pc ok_X12_signs_2)) (ok_bf (ok_lf pc ok_X12_signs_1) (ok_lf pc ok_X12_signs_0)))))))
theorem mo_X12_signs (pc : Nat) : mo_S (cd_X12_signs pc) :=
  (mo_bf (mo_bf (mo_bf (mo_bf (mo_bf (mo_bf (mo_bf (mo_bf mo_ret mo_no) (mo_bf mo_ld mo_no)) (mo_bf mo_go mo_no)) (mo_bf (mo_bf (mo_bf mo_inc mo_no) (mo_bf mo_iast mo_no)) (mo_bf mo_l2i mo_no))) (mo_bf (mo_bf (mo_bf (mo_bf mo_ld mo_no) (mo_bf mo_go mo_no)) (mo_bf mo_push mo_no)) (mo_bf (mo_bf (mo_bf mo_if mo_no) (mo_bf mo_lcmp mo_no)) (mo_bf mo_push mo_no)))) (mo_bf (mo_bf (mo_bf (mo_bf (mo_bf mo_ld mo_no) (mo_bf mo_go mo_no)) (mo_bf mo_push mo_no)) (mo_bf (mo_bf (mo_bf mo_if mo_no) (mo_bf mo_lcmp mo_no)) (mo_bf mo_push mo_no))) (mo_bf (mo_bf (mo_bf (mo_bf mo_ld mo_no) (mo_bf mo_i2 mo_no)) (mo_bf mo_ld mo_no)) (mo_bf (mo_bf mo_i2 mo_no) (mo_bf mo_push mo_no))))) (mo_bf (mo_bf (mo_bf (mo_bf (mo_bf (mo_bf mo_i2 mo_no) (mo_bf mo_i2 mo_no)) (mo_bf mo_ld mo_no)) (mo_bf (mo_bf (mo_bf mo_push mo_no) (mo_bf mo_push mo_no)) (mo_bf mo_gr mo_no))) (mo_bf (mo_bf (mo_bf (mo_bf mo_ld mo_no) (mo_bf mo_st2 mo_no)) (mo_bf mo_lald mo_no)) (mo_bf (mo_bf (mo_bf mo_i2 mo_no) (mo_bf mo_ld mo_no)) (mo_bf mo_i2 mo_no)))) (mo_bf (mo_bf (mo_bf (mo_bf (mo_bf mo_ld mo_no) (mo_bf mo_i2 mo_no)) (mo_bf mo_ld mo_no)) (mo_bf (mo_bf (mo_bf mo_push mo_no) (mo_bf mo_gr mo_no)) (mo_bf mo_ld mo_no))) (mo_bf (mo_bf (mo_bf (mo_bf mo_ic mo_no) (mo_bf mo_ld mo_no)) (mo_bf mo_ld mo_no)) (mo_bf (mo_bf mo_st mo_no) (mo_bf mo_push mo_no)))))) (mo_bf (mo_bf (mo_bf (mo_bf (mo_bf (mo_bf (mo_bf mo_ret mo_no) (mo_bf mo_push mo_no)) (mo_bf mo_ic mo_no)) (mo_bf (mo_bf (mo_bf mo_i2 mo_no) (mo_bf mo_ld mo_no)) (mo_bf mo_iald mo_no))) (mo_bf (mo_bf (mo_bf (mo_bf mo_ld mo_no) (mo_bf mo_gr mo_no)) (mo_bf mo_ld mo_no)) (mo_bf (mo_bf (mo_bf mo_ld mo_no) (mo_bf mo_if mo_no)) (mo_bf mo_ld mo_no)))) (mo_bf (mo_bf (mo_bf (mo_bf (mo_bf mo_ret mo_no) (mo_bf mo_push mo_no)) (mo_bf mo_if mo_no)) (mo_bf (mo_bf (mo_bf mo_iald mo_no) (mo_bf mo_ld mo_no)) (mo_bf mo_gr mo_no))) (mo_bf (mo_bf (mo_bf (mo_bf mo_ld mo_no) (mo_bf mo_ret mo_no)) (mo_bf mo_push mo_no)) (mo_bf (mo_bf mo_if mo_no) (mo_bf mo_iald mo_no))))) (mo_bf (mo_bf (mo_bf (mo_bf (mo_bf (mo_bf mo_ld mo_no) (mo_bf mo_gr mo_no)) (mo_bf mo_ld mo_no)) (mo_bf (mo_bf (mo_bf mo_ret mo_no) (mo_bf mo_push mo_no)) (mo_bf mo_ic mo_no))) (mo_bf (mo_bf (mo_bf (mo_bf mo_cv mo_no) (mo_bf mo_push mo_no)) (mo_bf mo_ld mo_no)) (mo_bf (mo_bf (mo_bf mo_ld mo_no) (mo_bf mo_ld mo_no)) (mo_bf mo_if mo_no)))) (mo_bf (mo_bf (mo_bf (mo_bf (mo_bf mo_cs mo_no) (mo_bf mo_push mo_no)) (mo_bf mo_push mo_no)) (mo_bf (mo_bf (mo_bf mo_ld mo_no) (mo_bf mo_if mo_no)) (mo_bf mo_cs mo_no))) (mo_bf (mo_bf (mo_bf (mo_bf mo_ld mo_no) (mo_bf mo_if mo_no)) (mo_bf mo_cv mo_no)) (mo_bf (mo_bf mo_ld mo_no) (mo_bf mo_ld mo_no)))))))
theorem ok_X12_sheet_0 : ok_S 227 0 (sf_ld 0 1 1) := ok_iload_n (by decide +kernel : decode (mb_ 227) 0 = .ok (.iload_n 1, 1)) rfl
theorem ok_X12_sheet_1 : ok_S 227 1 (sf_cs [0] 225 4) := ok_cs mt_225 (by decide +kernel : decode (mb_ 227) 1 = .ok (.invokestatic 252, 3)) tw_1496 tw_1497 tw_7 (by decide +kernel) (mh_ok rfl) (by decide) (by decide)
theorem ok_X12_sheet_4 : ok_S 227 4 (sf_if 0 26 7) := ok_if0 (by decide +kernel : decode (mb_ 227) 4 = .ok (.ifCond .eq 22, 3)) (by decide)
theorem ok_X12_sheet_7 : ok_S 227 7 (sf_ld 0 2 8) := ok_iload_n (by decide +kernel : decode (mb_ 227) 7 = .ok (.iload_n 2, 1)) rfl
theorem ok_X12_sheet_8 : ok_S 227 8 (sf_push (0, (-1)) 9) := ok_iconst (by decide +kernel : decode (mb_ 227) 8 = .ok (.iconst (-1), 1)) ⟨by decide, by decide⟩
theorem ok_X12_sheet_9 : ok_S 227 9 (sf_push (0, 3) 10) := ok_iconst (by decide +kernel : decode (mb_ 227) 9 = .ok (.iconst 3, 1)) ⟨by decide, by decide⟩
theorem ok_X12_sheet_10 : ok_S 227 10 (sf_cs [0, 0, 0] 157 13) := ok_cs mt_157 (by decide +kernel : decode (mb_ 227) 10 = .ok (.invokestatic 56, 3)) tw_1206 tw_1207 tw_7 (by decide +kernel) (mh_ok rfl) (by decide) (by decide)
theorem ok_X12_sheet_13 : ok_S 227 13 (sf_if 0 26 16) := ok_if0 (by decide +kernel : decode (mb_ 227) 13 = .ok (.ifCond .eq 13, 3)) (by decide)
theorem ok_X12_sheet_16 : ok_S 227 16 (sf_ld 0 2 17) := ok_iload_n (by decide +kernel : decode (mb_ 227) 16 = .ok (.iload_n 2, 1)) rfl
theorem ok_X12_sheet_17 : ok_S 227 17 (sf_if 2 28 20) := ok_if2 (by decide +kernel : decode (mb_ 227) 17 = .ok (.ifCond .lt 11, 3)) (by decide)
theorem ok_X12_sheet_20 : ok_S 227 20 (sf_ld 0 3 21) := ok_iload_n (by decide +kernel : decode (mb_ 227) 20 = .ok (.iload_n 3, 1)) rfl
theorem ok_X12_sheet_21 : ok_S 227 21 (sf_push (0, 40) 23) := ok_bipush (by decide +kernel : decode (mb_ 227) 21 = .ok (.bipush 40, 2)) ⟨by decide, by decide⟩ (by decide +kernel)
theorem ok_X12_sheet_23 : ok_S 227 23 (sf_ic 5 28 26) := ok_ic5 (by decide +kernel : decode (mb_ 227) 23 = .ok (.if_icmp .le 5, 3)) (by decide)
theorem ok_X12_sheet_26 : ok_S 227 26 (sf_push (0, (-1)) 27) := ok_iconst (by decide +kernel : decode (mb_ 227) 26 = .ok (.iconst (-1), 1)) ⟨by decide, by decide⟩
theorem ok_X12_sheet_27 : ok_S 227 27 (sf_ret 0) := ok_ret0 (by decide +kernel : decode (mb_ 227) 27 = .ok (.ireturn, 1)) rfl
theorem ok_X12_sheet_28 : ok_S 227 28 (sf_ld 0 2 29) := ok_iload_n (by decide +kernel : decode (mb_ 227) 28 = .ok (.iload_n 2, 1)) rfl
theorem ok_X12_sheet_29 : ok_S 227 29 (sf_if 2 39 32) := ok_if2 (by decide +kernel : decode (mb_ 227) 29 = .ok (.ifCond .lt 10, 3)) (by decide)
theorem ok_X12_sheet_32 : ok_S 227 32 (sf_ld 0 3 33) := ok_iload_n (by decide +kernel : decode (mb_ 227) 32 = .ok (.iload_n 3, 1)) rfl
theorem ok_X12_sheet_33 : ok_S 227 33 (sf_if 3 39 36) := ok_if3 (by decide +kernel : decode (mb_ 227) 33 = .ok (.ifCond .ge 6, 3)) (by decide)
theorem ok_X12_sheet_36 : ok_S 227 36 (sf_push (0, (-14)) 38) := ok_bipush (by decide +kernel : decode (mb_ 227) 36 = .ok (.bipush (-14), 2)) ⟨by decide, by decide⟩ (by decide +kernel)
theorem ok_X12_sheet_38 : ok_S 227 38 (sf_ret 0) := ok_ret0 (by decide +kernel : decode (mb_ 227) 38 = .ok (.ireturn, 1)) rfl
theorem ok_X12_sheet_39 : ok_S 227 39 (sf_ld 2 0 40) := ok_aload_n (by decide +kernel : decode (mb_ 227) 39 = .ok (.aload_n 0, 1)) rfl
theorem ok_X12_sheet_40 : ok_S 227 40 (sf_gr 13 13 16 43) := ok_gr fd_13_16 (by decide +kernel : decode (mb_ 227) 40 = .ok (.getfield 35, 3)) tw_1142 (Or.inl rfl) rfl
theorem ok_X12_sheet_43 : ok_S 227 43 (sf_ld 0 1 44) := ok_iload_n (by decide +kernel : decode (mb_ 227) 43 = .ok (.iload_n 1, 1)) rfl
theorem ok_X12_sheet_44 : ok_S 227 44 (sf_ld 0 2 45) := ok_iload_n (by decide +kernel : decode (mb_ 227) 44 = .ok (.iload_n 2, 1)) rfl
theorem ok_X12_sheet_45 : ok_S 227 45 (sf_iast 46) := ok_iast (by decide +kernel : decode (mb_ 227) 45 = .ok (.iastore, 1))
theorem ok_X12_sheet_46 : ok_S 227 46 (sf_ld 2 0 47) := ok_aload_n (by decide +kernel : decode (mb_ 227) 46 = .ok (.aload_n 0, 1)) rfl
theorem ok_X12_sheet_47 : ok_S 227 47 (sf_gr 13 13 17 50) := ok_gr fd_13_17 (by decide +kernel : decode (mb_ 227) 47 = .ok (.getfield 38, 3)) tw_1143 (Or.inl rfl) rfl
theorem ok_X12_sheet_50 : ok_S 227 50 (sf_ld 0 1 51) := ok_iload_n (by decide +kernel : decode (mb_ 227) 50 = .ok (.iload_n 1, 1)) rfl
theorem ok_X12_sheet_51 : ok_S 227 51 (sf_ld 0 2 52) := ok_iload_n (by decide +kernel : decode (mb_ 227) 51 = .ok (.iload_n 2, 1)) rfl
theorem ok_X12_sheet_52 : ok_S 227 52 (sf_if 3 59 55) := ok_if3 (by decide +kernel : decode (mb_ 227) 52 = .ok (.ifCond .ge 7, 3)) (by decide)
theorem ok_X12_sheet_55 : ok_S 227 55 (sf_push (0, 0) 56) := ok_iconst (by decide +kernel : decode (mb_ 227) 55 = .ok (.iconst 0, 1)) ⟨by decide, by decide⟩
theorem ok_X12_sheet_56 : ok_S 227 56 (sf_go 60) := ok_goto (by decide +kernel : decode (mb_ 227) 56 = .ok (.goto 4, 3)) (by decide)
theorem ok_X12_sheet_59 : ok_S 227 59 (sf_ld 0 3 60) := ok_iload_n (by decide +kernel : decode (mb_ 227) 59 = .ok (.iload_n 3, 1)) rfl
theorem ok_X12_sheet_60 : ok_S 227 60 (sf_iast 61) := ok_iast (by decide +kernel : decode (mb_ 227) 60 = .ok (.iastore, 1))
theorem ok_X12_sheet_61 : ok_S 227 61 (sf_push (0, 0) 62) := ok_iconst (by decide +kernel : decode (mb_ 227) 61 = .ok (.iconst 0, 1)) ⟨by decide, by decide⟩
theorem ok_X12_sheet_62 : ok_S 227 62 (sf_st 0 4 64) := ok_istore (by decide +kernel : decode (mb_ 227) 62 = .ok (.istore 4, 2))
theorem ok_X12_sheet_64 : ok_S 227 64 (sf_ld 0 4 66) := ok_iload (by decide +kernel : decode (mb_ 227) 64 = .ok (.iload 4, 2))
theorem ok_X12_sheet_66 : ok_S 227 66 (sf_push (0, 40) 68) := ok_bipush (by decide +kernel : decode (mb_ 227) 66 = .ok (.bipush 40, 2)) ⟨by decide, by decide⟩ (by decide +kernel)
theorem ok_X12_sheet_68 : ok_S 227 68 (sf_ic 3 90 71) := ok_ic3 (by decide +kernel : decode (mb_ 227) 68 = .ok (.if_icmp .ge 22, 3)) (by decide)
theorem ok_X12_sheet_71 : ok_S 227 71 (sf_ld 2 0 72) := ok_aload_n (by decide +kernel : decode (mb_ 227) 71 = .ok (.aload_n 0, 1)) rfl
theorem ok_X12_sheet_72 : ok_S 227 72 (sf_gr 13 13 18 75) := ok_gr fd_13_18 (by decide +kernel : decode (mb_ 227) 72 = .ok (.getfield 41, 3)) tw_1144 (Or.inl rfl) rfl
theorem ok_X12_sheet_75 : ok_S 227 75 (sf_push (0, 40) 77) := ok_bipush (by decide +kernel : decode (mb_ 227) 75 = .ok (.bipush 40, 2)) ⟨by decide, by decide⟩ (by decide +kernel)
theorem ok_X12_sheet_77 : ok_S 227 77 (sf_ld 0 1 78) := ok_iload_n (by decide +kernel : decode (mb_ 227) 77 = .ok (.iload_n 1, 1)) rfl
theorem ok_X12_sheet_78 : ok_S 227 78 (sf_i2 mx_mul 79) := ok_imul (by decide +kernel : decode (mb_ 227) 78 = .ok (.imul, 1))
theorem ok_X12_sheet_79 : ok_S 227 79 (sf_ld 0 4 81) := ok_iload (by decide +kernel : decode (mb_ 227) 79 = .ok (.iload 4, 2))
theorem ok_X12_sheet_81 : ok_S 227 81 (sf_i2 mx_add 82) := ok_iadd (by decide +kernel : decode (mb_ 227) 81 = .ok (.iadd, 1))
theorem ok_X12_sheet_82 : ok_S 227 82 (sf_push (1, 0) 83) := ok_lconst (by decide +kernel : decode (mb_ 227) 82 = .ok (.lconst 0, 1)) ⟨by decide, by decide⟩ rfl
theorem ok_X12_sheet_83 : ok_S 227 83 (sf_last 84) := ok_last (by decide +kernel : decode (mb_ 227) 83 = .ok (.lastore, 1))
theorem ok_X12_sheet_84 : ok_S 227 84 (sf_inc 4 1 87) := ok_iinc (by decide +kernel : decode (mb_ 227) 84 = .ok (.iinc 4 1, 3))
theorem ok_X12_sheet_87 : ok_S 227 87 (sf_go 64) := ok_goto (by decide +kernel : decode (mb_ 227) 87 = .ok (.goto (-23), 3)) (by decide)
theorem ok_X12_sheet_90 : ok_S 227 90 (sf_push (0, 1) 91) := ok_iconst (by decide +kernel : decode (mb_ 227) 90 = .ok (.iconst 1, 1)) ⟨by decide, by decide⟩
theorem ok_X12_sheet_91 : ok_S 227 91 (sf_ret 0) := ok_ret0 (by decide +kernel : decode (mb_ 227) 91 = .ok (.ireturn, 1)) rfl
theorem ok_X12_sheet (pc : Nat) : ok_S 227 pc (cd_X12_sheet pc) :=
  (ok_bf (ok_bf (ok_bf (ok_bf (ok_bf (ok_bf (ok_lf pc ok_X12_sheet_91) (ok_lf pc ok_X12_sheet_90)) (ok_bf (ok_lf pc ok_X12_sheet_87) (ok_lf pc ok_X12_sheet_84))) (ok_bf (ok_bf (ok_lf pc ok_X12_sheet_83) (ok_lf pc ok_X12_sheet_82)) (ok_lf pc ok_X12_sheet_81))) (ok_bf (ok_bf (ok_bf (ok_lf pc ok_X12_sheet_79) (ok_lf pc ok_X12_sheet_78)) (ok_bf (ok_lf pc ok_X12_sheet_77) (ok_lf pc ok_X12_sheet_75))) (ok_bf (ok_bf (ok_lf pc ok_X12_sheet_72) (ok_lf pc ok_X12_sheet_71)) (ok_lf pc ok_X12_sheet_68)))) (ok_bf (ok_bf (ok_bf (ok_bf (ok_lf pc ok_X12_sheet_66) (ok_lf pc ok_X12_sheet_64)) (ok_bf (ok_lf pc ok_X12_sheet_62) (ok_lf pc ok_X12_sheet_61))) (ok_bf (ok_bf (ok_lf pc ok_X12_sheet_60) (ok_lf pc ok_X12_sheet_59)) (ok_lf pc ok_X12_sheet_56))) (ok_bf (ok_bf (ok_bf (ok_lf pc ok_X12_sheet_55) (ok_lf pc ok_X12_sheet_52)) (ok_lf pc ok_X12_sheet_51)) (ok_bf (ok_bf (ok_lf pc ok_X12_sheet_50) (ok_lf pc ok_X12_sheet_47)) (ok_lf pc ok_X12_sheet_46))))) (ok_bf (ok_bf (ok_bf (ok_bf (ok_bf (ok_lf pc ok_X12_sheet_45) (ok_lf pc ok_X12_sheet_44)) (ok_bf (ok_lf pc ok_X12_sheet_43) (ok_lf pc ok_X12_sheet_40))) (ok_bf (ok_bf (ok_lf pc ok_X12_sheet_39) (ok_lf pc ok_X12_sheet_38)) (ok_lf pc ok_X12_sheet_36))) (ok_bf (ok_bf (ok_bf (ok_lf pc ok_X12_sheet_33) (ok_lf pc ok_X12_sheet_32)) (ok_lf pc ok_X12_sheet_29)) (ok_bf (ok_bf (ok_lf pc ok_X12_sheet_28) (ok_lf pc ok_X12_sheet_27)) (ok_lf pc ok_X12_sheet_26)))) (ok_bf (ok_bf (ok_bf (ok_bf (ok_lf pc ok_X12_sheet_23) (ok_lf pc ok_X12_sheet_21)) (ok_bf (ok_lf pc ok_X12_sheet_20) (ok_lf pc ok_X12_sheet_17))) (ok_bf (ok_bf (ok_lf pc ok_X12_sheet_16) (ok_lf pc ok_X12_sheet_13)) (ok_lf pc ok_X12_sheet_10))) (ok_bf (ok_bf (ok_bf (ok_lf pc ok_X12_sheet_9) (ok_lf pc ok_X12_sheet_8)) (ok_lf pc ok_X12_sheet_7)) (ok_bf (ok_bf (ok_lf pc ok_X12_sheet_4) (ok_lf pc ok_X12_sheet_1)) (ok_lf pc ok_X12_sheet_0))))))
theorem mo_X12_sheet (pc : Nat) : mo_S (cd_X12_sheet pc) :=
  (mo_bf (mo_bf (mo_bf (mo_bf (mo_bf (mo_bf (mo_bf mo_ret mo_no) (mo_bf mo_push mo_no)) (mo_bf (mo_bf mo_go mo_no) (mo_bf mo_inc mo_no))) (mo_bf (mo_bf (mo_bf mo_last mo_no) (mo_bf mo_push mo_no)) (mo_bf mo_i2 mo_no))) (mo_bf (mo_bf (mo_bf (mo_bf mo_ld mo_no) (mo_bf mo_i2 mo_no)) (mo_bf (mo_bf mo_ld mo_no) (mo_bf mo_push mo_no))) (mo_bf (mo_bf (mo_bf mo_gr mo_no) (mo_bf mo_ld mo_no)) (mo_bf mo_ic mo_no)))) (mo_bf (mo_bf (mo_bf (mo_bf (mo_bf mo_push mo_no) (mo_bf mo_ld mo_no)) (mo_bf (mo_bf mo_st mo_no) (mo_bf mo_push mo_no))) (mo_bf (mo_bf (mo_bf mo_iast mo_no) (mo_bf mo_ld mo_no)) (mo_bf mo_go mo_no))) (mo_bf (mo_bf (mo_bf (mo_bf mo_push mo_no) (mo_bf mo_if mo_no)) (mo_bf mo_ld mo_no)) (mo_bf (mo_bf (mo_bf mo_ld mo_no) (mo_bf mo_gr mo_no)) (mo_bf mo_ld mo_no))))) (mo_bf (mo_bf (mo_bf (mo_bf (mo_bf (mo_bf mo_iast mo_no) (mo_bf mo_ld mo_no)) (mo_bf (mo_bf mo_ld mo_no) (mo_bf mo_gr mo_no))) (mo_bf (mo_bf (mo_bf mo_ld mo_no) (mo_bf mo_ret mo_no)) (mo_bf mo_push mo_no))) (mo_bf (mo_bf (mo_bf (mo_bf mo_if mo_no) (mo_bf mo_ld mo_no)) (mo_bf mo_if mo_no)) (mo_bf (mo_bf (mo_bf mo_ld mo_no) (mo_bf mo_ret mo_no)) (mo_bf mo_push mo_no)))) (mo_bf (mo_bf (mo_bf (mo_bf (mo_bf mo_ic mo_no) (mo_bf mo_push mo_no)) (mo_bf (mo_bf mo_ld mo_no) (mo_bf mo_if mo_no))) (mo_bf (mo_bf (mo_bf mo_ld mo_no) (mo_bf mo_if mo_no)) (mo_bf mo_cs mo_no))) (mo_bf (mo_bf (mo_bf (mo_bf mo_push mo_no) (mo_bf mo_push mo_no)) (mo_bf mo_ld mo_no)) (mo_bf (mo_bf (mo_bf mo_if mo_no) (mo_bf mo_cs mo_no)) (mo_bf mo_ld mo_no))))))
theorem ok_X12_narrowed_0 : ok_S 228 0 (sf_ld 0 0 1) := ok_iload_n (by decide +kernel : decode (mb_ 228) 0 = .ok (.iload_n 0, 1)) rfl
theorem ok_X12_narrowed_1 : ok_S 228 1 (sf_if 1 9 4) := ok_if1 (by decide +kernel : decode (mb_ 228) 1 = .ok (.ifCond .ne 8, 3)) (by decide)
theorem ok_X12_narrowed_4 : ok_S 228 4 (sf_push (0, 24) 6) := ok_bipush (by decide +kernel : decode (mb_ 228) 4 = .ok (.bipush 24, 2)) ⟨by decide, by decide⟩ (by decide +kernel)
theorem ok_X12_narrowed_6 : ok_S 228 6 (sf_go 20) := ok_goto (by decide +kernel : decode (mb_ 228) 6 = .ok (.goto 14, 3)) (by decide)
theorem ok_X12_narrowed_9 : ok_S 228 9 (sf_ld 0 0 10) := ok_iload_n (by decide +kernel : decode (mb_ 228) 9 = .ok (.iload_n 0, 1)) rfl
theorem ok_X12_narrowed_10 : ok_S 228 10 (sf_push (0, 1) 11) := ok_iconst (by decide +kernel : decode (mb_ 228) 10 = .ok (.iconst 1, 1)) ⟨by decide, by decide⟩
theorem ok_X12_narrowed_11 : ok_S 228 11 (sf_ic 1 19 14) := ok_ic1 (by decide +kernel : decode (mb_ 228) 11 = .ok (.if_icmp .ne 8, 3)) (by decide)
theorem ok_X12_narrowed_14 : ok_S 228 14 (sf_push (0, 16) 16) := ok_bipush (by decide +kernel : decode (mb_ 228) 14 = .ok (.bipush 16, 2)) ⟨by decide, by decide⟩ (by decide +kernel)
theorem ok_X12_narrowed_16 : ok_S 228 16 (sf_go 20) := ok_goto (by decide +kernel : decode (mb_ 228) 16 = .ok (.goto 4, 3)) (by decide)
theorem ok_X12_narrowed_19 : ok_S 228 19 (sf_push (0, 0) 20) := ok_iconst (by decide +kernel : decode (mb_ 228) 19 = .ok (.iconst 0, 1)) ⟨by decide, by decide⟩
theorem ok_X12_narrowed_20 : ok_S 228 20 (sf_st 0 2 21) := ok_istore_n (by decide +kernel : decode (mb_ 228) 20 = .ok (.istore_n 2, 1)) rfl
theorem ok_X12_narrowed_21 : ok_S 228 21 (sf_ld 0 1 22) := ok_iload_n (by decide +kernel : decode (mb_ 228) 21 = .ok (.iload_n 1, 1)) rfl
theorem ok_X12_narrowed_22 : ok_S 228 22 (sf_ld 0 2 23) := ok_iload_n (by decide +kernel : decode (mb_ 228) 22 = .ok (.iload_n 2, 1)) rfl
theorem ok_X12_narrowed_23 : ok_S 228 23 (sf_i2 mx_shl 24) := ok_ishl (by decide +kernel : decode (mb_ 228) 23 = .ok (.ishl, 1))
theorem ok_X12_narrowed_24 : ok_S 228 24 (sf_ld 0 2 25) := ok_iload_n (by decide +kernel : decode (mb_ 228) 24 = .ok (.iload_n 2, 1)) rfl
theorem ok_X12_narrowed_25 : ok_S 228 25 (sf_i2 mx_shr 26) := ok_ishr (by decide +kernel : decode (mb_ 228) 25 = .ok (.ishr, 1))
theorem ok_X12_narrowed_26 : ok_S 228 26 (sf_i2l 27) := ok_i2l (by decide +kernel : decode (mb_ 228) 26 = .ok (.i2l, 1))
theorem ok_X12_narrowed_27 : ok_S 228 27 (sf_ret 1) := ok_ret1 (by decide +kernel : decode (mb_ 228) 27 = .ok (.lreturn, 1)) rfl
theorem ok_X12_narrowed (pc : Nat) : ok_S 228 pc (cd_X12_narrowed pc) :=
  (ok_bf (ok_bf (ok_bf (ok_bf (ok_bf (ok_lf pc ok_X12_narrowed_27) (ok_lf pc ok_X12_narrowed_26)) (ok_lf pc ok_X12_narrowed_25)) (ok_bf (ok_lf pc ok_X12_narrowed_24) (ok_lf pc ok_X12_narrowed_23))) (ok_bf (ok_bf (ok_lf pc ok_X12_narrowed_22) (ok_lf pc ok_X12_narrowed_21)) (ok_bf (ok_lf pc ok_X12_narrowed_20) (ok_lf pc ok_X12_narrowed_19)))) (ok_bf (ok_bf (ok_bf (ok_bf (ok_lf pc ok_X12_narrowed_16) (ok_lf pc ok_X12_narrowed_14)) (ok_lf pc ok_X12_narrowed_11)) (ok_bf (ok_lf pc ok_X12_narrowed_10) (ok_lf pc ok_X12_narrowed_9))) (ok_bf (ok_bf (ok_lf pc ok_X12_narrowed_6) (ok_lf pc ok_X12_narrowed_4)) (ok_bf (ok_lf pc ok_X12_narrowed_1) (ok_lf pc ok_X12_narrowed_0)))))
theorem mo_X12_narrowed (pc : Nat) : mo_S (cd_X12_narrowed pc) :=
  (mo_bf (mo_bf (mo_bf (mo_bf (mo_bf (mo_bf mo_ret mo_no) (mo_bf mo_i2l mo_no)) (mo_bf mo_i2 mo_no)) (mo_bf (mo_bf mo_ld mo_no) (mo_bf mo_i2 mo_no))) (mo_bf (mo_bf (mo_bf mo_ld mo_no) (mo_bf mo_ld mo_no)) (mo_bf (mo_bf mo_st mo_no) (mo_bf mo_push mo_no)))) (mo_bf (mo_bf (mo_bf (mo_bf (mo_bf mo_go mo_no) (mo_bf mo_push mo_no)) (mo_bf mo_ic mo_no)) (mo_bf (mo_bf mo_push mo_no) (mo_bf mo_ld mo_no))) (mo_bf (mo_bf (mo_bf mo_go mo_no) (mo_bf mo_push mo_no)) (mo_bf (mo_bf mo_if mo_no) (mo_bf mo_ld mo_no)))))
theorem ok_X12_put_0 : ok_S 229 0 (sf_ld 0 1 1) := ok_iload_n (by decide +kernel : decode (mb_ 229) 0 = .ok (.iload_n 1, 1)) rfl
theorem ok_X12_put_1 : ok_S 229 1 (sf_cs [0] 225 4) := ok_cs mt_225 (by decide +kernel : decode (mb_ 229) 1 = .ok (.invokestatic 252, 3)) tw_1496 tw_1497 tw_7 (by decide +kernel) (mh_ok rfl) (by decide) (by decide)
theorem ok_X12_put_4 : ok_S 229 4 (sf_if 1 9 7) := ok_if1 (by decide +kernel : decode (mb_ 229) 4 = .ok (.ifCond .ne 5, 3)) (by decide)
theorem ok_X12_put_7 : ok_S 229 7 (sf_push (0, (-1)) 8) := ok_iconst (by decide +kernel : decode (mb_ 229) 7 = .ok (.iconst (-1), 1)) ⟨by decide, by decide⟩
theorem ok_X12_put_8 : ok_S 229 8 (sf_ret 0) := ok_ret0 (by decide +kernel : decode (mb_ 229) 8 = .ok (.ireturn, 1)) rfl
theorem ok_X12_put_9 : ok_S 229 9 (sf_ld 2 0 10) := ok_aload_n (by decide +kernel : decode (mb_ 229) 9 = .ok (.aload_n 0, 1)) rfl
theorem ok_X12_put_10 : ok_S 229 10 (sf_gr 13 13 16 13) := ok_gr fd_13_16 (by decide +kernel : decode (mb_ 229) 10 = .ok (.getfield 35, 3)) tw_1142 (Or.inl rfl) rfl
theorem ok_X12_put_13 : ok_S 229 13 (sf_ld 0 1 14) := ok_iload_n (by decide +kernel : decode (mb_ 229) 13 = .ok (.iload_n 1, 1)) rfl
theorem ok_X12_put_14 : ok_S 229 14 (sf_iald 15) := ok_iald (by decide +kernel : decode (mb_ 229) 14 = .ok (.iaload, 1))
theorem ok_X12_put_15 : ok_S 229 15 (sf_if 3 21 18) := ok_if3 (by decide +kernel : decode (mb_ 229) 15 = .ok (.ifCond .ge 6, 3)) (by decide)
theorem ok_X12_put_18 : ok_S 229 18 (sf_push (0, (-11)) 20) := ok_bipush (by decide +kernel : decode (mb_ 229) 18 = .ok (.bipush (-11), 2)) ⟨by decide, by decide⟩ (by decide +kernel)
theorem ok_X12_put_20 : ok_S 229 20 (sf_ret 0) := ok_ret0 (by decide +kernel : decode (mb_ 229) 20 = .ok (.ireturn, 1)) rfl
theorem ok_X12_put_21 : ok_S 229 21 (sf_ld 0 2 22) := ok_iload_n (by decide +kernel : decode (mb_ 229) 21 = .ok (.iload_n 2, 1)) rfl
theorem ok_X12_put_22 : ok_S 229 22 (sf_push (0, 0) 23) := ok_iconst (by decide +kernel : decode (mb_ 229) 22 = .ok (.iconst 0, 1)) ⟨by decide, by decide⟩
theorem ok_X12_put_23 : ok_S 229 23 (sf_ld 2 0 24) := ok_aload_n (by decide +kernel : decode (mb_ 229) 23 = .ok (.aload_n 0, 1)) rfl
theorem ok_X12_put_24 : ok_S 229 24 (sf_gr 13 13 17 27) := ok_gr fd_13_17 (by decide +kernel : decode (mb_ 229) 24 = .ok (.getfield 38, 3)) tw_1143 (Or.inl rfl) rfl
theorem ok_X12_put_27 : ok_S 229 27 (sf_ld 0 1 28) := ok_iload_n (by decide +kernel : decode (mb_ 229) 27 = .ok (.iload_n 1, 1)) rfl
theorem ok_X12_put_28 : ok_S 229 28 (sf_iald 29) := ok_iald (by decide +kernel : decode (mb_ 229) 28 = .ok (.iaload, 1))
theorem ok_X12_put_29 : ok_S 229 29 (sf_push (0, 1) 30) := ok_iconst (by decide +kernel : decode (mb_ 229) 29 = .ok (.iconst 1, 1)) ⟨by decide, by decide⟩
theorem ok_X12_put_30 : ok_S 229 30 (sf_i2 mx_sub 31) := ok_isub (by decide +kernel : decode (mb_ 229) 30 = .ok (.isub, 1))
theorem ok_X12_put_31 : ok_S 229 31 (sf_cs [0, 0, 0] 157 34) := ok_cs mt_157 (by decide +kernel : decode (mb_ 229) 31 = .ok (.invokestatic 56, 3)) tw_1206 tw_1207 tw_7 (by decide +kernel) (mh_ok rfl) (by decide) (by decide)
theorem ok_X12_put_34 : ok_S 229 34 (sf_if 1 40 37) := ok_if1 (by decide +kernel : decode (mb_ 229) 34 = .ok (.ifCond .ne 6, 3)) (by decide)
theorem ok_X12_put_37 : ok_S 229 37 (sf_push (0, (-12)) 39) := ok_bipush (by decide +kernel : decode (mb_ 229) 37 = .ok (.bipush (-12), 2)) ⟨by decide, by decide⟩ (by decide +kernel)
theorem ok_X12_put_39 : ok_S 229 39 (sf_ret 0) := ok_ret0 (by decide +kernel : decode (mb_ 229) 39 = .ok (.ireturn, 1)) rfl
theorem ok_X12_put_40 : ok_S 229 40 (sf_ld 2 0 41) := ok_aload_n (by decide +kernel : decode (mb_ 229) 40 = .ok (.aload_n 0, 1)) rfl
theorem ok_X12_put_41 : ok_S 229 41 (sf_gr 13 13 18 44) := ok_gr fd_13_18 (by decide +kernel : decode (mb_ 229) 41 = .ok (.getfield 41, 3)) tw_1144 (Or.inl rfl) rfl
theorem ok_X12_put_44 : ok_S 229 44 (sf_push (0, 40) 46) := ok_bipush (by decide +kernel : decode (mb_ 229) 44 = .ok (.bipush 40, 2)) ⟨by decide, by decide⟩ (by decide +kernel)
theorem ok_X12_put_46 : ok_S 229 46 (sf_ld 0 1 47) := ok_iload_n (by decide +kernel : decode (mb_ 229) 46 = .ok (.iload_n 1, 1)) rfl
theorem ok_X12_put_47 : ok_S 229 47 (sf_i2 mx_mul 48) := ok_imul (by decide +kernel : decode (mb_ 229) 47 = .ok (.imul, 1))
theorem ok_X12_put_48 : ok_S 229 48 (sf_ld 0 2 49) := ok_iload_n (by decide +kernel : decode (mb_ 229) 48 = .ok (.iload_n 2, 1)) rfl
theorem ok_X12_put_49 : ok_S 229 49 (sf_i2 mx_add 50) := ok_iadd (by decide +kernel : decode (mb_ 229) 49 = .ok (.iadd, 1))
theorem ok_X12_put_50 : ok_S 229 50 (sf_ld 2 0 51) := ok_aload_n (by decide +kernel : decode (mb_ 229) 50 = .ok (.aload_n 0, 1)) rfl
theorem ok_X12_put_51 : ok_S 229 51 (sf_gr 13 13 16 54) := ok_gr fd_13_16 (by decide +kernel : decode (mb_ 229) 51 = .ok (.getfield 35, 3)) tw_1142 (Or.inl rfl) rfl
theorem ok_X12_put_54 : ok_S 229 54 (sf_ld 0 1 55) := ok_iload_n (by decide +kernel : decode (mb_ 229) 54 = .ok (.iload_n 1, 1)) rfl
theorem ok_X12_put_55 : ok_S 229 55 (sf_iald 56) := ok_iald (by decide +kernel : decode (mb_ 229) 55 = .ok (.iaload, 1))
theorem ok_X12_put_56 : ok_S 229 56 (sf_ld 0 3 57) := ok_iload_n (by decide +kernel : decode (mb_ 229) 56 = .ok (.iload_n 3, 1)) rfl
theorem ok_X12_put_57 : ok_S 229 57 (sf_cs [0, 0] 228 60) := ok_cs mt_228 (by decide +kernel : decode (mb_ 229) 57 = .ok (.invokestatic 257, 3)) tw_1508 tw_1509 tw_7 (by decide +kernel) (mh_ok rfl) (by decide) (by decide)
theorem ok_X12_put_60 : ok_S 229 60 (sf_last 61) := ok_last (by decide +kernel : decode (mb_ 229) 60 = .ok (.lastore, 1))
theorem ok_X12_put_61 : ok_S 229 61 (sf_push (0, 1) 62) := ok_iconst (by decide +kernel : decode (mb_ 229) 61 = .ok (.iconst 1, 1)) ⟨by decide, by decide⟩
theorem ok_X12_put_62 : ok_S 229 62 (sf_ret 0) := ok_ret0 (by decide +kernel : decode (mb_ 229) 62 = .ok (.ireturn, 1)) rfl
theorem ok_X12_put (pc : Nat) : ok_S 229 pc (cd_X12_put pc) :=
  (ok_bf (ok_bf (ok_bf (ok_bf (ok_bf (ok_bf (ok_lf pc ok_X12_put_62) (ok_lf pc ok_X12_put_61)) (ok_lf pc ok_X12_put_60)) (ok_bf (ok_lf pc ok_X12_put_57) (ok_lf pc ok_X12_put_56))) (ok_bf (ok_bf (ok_bf (ok_lf pc ok_X12_put_55) (ok_lf pc ok_X12_put_54)) (ok_lf pc ok_X12_put_51)) (ok_bf (ok_lf pc ok_X12_put_50) (ok_lf pc ok_X12_put_49)))) (ok_bf (ok_bf (ok_bf (ok_bf (ok_lf pc ok_X12_put_48) (ok_lf pc ok_X12_put_47)) (ok_lf pc ok_X12_put_46)) (ok_bf (ok_lf pc ok_X12_put_44) (ok_lf pc ok_X12_put_41))) (ok_bf (ok_bf (ok_bf (ok_lf pc ok_X12_put_40) (ok_lf pc ok_X12_put_39)) (ok_lf pc ok_X12_put_37)) (ok_bf (ok_lf pc ok_X12_put_34) (ok_lf pc ok_X12_put_31))))) (ok_bf (ok_bf (ok_bf (ok_bf (ok_bf (ok_lf pc ok_X12_put_30) (ok_lf pc ok_X12_put_29)) (ok_lf pc ok_X12_put_28)) (ok_bf (ok_lf pc ok_X12_put_27) (ok_lf pc ok_X12_put_24))) (ok_bf (ok_bf (ok_bf (ok_lf pc ok_X12_put_23) (ok_lf pc ok_X12_put_22)) (ok_lf pc ok_X12_put_21)) (ok_bf (ok_lf pc ok_X12_put_20) (ok_lf pc ok_X12_put_18)))) (ok_bf (ok_bf (ok_bf (ok_bf (ok_lf pc ok_X12_put_15) (ok_lf pc ok_X12_put_14)) (ok_lf pc ok_X12_put_13)) (ok_bf (ok_lf pc ok_X12_put_10) (ok_lf pc ok_X12_put_9))) (ok_bf (ok_bf (ok_bf (ok_lf pc ok_X12_put_8) (ok_lf pc ok_X12_put_7)) (ok_lf pc ok_X12_put_4)) (ok_bf (ok_lf pc ok_X12_put_1) (ok_lf pc ok_X12_put_0))))))
theorem mo_X12_put (pc : Nat) : mo_S (cd_X12_put pc) :=
  (mo_bf (mo_bf (mo_bf (mo_bf (mo_bf (mo_bf (mo_bf mo_ret mo_no) (mo_bf mo_push mo_no)) (mo_bf mo_last mo_no)) (mo_bf (mo_bf mo_cs mo_no) (mo_bf mo_ld mo_no))) (mo_bf (mo_bf (mo_bf (mo_bf mo_iald mo_no) (mo_bf mo_ld mo_no)) (mo_bf mo_gr mo_no)) (mo_bf (mo_bf mo_ld mo_no) (mo_bf mo_i2 mo_no)))) (mo_bf (mo_bf (mo_bf (mo_bf (mo_bf mo_ld mo_no) (mo_bf mo_i2 mo_no)) (mo_bf mo_ld mo_no)) (mo_bf (mo_bf mo_push mo_no) (mo_bf mo_gr mo_no))) (mo_bf (mo_bf (mo_bf (mo_bf mo_ld mo_no) (mo_bf mo_ret mo_no)) (mo_bf mo_push mo_no)) (mo_bf (mo_bf mo_if mo_no) (mo_bf mo_cs mo_no))))) (mo_bf (mo_bf (mo_bf (mo_bf (mo_bf (mo_bf mo_i2 mo_no) (mo_bf mo_push mo_no)) (mo_bf mo_iald mo_no)) (mo_bf (mo_bf mo_ld mo_no) (mo_bf mo_gr mo_no))) (mo_bf (mo_bf (mo_bf (mo_bf mo_ld mo_no) (mo_bf mo_push mo_no)) (mo_bf mo_ld mo_no)) (mo_bf (mo_bf mo_ret mo_no) (mo_bf mo_push mo_no)))) (mo_bf (mo_bf (mo_bf (mo_bf (mo_bf mo_if mo_no) (mo_bf mo_iald mo_no)) (mo_bf mo_ld mo_no)) (mo_bf (mo_bf mo_gr mo_no) (mo_bf mo_ld mo_no))) (mo_bf (mo_bf (mo_bf (mo_bf mo_ret mo_no) (mo_bf mo_push mo_no)) (mo_bf mo_if mo_no)) (mo_bf (mo_bf mo_cs mo_no) (mo_bf mo_ld mo_no))))))
theorem ok_X12_item_0 : ok_S 230 0 (sf_ld 0 1 1) := ok_iload_n (by decide +kernel : decode (mb_ 230) 0 = .ok (.iload_n 1, 1)) rfl
theorem ok_X12_item_1 : ok_S 230 1 (sf_cs [0] 225 4) := ok_cs mt_225 (by decide +kernel : decode (mb_ 230) 1 = .ok (.invokestatic 252, 3)) tw_1496 tw_1497 tw_7 (by decide +kernel) (mh_ok rfl) (by decide) (by decide)
theorem ok_X12_item_4 : ok_S 230 4 (sf_if 0 16 7) := ok_if0 (by decide +kernel : decode (mb_ 230) 4 = .ok (.ifCond .eq 12, 3)) (by decide)
theorem ok_X12_item_7 : ok_S 230 7 (sf_ld 0 2 8) := ok_iload_n (by decide +kernel : decode (mb_ 230) 7 = .ok (.iload_n 2, 1)) rfl
theorem ok_X12_item_8 : ok_S 230 8 (sf_push (0, 0) 9) := ok_iconst (by decide +kernel : decode (mb_ 230) 8 = .ok (.iconst 0, 1)) ⟨by decide, by decide⟩
theorem ok_X12_item_9 : ok_S 230 9 (sf_push (0, 3) 10) := ok_iconst (by decide +kernel : decode (mb_ 230) 9 = .ok (.iconst 3, 1)) ⟨by decide, by decide⟩
theorem ok_X12_item_10 : ok_S 230 10 (sf_cs [0, 0, 0] 157 13) := ok_cs mt_157 (by decide +kernel : decode (mb_ 230) 10 = .ok (.invokestatic 56, 3)) tw_1206 tw_1207 tw_7 (by decide +kernel) (mh_ok rfl) (by decide) (by decide)
theorem ok_X12_item_13 : ok_S 230 13 (sf_if 1 18 16) := ok_if1 (by decide +kernel : decode (mb_ 230) 13 = .ok (.ifCond .ne 5, 3)) (by decide)
theorem ok_X12_item_16 : ok_S 230 16 (sf_push (0, (-1)) 17) := ok_iconst (by decide +kernel : decode (mb_ 230) 16 = .ok (.iconst (-1), 1)) ⟨by decide, by decide⟩
theorem ok_X12_item_17 : ok_S 230 17 (sf_ret 0) := ok_ret0 (by decide +kernel : decode (mb_ 230) 17 = .ok (.ireturn, 1)) rfl
theorem ok_X12_item_18 : ok_S 230 18 (sf_ld 2 0 19) := ok_aload_n (by decide +kernel : decode (mb_ 230) 18 = .ok (.aload_n 0, 1)) rfl
theorem ok_X12_item_19 : ok_S 230 19 (sf_gr 13 13 16 22) := ok_gr fd_13_16 (by decide +kernel : decode (mb_ 230) 19 = .ok (.getfield 35, 3)) tw_1142 (Or.inl rfl) rfl
theorem ok_X12_item_22 : ok_S 230 22 (sf_ld 0 1 23) := ok_iload_n (by decide +kernel : decode (mb_ 230) 22 = .ok (.iload_n 1, 1)) rfl
theorem ok_X12_item_23 : ok_S 230 23 (sf_iald 24) := ok_iald (by decide +kernel : decode (mb_ 230) 23 = .ok (.iaload, 1))
theorem ok_X12_item_24 : ok_S 230 24 (sf_if 3 30 27) := ok_if3 (by decide +kernel : decode (mb_ 230) 24 = .ok (.ifCond .ge 6, 3)) (by decide)
theorem ok_X12_item_27 : ok_S 230 27 (sf_push (0, (-11)) 29) := ok_bipush (by decide +kernel : decode (mb_ 230) 27 = .ok (.bipush (-11), 2)) ⟨by decide, by decide⟩ (by decide +kernel)
theorem ok_X12_item_29 : ok_S 230 29 (sf_ret 0) := ok_ret0 (by decide +kernel : decode (mb_ 230) 29 = .ok (.ireturn, 1)) rfl
theorem ok_X12_item_30 : ok_S 230 30 (sf_ld 2 0 31) := ok_aload_n (by decide +kernel : decode (mb_ 230) 30 = .ok (.aload_n 0, 1)) rfl
theorem ok_X12_item_31 : ok_S 230 31 (sf_gr 13 13 16 34) := ok_gr fd_13_16 (by decide +kernel : decode (mb_ 230) 31 = .ok (.getfield 35, 3)) tw_1142 (Or.inl rfl) rfl
theorem ok_X12_item_34 : ok_S 230 34 (sf_ld 0 1 35) := ok_iload_n (by decide +kernel : decode (mb_ 230) 34 = .ok (.iload_n 1, 1)) rfl
theorem ok_X12_item_35 : ok_S 230 35 (sf_iald 36) := ok_iald (by decide +kernel : decode (mb_ 230) 35 = .ok (.iaload, 1))
theorem ok_X12_item_36 : ok_S 230 36 (sf_ld 0 2 37) := ok_iload_n (by decide +kernel : decode (mb_ 230) 36 = .ok (.iload_n 2, 1)) rfl
theorem ok_X12_item_37 : ok_S 230 37 (sf_ic 0 43 40) := ok_ic0 (by decide +kernel : decode (mb_ 230) 37 = .ok (.if_icmp .eq 6, 3)) (by decide)
theorem ok_X12_item_40 : ok_S 230 40 (sf_push (0, (-13)) 42) := ok_bipush (by decide +kernel : decode (mb_ 230) 40 = .ok (.bipush (-13), 2)) ⟨by decide, by decide⟩ (by decide +kernel)
theorem ok_X12_item_42 : ok_S 230 42 (sf_ret 0) := ok_ret0 (by decide +kernel : decode (mb_ 230) 42 = .ok (.ireturn, 1)) rfl
theorem ok_X12_item_43 : ok_S 230 43 (sf_ld 0 3 44) := ok_iload_n (by decide +kernel : decode (mb_ 230) 43 = .ok (.iload_n 3, 1)) rfl
theorem ok_X12_item_44 : ok_S 230 44 (sf_push (0, 0) 45) := ok_iconst (by decide +kernel : decode (mb_ 230) 44 = .ok (.iconst 0, 1)) ⟨by decide, by decide⟩
theorem ok_X12_item_45 : ok_S 230 45 (sf_ld 2 0 46) := ok_aload_n (by decide +kernel : decode (mb_ 230) 45 = .ok (.aload_n 0, 1)) rfl
theorem ok_X12_item_46 : ok_S 230 46 (sf_gr 13 13 17 49) := ok_gr fd_13_17 (by decide +kernel : decode (mb_ 230) 46 = .ok (.getfield 38, 3)) tw_1143 (Or.inl rfl) rfl
theorem ok_X12_item_49 : ok_S 230 49 (sf_ld 0 1 50) := ok_iload_n (by decide +kernel : decode (mb_ 230) 49 = .ok (.iload_n 1, 1)) rfl
theorem ok_X12_item_50 : ok_S 230 50 (sf_iald 51) := ok_iald (by decide +kernel : decode (mb_ 230) 50 = .ok (.iaload, 1))
theorem ok_X12_item_51 : ok_S 230 51 (sf_push (0, 1) 52) := ok_iconst (by decide +kernel : decode (mb_ 230) 51 = .ok (.iconst 1, 1)) ⟨by decide, by decide⟩
theorem ok_X12_item_52 : ok_S 230 52 (sf_i2 mx_sub 53) := ok_isub (by decide +kernel : decode (mb_ 230) 52 = .ok (.isub, 1))
theorem ok_X12_item_53 : ok_S 230 53 (sf_cs [0, 0, 0] 157 56) := ok_cs mt_157 (by decide +kernel : decode (mb_ 230) 53 = .ok (.invokestatic 56, 3)) tw_1206 tw_1207 tw_7 (by decide +kernel) (mh_ok rfl) (by decide) (by decide)
theorem ok_X12_item_56 : ok_S 230 56 (sf_if 0 74 59) := ok_if0 (by decide +kernel : decode (mb_ 230) 56 = .ok (.ifCond .eq 18, 3)) (by decide)
theorem ok_X12_item_59 : ok_S 230 59 (sf_ld 2 0 60) := ok_aload_n (by decide +kernel : decode (mb_ 230) 59 = .ok (.aload_n 0, 1)) rfl
theorem ok_X12_item_60 : ok_S 230 60 (sf_gr 13 13 18 63) := ok_gr fd_13_18 (by decide +kernel : decode (mb_ 230) 60 = .ok (.getfield 41, 3)) tw_1144 (Or.inl rfl) rfl
theorem ok_X12_item_63 : ok_S 230 63 (sf_push (0, 40) 65) := ok_bipush (by decide +kernel : decode (mb_ 230) 63 = .ok (.bipush 40, 2)) ⟨by decide, by decide⟩ (by decide +kernel)
theorem ok_X12_item_65 : ok_S 230 65 (sf_ld 0 1 66) := ok_iload_n (by decide +kernel : decode (mb_ 230) 65 = .ok (.iload_n 1, 1)) rfl
theorem ok_X12_item_66 : ok_S 230 66 (sf_i2 mx_mul 67) := ok_imul (by decide +kernel : decode (mb_ 230) 66 = .ok (.imul, 1))
theorem ok_X12_item_67 : ok_S 230 67 (sf_ld 0 3 68) := ok_iload_n (by decide +kernel : decode (mb_ 230) 67 = .ok (.iload_n 3, 1)) rfl
theorem ok_X12_item_68 : ok_S 230 68 (sf_i2 mx_add 69) := ok_iadd (by decide +kernel : decode (mb_ 230) 68 = .ok (.iadd, 1))
theorem ok_X12_item_69 : ok_S 230 69 (sf_lald 70) := ok_lald (by decide +kernel : decode (mb_ 230) 69 = .ok (.laload, 1))
theorem ok_X12_item_70 : ok_S 230 70 (sf_l2i 71) := ok_l2i (by decide +kernel : decode (mb_ 230) 70 = .ok (.l2i, 1))
theorem ok_X12_item_71 : ok_S 230 71 (sf_go 76) := ok_goto (by decide +kernel : decode (mb_ 230) 71 = .ok (.goto 5, 3)) (by decide)
theorem ok_X12_item_74 : ok_S 230 74 (sf_push (0, (-12)) 76) := ok_bipush (by decide +kernel : decode (mb_ 230) 74 = .ok (.bipush (-12), 2)) ⟨by decide, by decide⟩ (by decide +kernel)
theorem ok_X12_item_76 : ok_S 230 76 (sf_ret 0) := ok_ret0 (by decide +kernel : decode (mb_ 230) 76 = .ok (.ireturn, 1)) rfl
theorem ok_X12_item (pc : Nat) : ok_S 230 pc (cd_X12_item pc) :=
  (ok_bf (ok_bf (ok_bf (ok_bf (ok_bf (ok_bf (ok_lf pc ok_X12_item_76) (ok_lf pc ok_X12_item_74)) (ok_lf pc ok_X12_item_71)) (ok_bf (ok_bf (ok_lf pc ok_X12_item_70) (ok_lf pc ok_X12_item_69)) (ok_lf pc ok_X12_item_68))) (ok_bf (ok_bf (ok_bf (ok_lf pc ok_X12_item_67) (ok_lf pc ok_X12_item_66)) (ok_lf pc ok_X12_item_65)) (ok_bf (ok_bf (ok_lf pc ok_X12_item_63) (ok_lf pc ok_X12_item_60)) (ok_lf pc ok_X12_item_59)))) (ok_bf (ok_bf (ok_bf (ok_bf (ok_lf pc ok_X12_item_56) (ok_lf pc ok_X12_item_53)) (ok_lf pc ok_X12_item_52)) (ok_bf (ok_bf (ok_lf pc ok_X12_item_51) (ok_lf pc ok_X12_item_50)) (ok_lf pc ok_X12_item_49))) (ok_bf (ok_bf (ok_bf (ok_lf pc ok_X12_item_46) (ok_lf pc ok_X12_item_45)) (ok_lf pc ok_X12_item_44)) (ok_bf (ok_bf (ok_lf pc ok_X12_item_43) (ok_lf pc ok_X12_item_42)) (ok_lf pc ok_X12_item_40))))) (ok_bf (ok_bf (ok_bf (ok_bf (ok_bf (ok_lf pc ok_X12_item_37) (ok_lf pc ok_X12_item_36)) (ok_lf pc ok_X12_item_35)) (ok_bf (ok_bf (ok_lf pc ok_X12_item_34) (ok_lf pc ok_X12_item_31)) (ok_lf pc ok_X12_item_30))) (ok_bf (ok_bf (ok_bf (ok_lf pc ok_X12_item_29) (ok_lf pc ok_X12_item_27)) (ok_lf pc ok_X12_item_24)) (ok_bf (ok_bf (ok_lf pc ok_X12_item_23) (ok_lf pc ok_X12_item_22)) (ok_lf pc ok_X12_item_19)))) (ok_bf (ok_bf (ok_bf (ok_bf (ok_lf pc ok_X12_item_18) (ok_lf pc ok_X12_item_17)) (ok_lf pc ok_X12_item_16)) (ok_bf (ok_bf (ok_lf pc ok_X12_item_13) (ok_lf pc ok_X12_item_10)) (ok_lf pc ok_X12_item_9))) (ok_bf (ok_bf (ok_bf (ok_lf pc ok_X12_item_8) (ok_lf pc ok_X12_item_7)) (ok_lf pc ok_X12_item_4)) (ok_bf (ok_lf pc ok_X12_item_1) (ok_lf pc ok_X12_item_0))))))
theorem mo_X12_item (pc : Nat) : mo_S (cd_X12_item pc) :=
  (mo_bf (mo_bf (mo_bf (mo_bf (mo_bf (mo_bf (mo_bf mo_ret mo_no) (mo_bf mo_push mo_no)) (mo_bf mo_go mo_no)) (mo_bf (mo_bf (mo_bf mo_l2i mo_no) (mo_bf mo_lald mo_no)) (mo_bf mo_i2 mo_no))) (mo_bf (mo_bf (mo_bf (mo_bf mo_ld mo_no) (mo_bf mo_i2 mo_no)) (mo_bf mo_ld mo_no)) (mo_bf (mo_bf (mo_bf mo_push mo_no) (mo_bf mo_gr mo_no)) (mo_bf mo_ld mo_no)))) (mo_bf (mo_bf (mo_bf (mo_bf (mo_bf mo_if mo_no) (mo_bf mo_cs mo_no)) (mo_bf mo_i2 mo_no)) (mo_bf (mo_bf (mo_bf mo_push mo_no) (mo_bf mo_iald mo_no)) (mo_bf mo_ld mo_no))) (mo_bf (mo_bf (mo_bf (mo_bf mo_gr mo_no) (mo_bf mo_ld mo_no)) (mo_bf mo_push mo_no)) (mo_bf (mo_bf (mo_bf mo_ld mo_no) (mo_bf mo_ret mo_no)) (mo_bf mo_push mo_no))))) (mo_bf (mo_bf (mo_bf (mo_bf (mo_bf (mo_bf mo_ic mo_no) (mo_bf mo_ld mo_no)) (mo_bf mo_iald mo_no)) (mo_bf (mo_bf (mo_bf mo_ld mo_no) (mo_bf mo_gr mo_no)) (mo_bf mo_ld mo_no))) (mo_bf (mo_bf (mo_bf (mo_bf mo_ret mo_no) (mo_bf mo_push mo_no)) (mo_bf mo_if mo_no)) (mo_bf (mo_bf (mo_bf mo_iald mo_no) (mo_bf mo_ld mo_no)) (mo_bf mo_gr mo_no)))) (mo_bf (mo_bf (mo_bf (mo_bf (mo_bf mo_ld mo_no) (mo_bf mo_ret mo_no)) (mo_bf mo_push mo_no)) (mo_bf (mo_bf (mo_bf mo_if mo_no) (mo_bf mo_cs mo_no)) (mo_bf mo_push mo_no))) (mo_bf (mo_bf (mo_bf (mo_bf mo_push mo_no) (mo_bf mo_ld mo_no)) (mo_bf mo_if mo_no)) (mo_bf (mo_bf mo_cs mo_no) (mo_bf mo_ld mo_no))))))
theorem ok_X12_isShelf_0 : ok_S 231 0 (sf_ld 0 0 1) := ok_iload_n (by decide +kernel : decode (mb_ 231) 0 = .ok (.iload_n 0, 1)) rfl
theorem ok_X12_isShelf_1 : ok_S 231 1 (sf_push (0, 0) 2) := ok_iconst (by decide +kernel : decode (mb_ 231) 1 = .ok (.iconst 0, 1)) ⟨by decide, by decide⟩
theorem ok_X12_isShelf_2 : ok_S 231 2 (sf_push (0, 3) 3) := ok_iconst (by decide +kernel : decode (mb_ 231) 2 = .ok (.iconst 3, 1)) ⟨by decide, by decide⟩
theorem ok_X12_isShelf_3 : ok_S 231 3 (sf_cs [0, 0, 0] 157 6) := ok_cs mt_157 (by decide +kernel : decode (mb_ 231) 3 = .ok (.invokestatic 56, 3)) tw_1206 tw_1207 tw_7 (by decide +kernel) (mh_ok rfl) (by decide) (by decide)
theorem ok_X12_isShelf_6 : ok_S 231 6 (sf_rr 0 1) := ok_rr (by decide +kernel : decode (mb_ 231) 6 = .ok (.ireturn, 1)) rfl (so_nz .boolean rfl rfl)
theorem ok_X12_isShelf (pc : Nat) : ok_S 231 pc (cd_X12_isShelf pc) :=
  (ok_bf (ok_bf (ok_bf (ok_lf pc ok_X12_isShelf_6) (ok_lf pc ok_X12_isShelf_3)) (ok_lf pc ok_X12_isShelf_2)) (ok_bf (ok_lf pc ok_X12_isShelf_1) (ok_lf pc ok_X12_isShelf_0)))
theorem mo_X12_isShelf (pc : Nat) : mo_S (cd_X12_isShelf pc) :=
  (mo_bf (mo_bf (mo_bf (mo_bf mo_rr mo_no) (mo_bf mo_cs mo_no)) (mo_bf mo_push mo_no)) (mo_bf (mo_bf mo_push mo_no) (mo_bf mo_ld mo_no)))
theorem ok_X12_shelf_0 : ok_S 232 0 (sf_ld 0 1 1) := ok_iload_n (by decide +kernel : decode (mb_ 232) 0 = .ok (.iload_n 1, 1)) rfl
theorem ok_X12_shelf_1 : ok_S 232 1 (sf_cs [0] 231 4) := ok_cs mt_231 (by decide +kernel : decode (mb_ 232) 1 = .ok (.invokestatic 260, 3)) tw_1519 tw_1520 tw_7 (by decide +kernel) (mh_ok rfl) (by decide) (by decide)
theorem ok_X12_shelf_4 : ok_S 232 4 (sf_if 0 40 7) := ok_if0 (by decide +kernel : decode (mb_ 232) 4 = .ok (.ifCond .eq 36, 3)) (by decide)
theorem ok_X12_shelf_7 : ok_S 232 7 (sf_ld 0 2 8) := ok_iload_n (by decide +kernel : decode (mb_ 232) 7 = .ok (.iload_n 2, 1)) rfl
theorem ok_X12_shelf_8 : ok_S 232 8 (sf_push (0, 0) 9) := ok_iconst (by decide +kernel : decode (mb_ 232) 8 = .ok (.iconst 0, 1)) ⟨by decide, by decide⟩
theorem ok_X12_shelf_9 : ok_S 232 9 (sf_push (0, 2) 10) := ok_iconst (by decide +kernel : decode (mb_ 232) 9 = .ok (.iconst 2, 1)) ⟨by decide, by decide⟩
theorem ok_X12_shelf_10 : ok_S 232 10 (sf_cs [0, 0, 0] 157 13) := ok_cs mt_157 (by decide +kernel : decode (mb_ 232) 10 = .ok (.invokestatic 56, 3)) tw_1206 tw_1207 tw_7 (by decide +kernel) (mh_ok rfl) (by decide) (by decide)
theorem ok_X12_shelf_13 : ok_S 232 13 (sf_if 0 40 16) := ok_if0 (by decide +kernel : decode (mb_ 232) 13 = .ok (.ifCond .eq 27, 3)) (by decide)
theorem ok_X12_shelf_16 : ok_S 232 16 (sf_ld 0 2 17) := ok_iload_n (by decide +kernel : decode (mb_ 232) 16 = .ok (.iload_n 2, 1)) rfl
theorem ok_X12_shelf_17 : ok_S 232 17 (sf_if 1 28 20) := ok_if1 (by decide +kernel : decode (mb_ 232) 17 = .ok (.ifCond .ne 11, 3)) (by decide)
theorem ok_X12_shelf_20 : ok_S 232 20 (sf_ld 2 0 21) := ok_aload_n (by decide +kernel : decode (mb_ 232) 20 = .ok (.aload_n 0, 1)) rfl
theorem ok_X12_shelf_21 : ok_S 232 21 (sf_ld 0 3 22) := ok_iload_n (by decide +kernel : decode (mb_ 232) 21 = .ok (.iload_n 3, 1)) rfl
theorem ok_X12_shelf_22 : ok_S 232 22 (sf_cv 13 [2, 0] 158 25) := ok_cv mt_158 cl_13 (by decide +kernel : decode (mb_ 232) 22 = .ok (.invokevirtual 166, 3)) tw_1297 tw_1299 ts_41 tw_7 rfl (by decide +kernel) (mh_ok rfl) (by decide) (by decide)
theorem ok_X12_shelf_25 : ok_S 232 25 (sf_if 0 40 28) := ok_if0 (by decide +kernel : decode (mb_ 232) 25 = .ok (.ifCond .eq 15, 3)) (by decide)
theorem ok_X12_shelf_28 : ok_S 232 28 (sf_ld 0 2 29) := ok_iload_n (by decide +kernel : decode (mb_ 232) 28 = .ok (.iload_n 2, 1)) rfl
theorem ok_X12_shelf_29 : ok_S 232 29 (sf_push (0, 1) 30) := ok_iconst (by decide +kernel : decode (mb_ 232) 29 = .ok (.iconst 1, 1)) ⟨by decide, by decide⟩
theorem ok_X12_shelf_30 : ok_S 232 30 (sf_ic 1 42 33) := ok_ic1 (by decide +kernel : decode (mb_ 232) 30 = .ok (.if_icmp .ne 12, 3)) (by decide)
theorem ok_X12_shelf_33 : ok_S 232 33 (sf_ld 0 3 34) := ok_iload_n (by decide +kernel : decode (mb_ 232) 33 = .ok (.iload_n 3, 1)) rfl
theorem ok_X12_shelf_34 : ok_S 232 34 (sf_cs [0] 225 37) := ok_cs mt_225 (by decide +kernel : decode (mb_ 232) 34 = .ok (.invokestatic 252, 3)) tw_1496 tw_1497 tw_7 (by decide +kernel) (mh_ok rfl) (by decide) (by decide)
theorem ok_X12_shelf_37 : ok_S 232 37 (sf_if 1 42 40) := ok_if1 (by decide +kernel : decode (mb_ 232) 37 = .ok (.ifCond .ne 5, 3)) (by decide)
theorem ok_X12_shelf_40 : ok_S 232 40 (sf_push (0, (-1)) 41) := ok_iconst (by decide +kernel : decode (mb_ 232) 40 = .ok (.iconst (-1), 1)) ⟨by decide, by decide⟩
theorem ok_X12_shelf_41 : ok_S 232 41 (sf_ret 0) := ok_ret0 (by decide +kernel : decode (mb_ 232) 41 = .ok (.ireturn, 1)) rfl
theorem ok_X12_shelf_42 : ok_S 232 42 (sf_ld 0 2 43) := ok_iload_n (by decide +kernel : decode (mb_ 232) 42 = .ok (.iload_n 2, 1)) rfl
theorem ok_X12_shelf_43 : ok_S 232 43 (sf_push (0, 1) 44) := ok_iconst (by decide +kernel : decode (mb_ 232) 43 = .ok (.iconst 1, 1)) ⟨by decide, by decide⟩
theorem ok_X12_shelf_44 : ok_S 232 44 (sf_ic 1 60 47) := ok_ic1 (by decide +kernel : decode (mb_ 232) 44 = .ok (.if_icmp .ne 16, 3)) (by decide)
theorem ok_X12_shelf_47 : ok_S 232 47 (sf_ld 2 0 48) := ok_aload_n (by decide +kernel : decode (mb_ 232) 47 = .ok (.aload_n 0, 1)) rfl
theorem ok_X12_shelf_48 : ok_S 232 48 (sf_gr 13 13 16 51) := ok_gr fd_13_16 (by decide +kernel : decode (mb_ 232) 48 = .ok (.getfield 35, 3)) tw_1142 (Or.inl rfl) rfl
theorem ok_X12_shelf_51 : ok_S 232 51 (sf_ld 0 3 52) := ok_iload_n (by decide +kernel : decode (mb_ 232) 51 = .ok (.iload_n 3, 1)) rfl
theorem ok_X12_shelf_52 : ok_S 232 52 (sf_iald 53) := ok_iald (by decide +kernel : decode (mb_ 232) 52 = .ok (.iaload, 1))
theorem ok_X12_shelf_53 : ok_S 232 53 (sf_if 2 60 56) := ok_if2 (by decide +kernel : decode (mb_ 232) 53 = .ok (.ifCond .lt 7, 3)) (by decide)
theorem ok_X12_shelf_56 : ok_S 232 56 (sf_push (0, 1) 57) := ok_iconst (by decide +kernel : decode (mb_ 232) 56 = .ok (.iconst 1, 1)) ⟨by decide, by decide⟩
theorem ok_X12_shelf_57 : ok_S 232 57 (sf_go 61) := ok_goto (by decide +kernel : decode (mb_ 232) 57 = .ok (.goto 4, 3)) (by decide)
theorem ok_X12_shelf_60 : ok_S 232 60 (sf_push (0, 0) 61) := ok_iconst (by decide +kernel : decode (mb_ 232) 60 = .ok (.iconst 0, 1)) ⟨by decide, by decide⟩
theorem ok_X12_shelf_61 : ok_S 232 61 (sf_st 0 4 63) := ok_istore (by decide +kernel : decode (mb_ 232) 61 = .ok (.istore 4, 2))
theorem ok_X12_shelf_63 : ok_S 232 63 (sf_ld 2 0 64) := ok_aload_n (by decide +kernel : decode (mb_ 232) 63 = .ok (.aload_n 0, 1)) rfl
theorem ok_X12_shelf_64 : ok_S 232 64 (sf_gr 13 13 19 67) := ok_gr fd_13_19 (by decide +kernel : decode (mb_ 232) 64 = .ok (.getfield 44, 3)) tw_1145 (Or.inl rfl) rfl
theorem ok_X12_shelf_67 : ok_S 232 67 (sf_ld 0 1 68) := ok_iload_n (by decide +kernel : decode (mb_ 232) 67 = .ok (.iload_n 1, 1)) rfl
theorem ok_X12_shelf_68 : ok_S 232 68 (sf_ld 0 2 69) := ok_iload_n (by decide +kernel : decode (mb_ 232) 68 = .ok (.iload_n 2, 1)) rfl
theorem ok_X12_shelf_69 : ok_S 232 69 (sf_if 1 76 72) := ok_if1 (by decide +kernel : decode (mb_ 232) 69 = .ok (.ifCond .ne 7, 3)) (by decide)
theorem ok_X12_shelf_72 : ok_S 232 72 (sf_push (0, 1) 73) := ok_iconst (by decide +kernel : decode (mb_ 232) 72 = .ok (.iconst 1, 1)) ⟨by decide, by decide⟩
theorem ok_X12_shelf_73 : ok_S 232 73 (sf_go 94) := ok_goto (by decide +kernel : decode (mb_ 232) 73 = .ok (.goto 21, 3)) (by decide)
theorem ok_X12_shelf_76 : ok_S 232 76 (sf_ld 0 4 78) := ok_iload (by decide +kernel : decode (mb_ 232) 76 = .ok (.iload 4, 2))
theorem ok_X12_shelf_78 : ok_S 232 78 (sf_if 0 93 81) := ok_if0 (by decide +kernel : decode (mb_ 232) 78 = .ok (.ifCond .eq 15, 3)) (by decide)
theorem ok_X12_shelf_81 : ok_S 232 81 (sf_push (0, 10) 83) := ok_bipush (by decide +kernel : decode (mb_ 232) 81 = .ok (.bipush 10, 2)) ⟨by decide, by decide⟩ (by decide +kernel)
theorem ok_X12_shelf_83 : ok_S 232 83 (sf_ld 2 0 84) := ok_aload_n (by decide +kernel : decode (mb_ 232) 83 = .ok (.aload_n 0, 1)) rfl
theorem ok_X12_shelf_84 : ok_S 232 84 (sf_gr 13 13 16 87) := ok_gr fd_13_16 (by decide +kernel : decode (mb_ 232) 84 = .ok (.getfield 35, 3)) tw_1142 (Or.inl rfl) rfl
theorem ok_X12_shelf_87 : ok_S 232 87 (sf_ld 0 3 88) := ok_iload_n (by decide +kernel : decode (mb_ 232) 87 = .ok (.iload_n 3, 1)) rfl
theorem ok_X12_shelf_88 : ok_S 232 88 (sf_iald 89) := ok_iald (by decide +kernel : decode (mb_ 232) 88 = .ok (.iaload, 1))
theorem ok_X12_shelf_89 : ok_S 232 89 (sf_i2 mx_add 90) := ok_iadd (by decide +kernel : decode (mb_ 232) 89 = .ok (.iadd, 1))
theorem ok_X12_shelf_90 : ok_S 232 90 (sf_go 94) := ok_goto (by decide +kernel : decode (mb_ 232) 90 = .ok (.goto 4, 3)) (by decide)
theorem ok_X12_shelf_93 : ok_S 232 93 (sf_push (0, 0) 94) := ok_iconst (by decide +kernel : decode (mb_ 232) 93 = .ok (.iconst 0, 1)) ⟨by decide, by decide⟩
theorem ok_X12_shelf_94 : ok_S 232 94 (sf_iast 95) := ok_iast (by decide +kernel : decode (mb_ 232) 94 = .ok (.iastore, 1))
theorem ok_X12_shelf_95 : ok_S 232 95 (sf_ld 2 0 96) := ok_aload_n (by decide +kernel : decode (mb_ 232) 95 = .ok (.aload_n 0, 1)) rfl
theorem ok_X12_shelf_96 : ok_S 232 96 (sf_gr 13 13 20 99) := ok_gr fd_13_20 (by decide +kernel : decode (mb_ 232) 96 = .ok (.getfield 47, 3)) tw_1146 (Or.inl rfl) rfl
theorem ok_X12_shelf_99 : ok_S 232 99 (sf_ld 0 1 100) := ok_iload_n (by decide +kernel : decode (mb_ 232) 99 = .ok (.iload_n 1, 1)) rfl
theorem ok_X12_shelf_100 : ok_S 232 100 (sf_ld 0 2 101) := ok_iload_n (by decide +kernel : decode (mb_ 232) 100 = .ok (.iload_n 2, 1)) rfl
theorem ok_X12_shelf_101 : ok_S 232 101 (sf_if 1 108 104) := ok_if1 (by decide +kernel : decode (mb_ 232) 101 = .ok (.ifCond .ne 7, 3)) (by decide)
theorem ok_X12_shelf_104 : ok_S 232 104 (sf_ld 0 3 105) := ok_iload_n (by decide +kernel : decode (mb_ 232) 104 = .ok (.iload_n 3, 1)) rfl
theorem ok_X12_shelf_105 : ok_S 232 105 (sf_go 123) := ok_goto (by decide +kernel : decode (mb_ 232) 105 = .ok (.goto 18, 3)) (by decide)
theorem ok_X12_shelf_108 : ok_S 232 108 (sf_ld 0 4 110) := ok_iload (by decide +kernel : decode (mb_ 232) 108 = .ok (.iload 4, 2))
theorem ok_X12_shelf_110 : ok_S 232 110 (sf_if 0 122 113) := ok_if0 (by decide +kernel : decode (mb_ 232) 110 = .ok (.ifCond .eq 12, 3)) (by decide)
theorem ok_X12_shelf_113 : ok_S 232 113 (sf_ld 2 0 114) := ok_aload_n (by decide +kernel : decode (mb_ 232) 113 = .ok (.aload_n 0, 1)) rfl
theorem ok_X12_shelf_114 : ok_S 232 114 (sf_gr 13 13 17 117) := ok_gr fd_13_17 (by decide +kernel : decode (mb_ 232) 114 = .ok (.getfield 38, 3)) tw_1143 (Or.inl rfl) rfl
theorem ok_X12_shelf_117 : ok_S 232 117 (sf_ld 0 3 118) := ok_iload_n (by decide +kernel : decode (mb_ 232) 117 = .ok (.iload_n 3, 1)) rfl
theorem ok_X12_shelf_118 : ok_S 232 118 (sf_iald 119) := ok_iald (by decide +kernel : decode (mb_ 232) 118 = .ok (.iaload, 1))
theorem ok_X12_shelf_119 : ok_S 232 119 (sf_go 123) := ok_goto (by decide +kernel : decode (mb_ 232) 119 = .ok (.goto 4, 3)) (by decide)
theorem ok_X12_shelf_122 : ok_S 232 122 (sf_push (0, 0) 123) := ok_iconst (by decide +kernel : decode (mb_ 232) 122 = .ok (.iconst 0, 1)) ⟨by decide, by decide⟩
theorem ok_X12_shelf_123 : ok_S 232 123 (sf_iast 124) := ok_iast (by decide +kernel : decode (mb_ 232) 123 = .ok (.iastore, 1))
theorem ok_X12_shelf_124 : ok_S 232 124 (sf_push (0, 1) 125) := ok_iconst (by decide +kernel : decode (mb_ 232) 124 = .ok (.iconst 1, 1)) ⟨by decide, by decide⟩
theorem ok_X12_shelf_125 : ok_S 232 125 (sf_ret 0) := ok_ret0 (by decide +kernel : decode (mb_ 232) 125 = .ok (.ireturn, 1)) rfl
theorem ok_X12_shelf (pc : Nat) : ok_S 232 pc (cd_X12_shelf pc) :=
  (ok_bf (ok_bf (ok_bf (ok_bf (ok_bf (ok_bf (ok_bf (ok_lf pc ok_X12_shelf_125) (ok_lf pc ok_X12_shelf_124)) (ok_lf pc ok_X12_shelf_123)) (ok_bf (ok_lf pc ok_X12_shelf_122) (ok_lf pc ok_X12_shelf_119))) (ok_bf (ok_bf (ok_lf pc ok_X12_shelf_118) (ok_lf pc ok_X12_shelf_117)) (ok_bf (ok_lf pc ok_X12_shelf_114) (ok_lf pc ok_X12_shelf_113)))) (ok_bf (ok_bf (ok_bf (ok_bf (ok_lf pc ok_X12_shelf_110) (ok_lf pc ok_X12_shelf_108)) (ok_lf pc ok_X12_shelf_105)) (ok_bf (ok_lf pc ok_X12_shelf_104) (ok_lf pc ok_X12_shelf_101))) (ok_bf (ok_bf (ok_lf pc ok_X12_shelf_100) (ok_lf pc ok_X12_shelf_99)) (ok_bf (ok_lf pc ok_X12_shelf_96) (ok_lf pc ok_X12_shelf_95))))) (ok_bf (ok_bf (ok_bf (ok_bf (ok_bf (ok_lf pc ok_X12_shelf_94) (ok_lf pc ok_X12_shelf_93)) (ok_lf pc ok_X12_shelf_90)) (ok_bf (ok_lf pc ok_X12_shelf_89) (ok_lf pc ok_X12_shelf_88))) (ok_bf (ok_bf (ok_lf pc ok_X12_shelf_87) (ok_lf pc ok_X12_shelf_84)) (ok_bf (ok_lf pc ok_X12_shelf_83) (ok_lf pc ok_X12_shelf_81)))) (ok_bf (ok_bf (ok_bf (ok_lf pc ok_X12_shelf_78) (ok_lf pc ok_X12_shelf_76)) (ok_bf (ok_lf pc ok_X12_shelf_73) (ok_lf pc ok_X12_shelf_72))) (ok_bf (ok_bf (ok_lf pc ok_X12_shelf_69) (ok_lf pc ok_X12_shelf_68)) (ok_bf (ok_lf pc ok_X12_shelf_67) (ok_lf pc ok_X12_shelf_64)))))) (ok_bf (ok_bf (ok_bf (ok_bf (ok_bf (ok_bf (ok_lf pc ok_X12_shelf_63) (ok_lf pc ok_X12_shelf_61)) (ok_lf pc ok_X12_shelf_60)) (ok_bf (ok_lf pc ok_X12_shelf_57) (ok_lf pc ok_X12_shelf_56))) (ok_bf (ok_bf (ok_lf pc ok_X12_shelf_53) (ok_lf pc ok_X12_shelf_52)) (ok_bf (ok_lf pc ok_X12_shelf_51) (ok_lf pc ok_X12_shelf_48)))) (ok_bf (ok_bf (ok_bf (ok_bf (ok_lf pc ok_X12_shelf_47) (ok_lf pc ok_X12_shelf_44)) (ok_lf pc ok_X12_shelf_43)) (ok_bf (ok_lf pc ok_X12_shelf_42) (ok_lf pc ok_X12_shelf_41))) (ok_bf (ok_bf (ok_lf pc ok_X12_shelf_40) (ok_lf pc ok_X12_shelf_37)) (ok_bf (ok_lf pc ok_X12_shelf_34) (ok_lf pc ok_X12_shelf_33))))) (ok_bf (ok_bf (ok_bf (ok_bf (ok_bf (ok_lf pc ok_X12_shelf_30) (ok_lf pc ok_X12_shelf_29)) (ok_lf pc ok_X12_shelf_28)) (ok_bf (ok_lf pc ok_X12_shelf_25) (ok_lf pc ok_X12_shelf_22))) (ok_bf (ok_bf (ok_lf pc ok_X12_shelf_21) (ok_lf pc ok_X12_shelf_20)) (ok_bf (ok_lf pc ok_X12_shelf_17) (ok_lf pc ok_X12_shelf_16)))) (ok_bf (ok_bf (ok_bf (ok_lf pc ok_X12_shelf_13) (ok_lf pc ok_X12_shelf_10)) (ok_bf (ok_lf pc ok_X12_shelf_9) (ok_lf pc ok_X12_shelf_8))) (ok_bf (ok_bf (ok_lf pc ok_X12_shelf_7) (ok_lf pc ok_X12_shelf_4)) (ok_bf (ok_lf pc ok_X12_shelf_1) (ok_lf pc ok_X12_shelf_0)))))))
theorem mo_X12_shelf (pc : Nat) : mo_S (cd_X12_shelf pc) :=
  (mo_bf (mo_bf (mo_bf (mo_bf (mo_bf (mo_bf (mo_bf (mo_bf mo_ret mo_no) (mo_bf mo_push mo_no)) (mo_bf mo_iast mo_no)) (mo_bf (mo_bf mo_push mo_no) (mo_bf mo_go mo_no))) (mo_bf (mo_bf (mo_bf mo_iald mo_no) (mo_bf mo_ld mo_no)) (mo_bf (mo_bf mo_gr mo_no) (mo_bf mo_ld mo_no)))) (mo_bf (mo_bf (mo_bf (mo_bf (mo_bf mo_if mo_no) (mo_bf mo_ld mo_no)) (mo_bf mo_go mo_no)) (mo_bf (mo_bf mo_ld mo_no) (mo_bf mo_if mo_no))) (mo_bf (mo_bf (mo_bf mo_ld mo_no) (mo_bf mo_ld mo_no)) (mo_bf (mo_bf mo_gr mo_no) (mo_bf mo_ld mo_no))))) (mo_bf (mo_bf (mo_bf (mo_bf (mo_bf (mo_bf mo_iast mo_no) (mo_bf mo_push mo_no)) (mo_bf mo_go mo_no)) (mo_bf (mo_bf mo_i2 mo_no) (mo_bf mo_iald mo_no))) (mo_bf (mo_bf (mo_bf mo_ld mo_no) (mo_bf mo_gr mo_no)) (mo_bf (mo_bf mo_ld mo_no) (mo_bf mo_push mo_no)))) (mo_bf (mo_bf (mo_bf (mo_bf mo_if mo_no) (mo_bf mo_ld mo_no)) (mo_bf (mo_bf mo_go mo_no) (mo_bf mo_push mo_no))) (mo_bf (mo_bf (mo_bf mo_if mo_no) (mo_bf mo_ld mo_no)) (mo_bf (mo_bf mo_ld mo_no) (mo_bf mo_gr mo_no)))))) (mo_bf (mo_bf (mo_bf (mo_bf (mo_bf (mo_bf (mo_bf mo_ld mo_no) (mo_bf mo_st mo_no)) (mo_bf mo_push mo_no)) (mo_bf (mo_bf mo_go mo_no) (mo_bf mo_push mo_no))) (mo_bf (mo_bf (mo_bf mo_if mo_no) (mo_bf mo_iald mo_no)) (mo_bf (mo_bf mo_ld mo_no) (mo_bf mo_gr mo_no)))) (mo_bf (mo_bf (mo_bf (mo_bf (mo_bf mo_ld mo_no) (mo_bf mo_ic mo_no)) (mo_bf mo_push mo_no)) (mo_bf (mo_bf mo_ld mo_no) (mo_bf mo_ret mo_no))) (mo_bf (mo_bf (mo_bf mo_push mo_no) (mo_bf mo_if mo_no)) (mo_bf (mo_bf mo_cs mo_no) (mo_bf mo_ld mo_no))))) (mo_bf (mo_bf (mo_bf (mo_bf (mo_bf (mo_bf mo_ic mo_no) (mo_bf mo_push mo_no)) (mo_bf mo_ld mo_no)) (mo_bf (mo_bf mo_if mo_no) (mo_bf mo_cv mo_no))) (mo_bf (mo_bf (mo_bf mo_ld mo_no) (mo_bf mo_ld mo_no)) (mo_bf (mo_bf mo_if mo_no) (mo_bf mo_ld mo_no)))) (mo_bf (mo_bf (mo_bf (mo_bf mo_if mo_no) (mo_bf mo_cs mo_no)) (mo_bf (mo_bf mo_push mo_no) (mo_bf mo_push mo_no))) (mo_bf (mo_bf (mo_bf mo_ld mo_no) (mo_bf mo_if mo_no)) (mo_bf (mo_bf mo_cs mo_no) (mo_bf mo_ld mo_no)))))))
theorem ok_X12_isEmpty_0 : ok_S 233 0 (sf_ld 2 0 1) := ok_aload_n (by decide +kernel : decode (mb_ 233) 0 = .ok (.aload_n 0, 1)) rfl
theorem ok_X12_isEmpty_1 : ok_S 233 1 (sf_gr 13 13 19 4) := ok_gr fd_13_19 (by decide +kernel : decode (mb_ 233) 1 = .ok (.getfield 44, 3)) tw_1145 (Or.inl rfl) rfl
theorem ok_X12_isEmpty_4 : ok_S 233 4 (sf_ld 0 1 5) := ok_iload_n (by decide +kernel : decode (mb_ 233) 4 = .ok (.iload_n 1, 1)) rfl
theorem ok_X12_isEmpty_5 : ok_S 233 5 (sf_iald 6) := ok_iald (by decide +kernel : decode (mb_ 233) 5 = .ok (.iaload, 1))
theorem ok_X12_isEmpty_6 : ok_S 233 6 (sf_if 0 32 9) := ok_if0 (by decide +kernel : decode (mb_ 233) 6 = .ok (.ifCond .eq 26, 3)) (by decide)
theorem ok_X12_isEmpty_9 : ok_S 233 9 (sf_ld 2 0 10) := ok_aload_n (by decide +kernel : decode (mb_ 233) 9 = .ok (.aload_n 0, 1)) rfl
theorem ok_X12_isEmpty_10 : ok_S 233 10 (sf_gr 13 13 19 13) := ok_gr fd_13_19 (by decide +kernel : decode (mb_ 233) 10 = .ok (.getfield 44, 3)) tw_1145 (Or.inl rfl) rfl
theorem ok_X12_isEmpty_13 : ok_S 233 13 (sf_ld 0 1 14) := ok_iload_n (by decide +kernel : decode (mb_ 233) 13 = .ok (.iload_n 1, 1)) rfl
theorem ok_X12_isEmpty_14 : ok_S 233 14 (sf_iald 15) := ok_iald (by decide +kernel : decode (mb_ 233) 14 = .ok (.iaload, 1))
theorem ok_X12_isEmpty_15 : ok_S 233 15 (sf_push (0, 1) 16) := ok_iconst (by decide +kernel : decode (mb_ 233) 15 = .ok (.iconst 1, 1)) ⟨by decide, by decide⟩
theorem ok_X12_isEmpty_16 : ok_S 233 16 (sf_ic 1 36 19) := ok_ic1 (by decide +kernel : decode (mb_ 233) 16 = .ok (.if_icmp .ne 20, 3)) (by decide)
theorem ok_X12_isEmpty_19 : ok_S 233 19 (sf_ld 2 0 20) := ok_aload_n (by decide +kernel : decode (mb_ 233) 19 = .ok (.aload_n 0, 1)) rfl
theorem ok_X12_isEmpty_20 : ok_S 233 20 (sf_ld 2 0 21) := ok_aload_n (by decide +kernel : decode (mb_ 233) 20 = .ok (.aload_n 0, 1)) rfl
theorem ok_X12_isEmpty_21 : ok_S 233 21 (sf_gr 13 13 20 24) := ok_gr fd_13_20 (by decide +kernel : decode (mb_ 233) 21 = .ok (.getfield 47, 3)) tw_1146 (Or.inl rfl) rfl
theorem ok_X12_isEmpty_24 : ok_S 233 24 (sf_ld 0 1 25) := ok_iload_n (by decide +kernel : decode (mb_ 233) 24 = .ok (.iload_n 1, 1)) rfl
theorem ok_X12_isEmpty_25 : ok_S 233 25 (sf_iald 26) := ok_iald (by decide +kernel : decode (mb_ 233) 25 = .ok (.iaload, 1))
theorem ok_X12_isEmpty_26 : ok_S 233 26 (sf_cv 13 [2, 0] 158 29) := ok_cv mt_158 cl_13 (by decide +kernel : decode (mb_ 233) 26 = .ok (.invokevirtual 166, 3)) tw_1297 tw_1299 ts_41 tw_7 rfl (by decide +kernel) (mh_ok rfl) (by decide) (by decide)
theorem ok_X12_isEmpty_29 : ok_S 233 29 (sf_if 1 36 32) := ok_if1 (by decide +kernel : decode (mb_ 233) 29 = .ok (.ifCond .ne 7, 3)) (by decide)
theorem ok_X12_isEmpty_32 : ok_S 233 32 (sf_push (0, 1) 33) := ok_iconst (by decide +kernel : decode (mb_ 233) 32 = .ok (.iconst 1, 1)) ⟨by decide, by decide⟩
theorem ok_X12_isEmpty_33 : ok_S 233 33 (sf_go 37) := ok_goto (by decide +kernel : decode (mb_ 233) 33 = .ok (.goto 4, 3)) (by decide)
theorem ok_X12_isEmpty_36 : ok_S 233 36 (sf_push (0, 0) 37) := ok_iconst (by decide +kernel : decode (mb_ 233) 36 = .ok (.iconst 0, 1)) ⟨by decide, by decide⟩
theorem ok_X12_isEmpty_37 : ok_S 233 37 (sf_rr 0 1) := ok_rr (by decide +kernel : decode (mb_ 233) 37 = .ok (.ireturn, 1)) rfl (so_nz .boolean rfl rfl)
theorem ok_X12_isEmpty (pc : Nat) : ok_S 233 pc (cd_X12_isEmpty pc) :=
  (ok_bf (ok_bf (ok_bf (ok_bf (ok_bf (ok_lf pc ok_X12_isEmpty_37) (ok_lf pc ok_X12_isEmpty_36)) (ok_lf pc ok_X12_isEmpty_33)) (ok_bf (ok_bf (ok_lf pc ok_X12_isEmpty_32) (ok_lf pc ok_X12_isEmpty_29)) (ok_lf pc ok_X12_isEmpty_26))) (ok_bf (ok_bf (ok_bf (ok_lf pc ok_X12_isEmpty_25) (ok_lf pc ok_X12_isEmpty_24)) (ok_lf pc ok_X12_isEmpty_21)) (ok_bf (ok_lf pc ok_X12_isEmpty_20) (ok_lf pc ok_X12_isEmpty_19)))) (ok_bf (ok_bf (ok_bf (ok_bf (ok_lf pc ok_X12_isEmpty_16) (ok_lf pc ok_X12_isEmpty_15)) (ok_lf pc ok_X12_isEmpty_14)) (ok_bf (ok_bf (ok_lf pc ok_X12_isEmpty_13) (ok_lf pc ok_X12_isEmpty_10)) (ok_lf pc ok_X12_isEmpty_9))) (ok_bf (ok_bf (ok_bf (ok_lf pc ok_X12_isEmpty_6) (ok_lf pc ok_X12_isEmpty_5)) (ok_lf pc ok_X12_isEmpty_4)) (ok_bf (ok_lf pc ok_X12_isEmpty_1) (ok_lf pc ok_X12_isEmpty_0)))))
theorem mo_X12_isEmpty (pc : Nat) : mo_S (cd_X12_isEmpty pc) :=
  (mo_bf (mo_bf (mo_bf (mo_bf (mo_bf (mo_bf mo_rr mo_no) (mo_bf mo_push mo_no)) (mo_bf mo_go mo_no)) (mo_bf (mo_bf (mo_bf mo_push mo_no) (mo_bf mo_if mo_no)) (mo_bf mo_cv mo_no))) (mo_bf (mo_bf (mo_bf (mo_bf mo_iald mo_no) (mo_bf mo_ld mo_no)) (mo_bf mo_gr mo_no)) (mo_bf (mo_bf mo_ld mo_no) (mo_bf mo_ld mo_no)))) (mo_bf (mo_bf (mo_bf (mo_bf (mo_bf mo_ic mo_no) (mo_bf mo_push mo_no)) (mo_bf mo_iald mo_no)) (mo_bf (mo_bf (mo_bf mo_ld mo_no) (mo_bf mo_gr mo_no)) (mo_bf mo_ld mo_no))) (mo_bf (mo_bf (mo_bf (mo_bf mo_if mo_no) (mo_bf mo_iald mo_no)) (mo_bf mo_ld mo_no)) (mo_bf (mo_bf mo_gr mo_no) (mo_bf mo_ld mo_no)))))
theorem ok_X12_isUnder_0 : ok_S 234 0 (sf_ld 0 1 1) := ok_iload_n (by decide +kernel : decode (mb_ 234) 0 = .ok (.iload_n 1, 1)) rfl
theorem ok_X12_isUnder_1 : ok_S 234 1 (sf_if 0 29 4) := ok_if0 (by decide +kernel : decode (mb_ 234) 1 = .ok (.ifCond .eq 28, 3)) (by decide)
theorem ok_X12_isUnder_4 : ok_S 234 4 (sf_ld 0 0 5) := ok_iload_n (by decide +kernel : decode (mb_ 234) 4 = .ok (.iload_n 0, 1)) rfl
theorem ok_X12_isUnder_5 : ok_S 234 5 (sf_ld 0 1 6) := ok_iload_n (by decide +kernel : decode (mb_ 234) 5 = .ok (.iload_n 1, 1)) rfl
theorem ok_X12_isUnder_6 : ok_S 234 6 (sf_ic 0 29 9) := ok_ic0 (by decide +kernel : decode (mb_ 234) 6 = .ok (.if_icmp .eq 23, 3)) (by decide)
theorem ok_X12_isUnder_9 : ok_S 234 9 (sf_ld 0 1 10) := ok_iload_n (by decide +kernel : decode (mb_ 234) 9 = .ok (.iload_n 1, 1)) rfl
theorem ok_X12_isUnder_10 : ok_S 234 10 (sf_push (0, 2) 11) := ok_iconst (by decide +kernel : decode (mb_ 234) 10 = .ok (.iconst 2, 1)) ⟨by decide, by decide⟩
theorem ok_X12_isUnder_11 : ok_S 234 11 (sf_ic 1 19 14) := ok_ic1 (by decide +kernel : decode (mb_ 234) 11 = .ok (.if_icmp .ne 8, 3)) (by decide)
theorem ok_X12_isUnder_14 : ok_S 234 14 (sf_ld 0 0 15) := ok_iload_n (by decide +kernel : decode (mb_ 234) 14 = .ok (.iload_n 0, 1)) rfl
theorem ok_X12_isUnder_15 : ok_S 234 15 (sf_push (0, 3) 16) := ok_iconst (by decide +kernel : decode (mb_ 234) 15 = .ok (.iconst 3, 1)) ⟨by decide, by decide⟩
theorem ok_X12_isUnder_16 : ok_S 234 16 (sf_ic 0 29 19) := ok_ic0 (by decide +kernel : decode (mb_ 234) 16 = .ok (.if_icmp .eq 13, 3)) (by decide)
theorem ok_X12_isUnder_19 : ok_S 234 19 (sf_ld 0 1 20) := ok_iload_n (by decide +kernel : decode (mb_ 234) 19 = .ok (.iload_n 1, 1)) rfl
theorem ok_X12_isUnder_20 : ok_S 234 20 (sf_push (0, 1) 21) := ok_iconst (by decide +kernel : decode (mb_ 234) 20 = .ok (.iconst 1, 1)) ⟨by decide, by decide⟩
theorem ok_X12_isUnder_21 : ok_S 234 21 (sf_ic 1 33 24) := ok_ic1 (by decide +kernel : decode (mb_ 234) 21 = .ok (.if_icmp .ne 12, 3)) (by decide)
theorem ok_X12_isUnder_24 : ok_S 234 24 (sf_ld 0 0 25) := ok_iload_n (by decide +kernel : decode (mb_ 234) 24 = .ok (.iload_n 0, 1)) rfl
theorem ok_X12_isUnder_25 : ok_S 234 25 (sf_push (0, 5) 26) := ok_iconst (by decide +kernel : decode (mb_ 234) 25 = .ok (.iconst 5, 1)) ⟨by decide, by decide⟩
theorem ok_X12_isUnder_26 : ok_S 234 26 (sf_ic 1 33 29) := ok_ic1 (by decide +kernel : decode (mb_ 234) 26 = .ok (.if_icmp .ne 7, 3)) (by decide)
theorem ok_X12_isUnder_29 : ok_S 234 29 (sf_push (0, 1) 30) := ok_iconst (by decide +kernel : decode (mb_ 234) 29 = .ok (.iconst 1, 1)) ⟨by decide, by decide⟩
theorem ok_X12_isUnder_30 : ok_S 234 30 (sf_go 34) := ok_goto (by decide +kernel : decode (mb_ 234) 30 = .ok (.goto 4, 3)) (by decide)
theorem ok_X12_isUnder_33 : ok_S 234 33 (sf_push (0, 0) 34) := ok_iconst (by decide +kernel : decode (mb_ 234) 33 = .ok (.iconst 0, 1)) ⟨by decide, by decide⟩
theorem ok_X12_isUnder_34 : ok_S 234 34 (sf_rr 0 1) := ok_rr (by decide +kernel : decode (mb_ 234) 34 = .ok (.ireturn, 1)) rfl (so_nz .boolean rfl rfl)
theorem ok_X12_isUnder (pc : Nat) : ok_S 234 pc (cd_X12_isUnder pc) :=
  (ok_bf (ok_bf (ok_bf (ok_bf (ok_bf (ok_lf pc ok_X12_isUnder_34) (ok_lf pc ok_X12_isUnder_33)) (ok_lf pc ok_X12_isUnder_30)) (ok_bf (ok_bf (ok_lf pc ok_X12_isUnder_29) (ok_lf pc ok_X12_isUnder_26)) (ok_lf pc ok_X12_isUnder_25))) (ok_bf (ok_bf (ok_bf (ok_lf pc ok_X12_isUnder_24) (ok_lf pc ok_X12_isUnder_21)) (ok_lf pc ok_X12_isUnder_20)) (ok_bf (ok_lf pc ok_X12_isUnder_19) (ok_lf pc ok_X12_isUnder_16)))) (ok_bf (ok_bf (ok_bf (ok_bf (ok_lf pc ok_X12_isUnder_15) (ok_lf pc ok_X12_isUnder_14)) (ok_lf pc ok_X12_isUnder_11)) (ok_bf (ok_lf pc ok_X12_isUnder_10) (ok_lf pc ok_X12_isUnder_9))) (ok_bf (ok_bf (ok_bf (ok_lf pc ok_X12_isUnder_6) (ok_lf pc ok_X12_isUnder_5)) (ok_lf pc ok_X12_isUnder_4)) (ok_bf (ok_lf pc ok_X12_isUnder_1) (ok_lf pc ok_X12_isUnder_0)))))
theorem mo_X12_isUnder (pc : Nat) : mo_S (cd_X12_isUnder pc) :=
  (mo_bf (mo_bf (mo_bf (mo_bf (mo_bf (mo_bf mo_rr mo_no) (mo_bf mo_push mo_no)) (mo_bf mo_go mo_no)) (mo_bf (mo_bf (mo_bf mo_push mo_no) (mo_bf mo_ic mo_no)) (mo_bf mo_push mo_no))) (mo_bf (mo_bf (mo_bf (mo_bf mo_ld mo_no) (mo_bf mo_ic mo_no)) (mo_bf mo_push mo_no)) (mo_bf (mo_bf mo_ld mo_no) (mo_bf mo_ic mo_no)))) (mo_bf (mo_bf (mo_bf (mo_bf (mo_bf mo_push mo_no) (mo_bf mo_ld mo_no)) (mo_bf mo_ic mo_no)) (mo_bf (mo_bf mo_push mo_no) (mo_bf mo_ld mo_no))) (mo_bf (mo_bf (mo_bf (mo_bf mo_ic mo_no) (mo_bf mo_ld mo_no)) (mo_bf mo_ld mo_no)) (mo_bf (mo_bf mo_if mo_no) (mo_bf mo_ld mo_no)))))
theorem ok_X12_taken_0 : ok_S 235 0 (sf_ld 0 1 1) := ok_iload_n (by decide +kernel : decode (mb_ 235) 0 = .ok (.iload_n 1, 1)) rfl
theorem ok_X12_taken_1 : ok_S 235 1 (sf_cs [0] 231 4) := ok_cs mt_231 (by decide +kernel : decode (mb_ 235) 1 = .ok (.invokestatic 260, 3)) tw_1519 tw_1520 tw_7 (by decide +kernel) (mh_ok rfl) (by decide) (by decide)
theorem ok_X12_taken_4 : ok_S 235 4 (sf_if 0 27 7) := ok_if0 (by decide +kernel : decode (mb_ 235) 4 = .ok (.ifCond .eq 23, 3)) (by decide)
theorem ok_X12_taken_7 : ok_S 235 7 (sf_ld 0 2 8) := ok_iload_n (by decide +kernel : decode (mb_ 235) 7 = .ok (.iload_n 2, 1)) rfl
theorem ok_X12_taken_8 : ok_S 235 8 (sf_push (0, 0) 9) := ok_iconst (by decide +kernel : decode (mb_ 235) 8 = .ok (.iconst 0, 1)) ⟨by decide, by decide⟩
theorem ok_X12_taken_9 : ok_S 235 9 (sf_push (0, 5) 10) := ok_iconst (by decide +kernel : decode (mb_ 235) 9 = .ok (.iconst 5, 1)) ⟨by decide, by decide⟩
theorem ok_X12_taken_10 : ok_S 235 10 (sf_cs [0, 0, 0] 157 13) := ok_cs mt_157 (by decide +kernel : decode (mb_ 235) 10 = .ok (.invokestatic 56, 3)) tw_1206 tw_1207 tw_7 (by decide +kernel) (mh_ok rfl) (by decide) (by decide)
theorem ok_X12_taken_13 : ok_S 235 13 (sf_if 1 29 16) := ok_if1 (by decide +kernel : decode (mb_ 235) 13 = .ok (.ifCond .ne 16, 3)) (by decide)
theorem ok_X12_taken_16 : ok_S 235 16 (sf_ld 0 2 17) := ok_iload_n (by decide +kernel : decode (mb_ 235) 16 = .ok (.iload_n 2, 1)) rfl
theorem ok_X12_taken_17 : ok_S 235 17 (sf_push (0, 10) 19) := ok_bipush (by decide +kernel : decode (mb_ 235) 17 = .ok (.bipush 10, 2)) ⟨by decide, by decide⟩ (by decide +kernel)
theorem ok_X12_taken_19 : ok_S 235 19 (sf_push (0, 13) 21) := ok_bipush (by decide +kernel : decode (mb_ 235) 19 = .ok (.bipush 13, 2)) ⟨by decide, by decide⟩ (by decide +kernel)
theorem ok_X12_taken_21 : ok_S 235 21 (sf_cs [0, 0, 0] 157 24) := ok_cs mt_157 (by decide +kernel : decode (mb_ 235) 21 = .ok (.invokestatic 56, 3)) tw_1206 tw_1207 tw_7 (by decide +kernel) (mh_ok rfl) (by decide) (by decide)
theorem ok_X12_taken_24 : ok_S 235 24 (sf_if 1 29 27) := ok_if1 (by decide +kernel : decode (mb_ 235) 24 = .ok (.ifCond .ne 5, 3)) (by decide)
theorem ok_X12_taken_27 : ok_S 235 27 (sf_push (0, (-1)) 28) := ok_iconst (by decide +kernel : decode (mb_ 235) 27 = .ok (.iconst (-1), 1)) ⟨by decide, by decide⟩
theorem ok_X12_taken_28 : ok_S 235 28 (sf_ret 0) := ok_ret0 (by decide +kernel : decode (mb_ 235) 28 = .ok (.ireturn, 1)) rfl
theorem ok_X12_taken_29 : ok_S 235 29 (sf_ld 2 0 30) := ok_aload_n (by decide +kernel : decode (mb_ 235) 29 = .ok (.aload_n 0, 1)) rfl
theorem ok_X12_taken_30 : ok_S 235 30 (sf_ld 0 1 31) := ok_iload_n (by decide +kernel : decode (mb_ 235) 30 = .ok (.iload_n 1, 1)) rfl
theorem ok_X12_taken_31 : ok_S 235 31 (sf_cv 13 [2, 0] 233 34) := ok_cv mt_233 cl_13 (by decide +kernel : decode (mb_ 235) 31 = .ok (.invokevirtual 263, 3)) tw_1526 tw_1528 ts_58 tw_7 rfl (by decide +kernel) (mh_ok rfl) (by decide) (by decide)
theorem ok_X12_taken_34 : ok_S 235 34 (sf_if 0 40 37) := ok_if0 (by decide +kernel : decode (mb_ 235) 34 = .ok (.ifCond .eq 6, 3)) (by decide)
theorem ok_X12_taken_37 : ok_S 235 37 (sf_push (0, (-11)) 39) := ok_bipush (by decide +kernel : decode (mb_ 235) 37 = .ok (.bipush (-11), 2)) ⟨by decide, by decide⟩ (by decide +kernel)
theorem ok_X12_taken_39 : ok_S 235 39 (sf_ret 0) := ok_ret0 (by decide +kernel : decode (mb_ 235) 39 = .ok (.ireturn, 1)) rfl
theorem ok_X12_taken_40 : ok_S 235 40 (sf_ld 2 0 41) := ok_aload_n (by decide +kernel : decode (mb_ 235) 40 = .ok (.aload_n 0, 1)) rfl
theorem ok_X12_taken_41 : ok_S 235 41 (sf_gr 13 13 19 44) := ok_gr fd_13_19 (by decide +kernel : decode (mb_ 235) 41 = .ok (.getfield 44, 3)) tw_1145 (Or.inl rfl) rfl
theorem ok_X12_taken_44 : ok_S 235 44 (sf_ld 0 1 45) := ok_iload_n (by decide +kernel : decode (mb_ 235) 44 = .ok (.iload_n 1, 1)) rfl
theorem ok_X12_taken_45 : ok_S 235 45 (sf_iald 46) := ok_iald (by decide +kernel : decode (mb_ 235) 45 = .ok (.iaload, 1))
theorem ok_X12_taken_46 : ok_S 235 46 (sf_push (0, 1) 47) := ok_iconst (by decide +kernel : decode (mb_ 235) 46 = .ok (.iconst 1, 1)) ⟨by decide, by decide⟩
theorem ok_X12_taken_47 : ok_S 235 47 (sf_ic 1 86 50) := ok_ic1 (by decide +kernel : decode (mb_ 235) 47 = .ok (.if_icmp .ne 39, 3)) (by decide)
theorem ok_X12_taken_50 : ok_S 235 50 (sf_ld 0 2 51) := ok_iload_n (by decide +kernel : decode (mb_ 235) 50 = .ok (.iload_n 2, 1)) rfl
theorem ok_X12_taken_51 : ok_S 235 51 (sf_push (0, 6) 53) := ok_bipush (by decide +kernel : decode (mb_ 235) 51 = .ok (.bipush 6, 2)) ⟨by decide, by decide⟩ (by decide +kernel)
theorem ok_X12_taken_53 : ok_S 235 53 (sf_ic 3 83 56) := ok_ic3 (by decide +kernel : decode (mb_ 235) 53 = .ok (.if_icmp .ge 30, 3)) (by decide)
theorem ok_X12_taken_56 : ok_S 235 56 (sf_ld 2 0 57) := ok_aload_n (by decide +kernel : decode (mb_ 235) 56 = .ok (.aload_n 0, 1)) rfl
theorem ok_X12_taken_57 : ok_S 235 57 (sf_ld 2 0 58) := ok_aload_n (by decide +kernel : decode (mb_ 235) 57 = .ok (.aload_n 0, 1)) rfl
theorem ok_X12_taken_58 : ok_S 235 58 (sf_gr 13 13 20 61) := ok_gr fd_13_20 (by decide +kernel : decode (mb_ 235) 58 = .ok (.getfield 47, 3)) tw_1146 (Or.inl rfl) rfl
theorem ok_X12_taken_61 : ok_S 235 61 (sf_ld 0 1 62) := ok_iload_n (by decide +kernel : decode (mb_ 235) 61 = .ok (.iload_n 1, 1)) rfl
theorem ok_X12_taken_62 : ok_S 235 62 (sf_iald 63) := ok_iald (by decide +kernel : decode (mb_ 235) 62 = .ok (.iaload, 1))
theorem ok_X12_taken_63 : ok_S 235 63 (sf_push (0, 0) 64) := ok_iconst (by decide +kernel : decode (mb_ 235) 63 = .ok (.iconst 0, 1)) ⟨by decide, by decide⟩
theorem ok_X12_taken_64 : ok_S 235 64 (sf_cv 13 [2, 0, 0] 161 67) := ok_cv mt_161 cl_13 (by decide +kernel : decode (mb_ 235) 64 = .ok (.invokevirtual 162, 3)) tw_1285 tw_1287 ts_40 tw_7 rfl (by decide +kernel) (mh_ok rfl) (by decide) (by decide)
theorem ok_X12_taken_67 : ok_S 235 67 (sf_ld 0 2 68) := ok_iload_n (by decide +kernel : decode (mb_ 235) 67 = .ok (.iload_n 2, 1)) rfl
theorem ok_X12_taken_68 : ok_S 235 68 (sf_cs [0, 0] 234 71) := ok_cs mt_234 (by decide +kernel : decode (mb_ 235) 68 = .ok (.invokestatic 266, 3)) tw_1530 tw_1531 tw_7 (by decide +kernel) (mh_ok rfl) (by decide) (by decide)
theorem ok_X12_taken_71 : ok_S 235 71 (sf_if 0 83 74) := ok_if0 (by decide +kernel : decode (mb_ 235) 71 = .ok (.ifCond .eq 12, 3)) (by decide)
theorem ok_X12_taken_74 : ok_S 235 74 (sf_ld 2 0 75) := ok_aload_n (by decide +kernel : decode (mb_ 235) 74 = .ok (.aload_n 0, 1)) rfl
theorem ok_X12_taken_75 : ok_S 235 75 (sf_gr 13 13 20 78) := ok_gr fd_13_20 (by decide +kernel : decode (mb_ 235) 75 = .ok (.getfield 47, 3)) tw_1146 (Or.inl rfl) rfl
theorem ok_X12_taken_78 : ok_S 235 78 (sf_ld 0 1 79) := ok_iload_n (by decide +kernel : decode (mb_ 235) 78 = .ok (.iload_n 1, 1)) rfl
theorem ok_X12_taken_79 : ok_S 235 79 (sf_iald 80) := ok_iald (by decide +kernel : decode (mb_ 235) 79 = .ok (.iaload, 1))
theorem ok_X12_taken_80 : ok_S 235 80 (sf_go 85) := ok_goto (by decide +kernel : decode (mb_ 235) 80 = .ok (.goto 5, 3)) (by decide)
theorem ok_X12_taken_83 : ok_S 235 83 (sf_push (0, (-13)) 85) := ok_bipush (by decide +kernel : decode (mb_ 235) 83 = .ok (.bipush (-13), 2)) ⟨by decide, by decide⟩ (by decide +kernel)
theorem ok_X12_taken_85 : ok_S 235 85 (sf_ret 0) := ok_ret0 (by decide +kernel : decode (mb_ 235) 85 = .ok (.ireturn, 1)) rfl
theorem ok_X12_taken_86 : ok_S 235 86 (sf_ld 2 0 87) := ok_aload_n (by decide +kernel : decode (mb_ 235) 86 = .ok (.aload_n 0, 1)) rfl
theorem ok_X12_taken_87 : ok_S 235 87 (sf_gr 13 13 19 90) := ok_gr fd_13_19 (by decide +kernel : decode (mb_ 235) 87 = .ok (.getfield 44, 3)) tw_1145 (Or.inl rfl) rfl
theorem ok_X12_taken_90 : ok_S 235 90 (sf_ld 0 1 91) := ok_iload_n (by decide +kernel : decode (mb_ 235) 90 = .ok (.iload_n 1, 1)) rfl
theorem ok_X12_taken_91 : ok_S 235 91 (sf_iald 92) := ok_iald (by decide +kernel : decode (mb_ 235) 91 = .ok (.iaload, 1))
theorem ok_X12_taken_92 : ok_S 235 92 (sf_ld 0 2 93) := ok_iload_n (by decide +kernel : decode (mb_ 235) 92 = .ok (.iload_n 2, 1)) rfl
theorem ok_X12_taken_93 : ok_S 235 93 (sf_ic 1 105 96) := ok_ic1 (by decide +kernel : decode (mb_ 235) 93 = .ok (.if_icmp .ne 12, 3)) (by decide)
theorem ok_X12_taken_96 : ok_S 235 96 (sf_ld 2 0 97) := ok_aload_n (by decide +kernel : decode (mb_ 235) 96 = .ok (.aload_n 0, 1)) rfl
theorem ok_X12_taken_97 : ok_S 235 97 (sf_gr 13 13 20 100) := ok_gr fd_13_20 (by decide +kernel : decode (mb_ 235) 97 = .ok (.getfield 47, 3)) tw_1146 (Or.inl rfl) rfl
theorem ok_X12_taken_100 : ok_S 235 100 (sf_ld 0 1 101) := ok_iload_n (by decide +kernel : decode (mb_ 235) 100 = .ok (.iload_n 1, 1)) rfl
theorem ok_X12_taken_101 : ok_S 235 101 (sf_iald 102) := ok_iald (by decide +kernel : decode (mb_ 235) 101 = .ok (.iaload, 1))
theorem ok_X12_taken_102 : ok_S 235 102 (sf_go 107) := ok_goto (by decide +kernel : decode (mb_ 235) 102 = .ok (.goto 5, 3)) (by decide)
theorem ok_X12_taken_105 : ok_S 235 105 (sf_push (0, (-13)) 107) := ok_bipush (by decide +kernel : decode (mb_ 235) 105 = .ok (.bipush (-13), 2)) ⟨by decide, by decide⟩ (by decide +kernel)
theorem ok_X12_taken_107 : ok_S 235 107 (sf_ret 0) := ok_ret0 (by decide +kernel : decode (mb_ 235) 107 = .ok (.ireturn, 1)) rfl
theorem ok_X12_taken (pc : Nat) : ok_S 235 pc (cd_X12_taken pc) :=
  (ok_bf (ok_bf (ok_bf (ok_bf (ok_bf (ok_bf (ok_lf pc ok_X12_taken_107) (ok_lf pc ok_X12_taken_105)) (ok_bf (ok_lf pc ok_X12_taken_102) (ok_lf pc ok_X12_taken_101))) (ok_bf (ok_bf (ok_lf pc ok_X12_taken_100) (ok_lf pc ok_X12_taken_97)) (ok_bf (ok_lf pc ok_X12_taken_96) (ok_lf pc ok_X12_taken_93)))) (ok_bf (ok_bf (ok_bf (ok_lf pc ok_X12_taken_92) (ok_lf pc ok_X12_taken_91)) (ok_bf (ok_lf pc ok_X12_taken_90) (ok_lf pc ok_X12_taken_87))) (ok_bf (ok_bf (ok_lf pc ok_X12_taken_86) (ok_lf pc ok_X12_taken_85)) (ok_lf pc ok_X12_taken_83)))) (ok_bf (ok_bf (ok_bf (ok_bf (ok_lf pc ok_X12_taken_80) (ok_lf pc ok_X12_taken_79)) (ok_bf (ok_lf pc ok_X12_taken_78) (ok_lf pc ok_X12_taken_75))) (ok_bf (ok_bf (ok_lf pc ok_X12_taken_74) (ok_lf pc ok_X12_taken_71)) (ok_bf (ok_lf pc ok_X12_taken_68) (ok_lf pc ok_X12_taken_67)))) (ok_bf (ok_bf (ok_bf (ok_lf pc ok_X12_taken_64) (ok_lf pc ok_X12_taken_63)) (ok_bf (ok_lf pc ok_X12_taken_62) (ok_lf pc ok_X12_taken_61))) (ok_bf (ok_bf (ok_lf pc ok_X12_taken_58) (ok_lf pc ok_X12_taken_57)) (ok_lf pc ok_X12_taken_56))))) (ok_bf (ok_bf (ok_bf (ok_bf (ok_bf (ok_lf pc ok_X12_taken_53) (ok_lf pc ok_X12_taken_51)) (ok_bf (ok_lf pc ok_X12_taken_50) (ok_lf pc ok_X12_taken_47))) (ok_bf (ok_bf (ok_lf pc ok_X12_taken_46) (ok_lf pc ok_X12_taken_45)) (ok_bf (ok_lf pc ok_X12_taken_44) (ok_lf pc ok_X12_taken_41)))) (ok_bf (ok_bf (ok_bf (ok_lf pc ok_X12_taken_40) (ok_lf pc ok_X12_taken_39)) (ok_bf (ok_lf pc ok_X12_taken_37) (ok_lf pc ok_X12_taken_34))) (ok_bf (ok_bf (ok_lf pc ok_X12_taken_31) (ok_lf pc ok_X12_taken_30)) (ok_lf pc ok_X12_taken_29)))) (ok_bf (ok_bf (ok_bf (ok_bf (ok_lf pc ok_X12_taken_28) (ok_lf pc ok_X12_taken_27)) (ok_bf (ok_lf pc ok_X12_taken_24) (ok_lf pc ok_X12_taken_21))) (ok_bf (ok_bf (ok_lf pc ok_X12_taken_19) (ok_lf pc ok_X12_taken_17)) (ok_bf (ok_lf pc ok_X12_taken_16) (ok_lf pc ok_X12_taken_13)))) (ok_bf (ok_bf (ok_bf (ok_lf pc ok_X12_taken_10) (ok_lf pc ok_X12_taken_9)) (ok_bf (ok_lf pc ok_X12_taken_8) (ok_lf pc ok_X12_taken_7))) (ok_bf (ok_bf (ok_lf pc ok_X12_taken_4) (ok_lf pc ok_X12_taken_1)) (ok_lf pc ok_X12_taken_0))))))
theorem mo_X12_taken (pc : Nat) : mo_S (cd_X12_taken pc) :=
  (mo_bf (mo_bf (mo_bf (mo_bf (mo_bf (mo_bf (mo_bf mo_ret mo_no) (mo_bf mo_push mo_no)) (mo_bf (mo_bf mo_go mo_no) (mo_bf mo_iald mo_no))) (mo_bf (mo_bf (mo_bf mo_ld mo_no) (mo_bf mo_gr mo_no)) (mo_bf (mo_bf mo_ld mo_no) (mo_bf mo_ic mo_no)))) (mo_bf (mo_bf (mo_bf (mo_bf mo_ld mo_no) (mo_bf mo_iald mo_no)) (mo_bf (mo_bf mo_ld mo_no) (mo_bf mo_gr mo_no))) (mo_bf (mo_bf (mo_bf mo_ld mo_no) (mo_bf mo_ret mo_no)) (mo_bf mo_push mo_no)))) (mo_bf (mo_bf (mo_bf (mo_bf (mo_bf mo_go mo_no) (mo_bf mo_iald mo_no)) (mo_bf (mo_bf mo_ld mo_no) (mo_bf mo_gr mo_no))) (mo_bf (mo_bf (mo_bf mo_ld mo_no) (mo_bf mo_if mo_no)) (mo_bf (mo_bf mo_cs mo_no) (mo_bf mo_ld mo_no)))) (mo_bf (mo_bf (mo_bf (mo_bf mo_cv mo_no) (mo_bf mo_push mo_no)) (mo_bf (mo_bf mo_iald mo_no) (mo_bf mo_ld mo_no))) (mo_bf (mo_bf (mo_bf mo_gr mo_no) (mo_bf mo_ld mo_no)) (mo_bf mo_ld mo_no))))) (mo_bf (mo_bf (mo_bf (mo_bf (mo_bf (mo_bf mo_ic mo_no) (mo_bf mo_push mo_no)) (mo_bf (mo_bf mo_ld mo_no) (mo_bf mo_ic mo_no))) (mo_bf (mo_bf (mo_bf mo_push mo_no) (mo_bf mo_iald mo_no)) (mo_bf (mo_bf mo_ld mo_no) (mo_bf mo_gr mo_no)))) (mo_bf (mo_bf (mo_bf (mo_bf mo_ld mo_no) (mo_bf mo_ret mo_no)) (mo_bf (mo_bf mo_push mo_no) (mo_bf mo_if mo_no))) (mo_bf (mo_bf (mo_bf mo_cv mo_no) (mo_bf mo_ld mo_no)) (mo_bf mo_ld mo_no)))) (mo_bf (mo_bf (mo_bf (mo_bf (mo_bf mo_ret mo_no) (mo_bf mo_push mo_no)) (mo_bf (mo_bf mo_if mo_no) (mo_bf mo_cs mo_no))) (mo_bf (mo_bf (mo_bf mo_push mo_no) (mo_bf mo_push mo_no)) (mo_bf (mo_bf mo_ld mo_no) (mo_bf mo_if mo_no)))) (mo_bf (mo_bf (mo_bf (mo_bf mo_cs mo_no) (mo_bf mo_push mo_no)) (mo_bf (mo_bf mo_push mo_no) (mo_bf mo_ld mo_no))) (mo_bf (mo_bf (mo_bf mo_if mo_no) (mo_bf mo_cs mo_no)) (mo_bf mo_ld mo_no))))))
theorem ok_X12_ran_0 : ok_S 236 0 (sf_ld 2 0 1) := ok_aload_n (by decide +kernel : decode (mb_ 236) 0 = .ok (.aload_n 0, 1)) rfl
theorem ok_X12_ran_1 : ok_S 236 1 (sf_gi 13 13 22 4) := ok_gi fd_13_22 (by decide +kernel : decode (mb_ 236) 1 = .ok (.getfield 269, 3)) tw_1148 (Or.inl rfl) rfl
theorem ok_X12_ran_4 : ok_S 236 4 (sf_push (0, 30) 6) := ok_bipush (by decide +kernel : decode (mb_ 236) 4 = .ok (.bipush 30, 2)) ⟨by decide, by decide⟩ (by decide +kernel)
theorem ok_X12_ran_6 : ok_S 236 6 (sf_ic 3 29 9) := ok_ic3 (by decide +kernel : decode (mb_ 236) 6 = .ok (.if_icmp .ge 23, 3)) (by decide)
theorem ok_X12_ran_9 : ok_S 236 9 (sf_ld 2 0 10) := ok_aload_n (by decide +kernel : decode (mb_ 236) 9 = .ok (.aload_n 0, 1)) rfl
theorem ok_X12_ran_10 : ok_S 236 10 (sf_gr 13 13 21 13) := ok_gr fd_13_21 (by decide +kernel : decode (mb_ 236) 10 = .ok (.getfield 50, 3)) tw_1147 (Or.inl rfl) rfl
theorem ok_X12_ran_13 : ok_S 236 13 (sf_ld 2 0 14) := ok_aload_n (by decide +kernel : decode (mb_ 236) 13 = .ok (.aload_n 0, 1)) rfl
theorem ok_X12_ran_14 : ok_S 236 14 (sf_gi 13 13 22 17) := ok_gi fd_13_22 (by decide +kernel : decode (mb_ 236) 14 = .ok (.getfield 269, 3)) tw_1148 (Or.inl rfl) rfl
theorem ok_X12_ran_17 : ok_S 236 17 (sf_ld 0 1 18) := ok_iload_n (by decide +kernel : decode (mb_ 236) 17 = .ok (.iload_n 1, 1)) rfl
theorem ok_X12_ran_18 : ok_S 236 18 (sf_iast 19) := ok_iast (by decide +kernel : decode (mb_ 236) 18 = .ok (.iastore, 1))
theorem ok_X12_ran_19 : ok_S 236 19 (sf_ld 2 0 20) := ok_aload_n (by decide +kernel : decode (mb_ 236) 19 = .ok (.aload_n 0, 1)) rfl
theorem ok_X12_ran_20 : ok_S 236 20 (sf_dup 21) := ok_dup (by decide +kernel : decode (mb_ 236) 20 = .ok (.dup, 1))
theorem ok_X12_ran_21 : ok_S 236 21 (sf_gi 13 13 22 24) := ok_gi fd_13_22 (by decide +kernel : decode (mb_ 236) 21 = .ok (.getfield 269, 3)) tw_1148 (Or.inl rfl) rfl
theorem ok_X12_ran_24 : ok_S 236 24 (sf_push (0, 1) 25) := ok_iconst (by decide +kernel : decode (mb_ 236) 24 = .ok (.iconst 1, 1)) ⟨by decide, by decide⟩
theorem ok_X12_ran_25 : ok_S 236 25 (sf_i2 mx_add 26) := ok_iadd (by decide +kernel : decode (mb_ 236) 25 = .ok (.iadd, 1))
theorem ok_X12_ran_26 : ok_S 236 26 (sf_pi 13 13 22 29) := ok_pi fd_13_22 (by decide +kernel : decode (mb_ 236) 26 = .ok (.putfield 269, 3)) tw_1148 rfl (Or.inl ff_13_22) rfl
theorem ok_X12_ran_29 : ok_S 236 29 (sf_retv) := ok_retv (by decide +kernel : decode (mb_ 236) 29 = .ok (.return_, 1)) rfl
theorem ok_X12_ran (pc : Nat) : ok_S 236 pc (cd_X12_ran pc) :=
  (ok_bf (ok_bf (ok_bf (ok_bf (ok_bf (ok_lf pc ok_X12_ran_29) (ok_lf pc ok_X12_ran_26)) (ok_lf pc ok_X12_ran_25)) (ok_bf (ok_lf pc ok_X12_ran_24) (ok_lf pc ok_X12_ran_21))) (ok_bf (ok_bf (ok_lf pc ok_X12_ran_20) (ok_lf pc ok_X12_ran_19)) (ok_bf (ok_lf pc ok_X12_ran_18) (ok_lf pc ok_X12_ran_17)))) (ok_bf (ok_bf (ok_bf (ok_lf pc ok_X12_ran_14) (ok_lf pc ok_X12_ran_13)) (ok_bf (ok_lf pc ok_X12_ran_10) (ok_lf pc ok_X12_ran_9))) (ok_bf (ok_bf (ok_lf pc ok_X12_ran_6) (ok_lf pc ok_X12_ran_4)) (ok_bf (ok_lf pc ok_X12_ran_1) (ok_lf pc ok_X12_ran_0)))))
theorem mo_X12_ran (pc : Nat) : mo_S (cd_X12_ran pc) :=
  (mo_bf (mo_bf (mo_bf (mo_bf (mo_bf (mo_bf mo_retv mo_no) (mo_bf mo_pi mo_no)) (mo_bf mo_i2 mo_no)) (mo_bf (mo_bf mo_push mo_no) (mo_bf mo_gi mo_no))) (mo_bf (mo_bf (mo_bf mo_dup mo_no) (mo_bf mo_ld mo_no)) (mo_bf (mo_bf mo_iast mo_no) (mo_bf mo_ld mo_no)))) (mo_bf (mo_bf (mo_bf (mo_bf mo_gi mo_no) (mo_bf mo_ld mo_no)) (mo_bf (mo_bf mo_gr mo_no) (mo_bf mo_ld mo_no))) (mo_bf (mo_bf (mo_bf mo_ic mo_no) (mo_bf mo_push mo_no)) (mo_bf (mo_bf mo_gi mo_no) (mo_bf mo_ld mo_no)))))
theorem ok_X12_above_0 : ok_S 237 0 (sf_ld 0 0 1) := ok_iload_n (by decide +kernel : decode (mb_ 237) 0 = .ok (.iload_n 0, 1)) rfl
theorem ok_X12_above_1 : ok_S 237 1 (sf_push (0, 3) 2) := ok_iconst (by decide +kernel : decode (mb_ 237) 1 = .ok (.iconst 3, 1)) ⟨by decide, by decide⟩
theorem ok_X12_above_2 : ok_S 237 2 (sf_ic 1 9 5) := ok_ic1 (by decide +kernel : decode (mb_ 237) 2 = .ok (.if_icmp .ne 7, 3)) (by decide)
theorem ok_X12_above_5 : ok_S 237 5 (sf_push (0, 2) 6) := ok_iconst (by decide +kernel : decode (mb_ 237) 5 = .ok (.iconst 2, 1)) ⟨by decide, by decide⟩
theorem ok_X12_above_6 : ok_S 237 6 (sf_go 19) := ok_goto (by decide +kernel : decode (mb_ 237) 6 = .ok (.goto 13, 3)) (by decide)
theorem ok_X12_above_9 : ok_S 237 9 (sf_ld 0 0 10) := ok_iload_n (by decide +kernel : decode (mb_ 237) 9 = .ok (.iload_n 0, 1)) rfl
theorem ok_X12_above_10 : ok_S 237 10 (sf_push (0, 5) 11) := ok_iconst (by decide +kernel : decode (mb_ 237) 10 = .ok (.iconst 5, 1)) ⟨by decide, by decide⟩
theorem ok_X12_above_11 : ok_S 237 11 (sf_ic 1 18 14) := ok_ic1 (by decide +kernel : decode (mb_ 237) 11 = .ok (.if_icmp .ne 7, 3)) (by decide)
theorem ok_X12_above_14 : ok_S 237 14 (sf_push (0, 1) 15) := ok_iconst (by decide +kernel : decode (mb_ 237) 14 = .ok (.iconst 1, 1)) ⟨by decide, by decide⟩
theorem ok_X12_above_15 : ok_S 237 15 (sf_go 19) := ok_goto (by decide +kernel : decode (mb_ 237) 15 = .ok (.goto 4, 3)) (by decide)
theorem ok_X12_above_18 : ok_S 237 18 (sf_push (0, 0) 19) := ok_iconst (by decide +kernel : decode (mb_ 237) 18 = .ok (.iconst 0, 1)) ⟨by decide, by decide⟩
theorem ok_X12_above_19 : ok_S 237 19 (sf_ret 0) := ok_ret0 (by decide +kernel : decode (mb_ 237) 19 = .ok (.ireturn, 1)) rfl
theorem ok_X12_above (pc : Nat) : ok_S 237 pc (cd_X12_above pc) :=
  (ok_bf (ok_bf (ok_bf (ok_bf (ok_lf pc ok_X12_above_19) (ok_lf pc ok_X12_above_18)) (ok_lf pc ok_X12_above_15)) (ok_bf (ok_bf (ok_lf pc ok_X12_above_14) (ok_lf pc ok_X12_above_11)) (ok_lf pc ok_X12_above_10))) (ok_bf (ok_bf (ok_bf (ok_lf pc ok_X12_above_9) (ok_lf pc ok_X12_above_6)) (ok_lf pc ok_X12_above_5)) (ok_bf (ok_bf (ok_lf pc ok_X12_above_2) (ok_lf pc ok_X12_above_1)) (ok_lf pc ok_X12_above_0))))
theorem mo_X12_above (pc : Nat) : mo_S (cd_X12_above pc) :=
  (mo_bf (mo_bf (mo_bf (mo_bf (mo_bf mo_ret mo_no) (mo_bf mo_push mo_no)) (mo_bf mo_go mo_no)) (mo_bf (mo_bf (mo_bf mo_push mo_no) (mo_bf mo_ic mo_no)) (mo_bf mo_push mo_no))) (mo_bf (mo_bf (mo_bf (mo_bf mo_ld mo_no) (mo_bf mo_go mo_no)) (mo_bf mo_push mo_no)) (mo_bf (mo_bf (mo_bf mo_ic mo_no) (mo_bf mo_push mo_no)) (mo_bf mo_ld mo_no))))
theorem ok_X12_kindNow_0 : ok_S 238 0 (sf_ld 2 0 1) := ok_aload_n (by decide +kernel : decode (mb_ 238) 0 = .ok (.aload_n 0, 1)) rfl
theorem ok_X12_kindNow_1 : ok_S 238 1 (sf_ld 2 0 2) := ok_aload_n (by decide +kernel : decode (mb_ 238) 1 = .ok (.aload_n 0, 1)) rfl
theorem ok_X12_kindNow_2 : ok_S 238 2 (sf_gi 13 13 23 5) := ok_gi fd_13_23 (by decide +kernel : decode (mb_ 238) 2 = .ok (.getfield 272, 3)) tw_1149 (Or.inl rfl) rfl
theorem ok_X12_kindNow_5 : ok_S 238 5 (sf_push (0, 0) 6) := ok_iconst (by decide +kernel : decode (mb_ 238) 5 = .ok (.iconst 0, 1)) ⟨by decide, by decide⟩
theorem ok_X12_kindNow_6 : ok_S 238 6 (sf_cv 13 [2, 0, 0] 161 9) := ok_cv mt_161 cl_13 (by decide +kernel : decode (mb_ 238) 6 = .ok (.invokevirtual 162, 3)) tw_1285 tw_1287 ts_40 tw_7 rfl (by decide +kernel) (mh_ok rfl) (by decide) (by decide)
theorem ok_X12_kindNow_9 : ok_S 238 9 (sf_ret 0) := ok_ret0 (by decide +kernel : decode (mb_ 238) 9 = .ok (.ireturn, 1)) rfl
theorem ok_X12_kindNow (pc : Nat) : ok_S 238 pc (cd_X12_kindNow pc) :=
  (ok_bf (ok_bf (ok_bf (ok_lf pc ok_X12_kindNow_9) (ok_lf pc ok_X12_kindNow_6)) (ok_lf pc ok_X12_kindNow_5)) (ok_bf (ok_bf (ok_lf pc ok_X12_kindNow_2) (ok_lf pc ok_X12_kindNow_1)) (ok_lf pc ok_X12_kindNow_0)))
theorem mo_X12_kindNow (pc : Nat) : mo_S (cd_X12_kindNow pc) :=
  (mo_bf (mo_bf (mo_bf (mo_bf mo_ret mo_no) (mo_bf mo_cv mo_no)) (mo_bf mo_push mo_no)) (mo_bf (mo_bf (mo_bf mo_gi mo_no) (mo_bf mo_ld mo_no)) (mo_bf mo_ld mo_no)))
theorem ok_X12_reads_0 : ok_S 239 0 (sf_ld 0 1 1) := ok_iload_n (by decide +kernel : decode (mb_ 239) 0 = .ok (.iload_n 1, 1)) rfl
theorem ok_X12_reads_1 : ok_S 239 1 (sf_sw [(0, 40), (1, 110), (2, 53), (3, 71), (4, 110), (5, 89)] 110) := ok_tsw (by decide +kernel : decode (mb_ 239) 1 = .ok (.tableswitch 109 0 5 #[39, 109, 52, 70, 109, 88], 39)) (by decide) (by decide) (by decide) (by decide)
theorem ok_X12_reads_40 : ok_S 239 40 (sf_ld 2 0 41) := ok_aload_n (by decide +kernel : decode (mb_ 239) 40 = .ok (.aload_n 0, 1)) rfl
theorem ok_X12_reads_41 : ok_S 239 41 (sf_push (0, 10) 43) := ok_bipush (by decide +kernel : decode (mb_ 239) 41 = .ok (.bipush 10, 2)) ⟨by decide, by decide⟩ (by decide +kernel)
theorem ok_X12_reads_43 : ok_S 239 43 (sf_cv 13 [2, 0] 236 46) := ok_cv mt_236 cl_13 (by decide +kernel : decode (mb_ 239) 43 = .ok (.invokevirtual 275, 3)) tw_1545 tw_1547 ts_61 tw_7 rfl (by decide +kernel) (mh_ok rfl) (by decide) (by decide)
theorem ok_X12_reads_46 : ok_S 239 46 (sf_ld 0 2 47) := ok_iload_n (by decide +kernel : decode (mb_ 239) 46 = .ok (.iload_n 2, 1)) rfl
theorem ok_X12_reads_47 : ok_S 239 47 (sf_ld 2 0 48) := ok_aload_n (by decide +kernel : decode (mb_ 239) 47 = .ok (.aload_n 0, 1)) rfl
theorem ok_X12_reads_48 : ok_S 239 48 (sf_gi 13 13 23 51) := ok_gi fd_13_23 (by decide +kernel : decode (mb_ 239) 48 = .ok (.getfield 272, 3)) tw_1149 (Or.inl rfl) rfl
theorem ok_X12_reads_51 : ok_S 239 51 (sf_i2 mx_add 52) := ok_iadd (by decide +kernel : decode (mb_ 239) 51 = .ok (.iadd, 1))
theorem ok_X12_reads_52 : ok_S 239 52 (sf_ret 0) := ok_ret0 (by decide +kernel : decode (mb_ 239) 52 = .ok (.ireturn, 1)) rfl
theorem ok_X12_reads_53 : ok_S 239 53 (sf_ld 2 0 54) := ok_aload_n (by decide +kernel : decode (mb_ 239) 53 = .ok (.aload_n 0, 1)) rfl
theorem ok_X12_reads_54 : ok_S 239 54 (sf_push (0, 30) 56) := ok_bipush (by decide +kernel : decode (mb_ 239) 54 = .ok (.bipush 30, 2)) ⟨by decide, by decide⟩ (by decide +kernel)
theorem ok_X12_reads_56 : ok_S 239 56 (sf_cv 13 [2, 0] 236 59) := ok_cv mt_236 cl_13 (by decide +kernel : decode (mb_ 239) 56 = .ok (.invokevirtual 275, 3)) tw_1545 tw_1547 ts_61 tw_7 rfl (by decide +kernel) (mh_ok rfl) (by decide) (by decide)
theorem ok_X12_reads_59 : ok_S 239 59 (sf_ld 2 0 60) := ok_aload_n (by decide +kernel : decode (mb_ 239) 59 = .ok (.aload_n 0, 1)) rfl
theorem ok_X12_reads_60 : ok_S 239 60 (sf_push (0, 2) 61) := ok_iconst (by decide +kernel : decode (mb_ 239) 60 = .ok (.iconst 2, 1)) ⟨by decide, by decide⟩
theorem ok_X12_reads_61 : ok_S 239 61 (sf_cs [0] 237 64) := ok_cs mt_237 (by decide +kernel : decode (mb_ 239) 61 = .ok (.invokestatic 279, 3)) tw_1549 tw_1550 tw_7 (by decide +kernel) (mh_ok rfl) (by decide) (by decide)
theorem ok_X12_reads_64 : ok_S 239 64 (sf_ld 0 2 65) := ok_iload_n (by decide +kernel : decode (mb_ 239) 64 = .ok (.iload_n 2, 1)) rfl
theorem ok_X12_reads_65 : ok_S 239 65 (sf_cv 13 [2, 0, 0] 239 68) := ok_cv mt_239 cl_13 (by decide +kernel : decode (mb_ 239) 65 = .ok (.invokevirtual 282, 3)) tw_1541 tw_1543 ts_60 tw_7 rfl (by decide +kernel) (mh_ok rfl) (by decide) (by decide)
theorem ok_X12_reads_68 : ok_S 239 68 (sf_push (0, 3) 69) := ok_iconst (by decide +kernel : decode (mb_ 239) 68 = .ok (.iconst 3, 1)) ⟨by decide, by decide⟩
theorem ok_X12_reads_69 : ok_S 239 69 (sf_i2 mx_mul 70) := ok_imul (by decide +kernel : decode (mb_ 239) 69 = .ok (.imul, 1))
theorem ok_X12_reads_70 : ok_S 239 70 (sf_ret 0) := ok_ret0 (by decide +kernel : decode (mb_ 239) 70 = .ok (.ireturn, 1)) rfl
theorem ok_X12_reads_71 : ok_S 239 71 (sf_ld 2 0 72) := ok_aload_n (by decide +kernel : decode (mb_ 239) 71 = .ok (.aload_n 0, 1)) rfl
theorem ok_X12_reads_72 : ok_S 239 72 (sf_push (0, 40) 74) := ok_bipush (by decide +kernel : decode (mb_ 239) 72 = .ok (.bipush 40, 2)) ⟨by decide, by decide⟩ (by decide +kernel)
theorem ok_X12_reads_74 : ok_S 239 74 (sf_cv 13 [2, 0] 236 77) := ok_cv mt_236 cl_13 (by decide +kernel : decode (mb_ 239) 74 = .ok (.invokevirtual 275, 3)) tw_1545 tw_1547 ts_61 tw_7 rfl (by decide +kernel) (mh_ok rfl) (by decide) (by decide)
theorem ok_X12_reads_77 : ok_S 239 77 (sf_push (0, 0) 78) := ok_iconst (by decide +kernel : decode (mb_ 239) 77 = .ok (.iconst 0, 1)) ⟨by decide, by decide⟩
theorem ok_X12_reads_78 : ok_S 239 78 (sf_ld 2 0 79) := ok_aload_n (by decide +kernel : decode (mb_ 239) 78 = .ok (.aload_n 0, 1)) rfl
theorem ok_X12_reads_79 : ok_S 239 79 (sf_push (0, 3) 80) := ok_iconst (by decide +kernel : decode (mb_ 239) 79 = .ok (.iconst 3, 1)) ⟨by decide, by decide⟩
theorem ok_X12_reads_80 : ok_S 239 80 (sf_cs [0] 237 83) := ok_cs mt_237 (by decide +kernel : decode (mb_ 239) 80 = .ok (.invokestatic 279, 3)) tw_1549 tw_1550 tw_7 (by decide +kernel) (mh_ok rfl) (by decide) (by decide)
theorem ok_X12_reads_83 : ok_S 239 83 (sf_ld 0 2 84) := ok_iload_n (by decide +kernel : decode (mb_ 239) 83 = .ok (.iload_n 2, 1)) rfl
theorem ok_X12_reads_84 : ok_S 239 84 (sf_cv 13 [2, 0, 0] 239 87) := ok_cv mt_239 cl_13 (by decide +kernel : decode (mb_ 239) 84 = .ok (.invokevirtual 282, 3)) tw_1541 tw_1543 ts_60 tw_7 rfl (by decide +kernel) (mh_ok rfl) (by decide) (by decide)
theorem ok_X12_reads_87 : ok_S 239 87 (sf_i2 mx_sub 88) := ok_isub (by decide +kernel : decode (mb_ 239) 87 = .ok (.isub, 1))
theorem ok_X12_reads_88 : ok_S 239 88 (sf_ret 0) := ok_ret0 (by decide +kernel : decode (mb_ 239) 88 = .ok (.ireturn, 1)) rfl
theorem ok_X12_reads_89 : ok_S 239 89 (sf_ld 2 0 90) := ok_aload_n (by decide +kernel : decode (mb_ 239) 89 = .ok (.aload_n 0, 1)) rfl
theorem ok_X12_reads_90 : ok_S 239 90 (sf_push (0, 51) 92) := ok_bipush (by decide +kernel : decode (mb_ 239) 90 = .ok (.bipush 51, 2)) ⟨by decide, by decide⟩ (by decide +kernel)
theorem ok_X12_reads_92 : ok_S 239 92 (sf_cv 13 [2, 0] 236 95) := ok_cv mt_236 cl_13 (by decide +kernel : decode (mb_ 239) 92 = .ok (.invokevirtual 275, 3)) tw_1545 tw_1547 ts_61 tw_7 rfl (by decide +kernel) (mh_ok rfl) (by decide) (by decide)
theorem ok_X12_reads_95 : ok_S 239 95 (sf_ld 2 0 96) := ok_aload_n (by decide +kernel : decode (mb_ 239) 95 = .ok (.aload_n 0, 1)) rfl
theorem ok_X12_reads_96 : ok_S 239 96 (sf_push (0, 5) 97) := ok_iconst (by decide +kernel : decode (mb_ 239) 96 = .ok (.iconst 5, 1)) ⟨by decide, by decide⟩
theorem ok_X12_reads_97 : ok_S 239 97 (sf_cs [0] 237 100) := ok_cs mt_237 (by decide +kernel : decode (mb_ 239) 97 = .ok (.invokestatic 279, 3)) tw_1549 tw_1550 tw_7 (by decide +kernel) (mh_ok rfl) (by decide) (by decide)
theorem ok_X12_reads_100 : ok_S 239 100 (sf_ld 0 2 101) := ok_iload_n (by decide +kernel : decode (mb_ 239) 100 = .ok (.iload_n 2, 1)) rfl
theorem ok_X12_reads_101 : ok_S 239 101 (sf_cv 13 [2, 0, 0] 239 104) := ok_cv mt_239 cl_13 (by decide +kernel : decode (mb_ 239) 101 = .ok (.invokevirtual 282, 3)) tw_1541 tw_1543 ts_60 tw_7 rfl (by decide +kernel) (mh_ok rfl) (by decide) (by decide)
theorem ok_X12_reads_104 : ok_S 239 104 (sf_ld 2 0 105) := ok_aload_n (by decide +kernel : decode (mb_ 239) 104 = .ok (.aload_n 0, 1)) rfl
theorem ok_X12_reads_105 : ok_S 239 105 (sf_gi 13 13 23 108) := ok_gi fd_13_23 (by decide +kernel : decode (mb_ 239) 105 = .ok (.getfield 272, 3)) tw_1149 (Or.inl rfl) rfl
theorem ok_X12_reads_108 : ok_S 239 108 (sf_i2 mx_sub 109) := ok_isub (by decide +kernel : decode (mb_ 239) 108 = .ok (.isub, 1))
theorem ok_X12_reads_109 : ok_S 239 109 (sf_ret 0) := ok_ret0 (by decide +kernel : decode (mb_ 239) 109 = .ok (.ireturn, 1)) rfl
theorem ok_X12_reads_110 : ok_S 239 110 (sf_ld 2 0 111) := ok_aload_n (by decide +kernel : decode (mb_ 239) 110 = .ok (.aload_n 0, 1)) rfl
theorem ok_X12_reads_111 : ok_S 239 111 (sf_ld 0 1 112) := ok_iload_n (by decide +kernel : decode (mb_ 239) 111 = .ok (.iload_n 1, 1)) rfl
theorem ok_X12_reads_112 : ok_S 239 112 (sf_cs [0] 237 115) := ok_cs mt_237 (by decide +kernel : decode (mb_ 239) 112 = .ok (.invokestatic 279, 3)) tw_1549 tw_1550 tw_7 (by decide +kernel) (mh_ok rfl) (by decide) (by decide)
theorem ok_X12_reads_115 : ok_S 239 115 (sf_ld 0 2 116) := ok_iload_n (by decide +kernel : decode (mb_ 239) 115 = .ok (.iload_n 2, 1)) rfl
theorem ok_X12_reads_116 : ok_S 239 116 (sf_cv 13 [2, 0, 0] 239 119) := ok_cv mt_239 cl_13 (by decide +kernel : decode (mb_ 239) 116 = .ok (.invokevirtual 282, 3)) tw_1541 tw_1543 ts_60 tw_7 rfl (by decide +kernel) (mh_ok rfl) (by decide) (by decide)
theorem ok_X12_reads_119 : ok_S 239 119 (sf_ret 0) := ok_ret0 (by decide +kernel : decode (mb_ 239) 119 = .ok (.ireturn, 1)) rfl
theorem ok_X12_reads (pc : Nat) : ok_S 239 pc (cd_X12_reads pc) :=
  (ok_bf (ok_bf (ok_bf (ok_bf (ok_bf (ok_bf (ok_lf pc ok_X12_reads_119) (ok_lf pc ok_X12_reads_116)) (ok_bf (ok_lf pc ok_X12_reads_115) (ok_lf pc ok_X12_reads_112))) (ok_bf (ok_bf (ok_lf pc ok_X12_reads_111) (ok_lf pc ok_X12_reads_110)) (ok_lf pc ok_X12_reads_109))) (ok_bf (ok_bf (ok_bf (ok_lf pc ok_X12_reads_108) (ok_lf pc ok_X12_reads_105)) (ok_lf pc ok_X12_reads_104)) (ok_bf (ok_bf (ok_lf pc ok_X12_reads_101) (ok_lf pc ok_X12_reads_100)) (ok_lf pc ok_X12_reads_97)))) (ok_bf (ok_bf (ok_bf (ok_bf (ok_lf pc ok_X12_reads_96) (ok_lf pc ok_X12_reads_95)) (ok_lf pc ok_X12_reads_92)) (ok_bf (ok_bf (ok_lf pc ok_X12_reads_90) (ok_lf pc ok_X12_reads_89)) (ok_lf pc ok_X12_reads_88))) (ok_bf (ok_bf (ok_bf (ok_lf pc ok_X12_reads_87) (ok_lf pc ok_X12_reads_84)) (ok_lf pc ok_X12_reads_83)) (ok_bf (ok_bf (ok_lf pc ok_X12_reads_80) (ok_lf pc ok_X12_reads_79)) (ok_lf pc ok_X12_reads_78))))) (ok_bf (ok_bf (ok_bf (ok_bf (ok_bf (ok_lf pc ok_X12_reads_77) (ok_lf pc ok_X12_reads_74)) (ok_bf (ok_lf pc ok_X12_reads_72) (ok_lf pc ok_X12_reads_71))) (ok_bf (ok_bf (ok_lf pc ok_X12_reads_70) (ok_lf pc ok_X12_reads_69)) (ok_lf pc ok_X12_reads_68))) (ok_bf (ok_bf (ok_bf (ok_lf pc ok_X12_reads_65) (ok_lf pc ok_X12_reads_64)) (ok_lf pc ok_X12_reads_61)) (ok_bf (ok_bf (ok_lf pc ok_X12_reads_60) (ok_lf pc ok_X12_reads_59)) (ok_lf pc ok_X12_reads_56)))) (ok_bf (ok_bf (ok_bf (ok_bf (ok_lf pc ok_X12_reads_54) (ok_lf pc ok_X12_reads_53)) (ok_lf pc ok_X12_reads_52)) (ok_bf (ok_bf (ok_lf pc ok_X12_reads_51) (ok_lf pc ok_X12_reads_48)) (ok_lf pc ok_X12_reads_47))) (ok_bf (ok_bf (ok_bf (ok_lf pc ok_X12_reads_46) (ok_lf pc ok_X12_reads_43)) (ok_lf pc ok_X12_reads_41)) (ok_bf (ok_bf (ok_lf pc ok_X12_reads_40) (ok_lf pc ok_X12_reads_1)) (ok_lf pc ok_X12_reads_0))))))
theorem mo_X12_reads (pc : Nat) : mo_S (cd_X12_reads pc) :=
  (mo_bf (mo_bf (mo_bf (mo_bf (mo_bf (mo_bf (mo_bf mo_ret mo_no) (mo_bf mo_cv mo_no)) (mo_bf (mo_bf mo_ld mo_no) (mo_bf mo_cs mo_no))) (mo_bf (mo_bf (mo_bf mo_ld mo_no) (mo_bf mo_ld mo_no)) (mo_bf mo_ret mo_no))) (mo_bf (mo_bf (mo_bf (mo_bf mo_i2 mo_no) (mo_bf mo_gi mo_no)) (mo_bf mo_ld mo_no)) (mo_bf (mo_bf (mo_bf mo_cv mo_no) (mo_bf mo_ld mo_no)) (mo_bf mo_cs mo_no)))) (mo_bf (mo_bf (mo_bf (mo_bf (mo_bf mo_push mo_no) (mo_bf mo_ld mo_no)) (mo_bf mo_cv mo_no)) (mo_bf (mo_bf (mo_bf mo_push mo_no) (mo_bf mo_ld mo_no)) (mo_bf mo_ret mo_no))) (mo_bf (mo_bf (mo_bf (mo_bf mo_i2 mo_no) (mo_bf mo_cv mo_no)) (mo_bf mo_ld mo_no)) (mo_bf (mo_bf (mo_bf mo_cs mo_no) (mo_bf mo_push mo_no)) (mo_bf mo_ld mo_no))))) (mo_bf (mo_bf (mo_bf (mo_bf (mo_bf (mo_bf mo_push mo_no) (mo_bf mo_cv mo_no)) (mo_bf (mo_bf mo_push mo_no) (mo_bf mo_ld mo_no))) (mo_bf (mo_bf (mo_bf mo_ret mo_no) (mo_bf mo_i2 mo_no)) (mo_bf mo_push mo_no))) (mo_bf (mo_bf (mo_bf (mo_bf mo_cv mo_no) (mo_bf mo_ld mo_no)) (mo_bf mo_cs mo_no)) (mo_bf (mo_bf (mo_bf mo_push mo_no) (mo_bf mo_ld mo_no)) (mo_bf mo_cv mo_no)))) (mo_bf (mo_bf (mo_bf (mo_bf (mo_bf mo_push mo_no) (mo_bf mo_ld mo_no)) (mo_bf mo_ret mo_no)) (mo_bf (mo_bf (mo_bf mo_i2 mo_no) (mo_bf mo_gi mo_no)) (mo_bf mo_ld mo_no))) (mo_bf (mo_bf (mo_bf (mo_bf mo_ld mo_no) (mo_bf mo_cv mo_no)) (mo_bf mo_push mo_no)) (mo_bf (mo_bf (mo_bf mo_ld mo_no) (mo_bf mo_sw mo_no)) (mo_bf mo_ld mo_no))))))
theorem ok_X12_writes_0 : ok_S 240 0 (sf_push (0, 0) 1) := ok_iconst (by decide +kernel : decode (mb_ 240) 0 = .ok (.iconst 0, 1)) ⟨by decide, by decide⟩
theorem ok_X12_writes_1 : ok_S 240 1 (sf_st 0 3 2) := ok_istore_n (by decide +kernel : decode (mb_ 240) 1 = .ok (.istore_n 3, 1)) rfl
theorem ok_X12_writes_2 : ok_S 240 2 (sf_ld 0 1 3) := ok_iload_n (by decide +kernel : decode (mb_ 240) 2 = .ok (.iload_n 1, 1)) rfl
theorem ok_X12_writes_3 : ok_S 240 3 (sf_sw [(0, 32), (1, 50), (2, 107), (3, 76)] 107) := ok_tsw (by decide +kernel : decode (mb_ 240) 3 = .ok (.tableswitch 104 0 3 #[29, 47, 104, 73], 29)) (by decide) (by decide) (by decide) (by decide)
theorem ok_X12_writes_32 : ok_S 240 32 (sf_ld 2 0 33) := ok_aload_n (by decide +kernel : decode (mb_ 240) 32 = .ok (.aload_n 0, 1)) rfl
theorem ok_X12_writes_33 : ok_S 240 33 (sf_push (0, 11) 35) := ok_bipush (by decide +kernel : decode (mb_ 240) 33 = .ok (.bipush 11, 2)) ⟨by decide, by decide⟩ (by decide +kernel)
theorem ok_X12_writes_35 : ok_S 240 35 (sf_cv 13 [2, 0] 236 38) := ok_cv mt_236 cl_13 (by decide +kernel : decode (mb_ 240) 35 = .ok (.invokevirtual 275, 3)) tw_1545 tw_1547 ts_61 tw_7 rfl (by decide +kernel) (mh_ok rfl) (by decide) (by decide)
theorem ok_X12_writes_38 : ok_S 240 38 (sf_ld 2 0 39) := ok_aload_n (by decide +kernel : decode (mb_ 240) 38 = .ok (.aload_n 0, 1)) rfl
theorem ok_X12_writes_39 : ok_S 240 39 (sf_ld 2 0 40) := ok_aload_n (by decide +kernel : decode (mb_ 240) 39 = .ok (.aload_n 0, 1)) rfl
theorem ok_X12_writes_40 : ok_S 240 40 (sf_cv 13 [2] 238 43) := ok_cv mt_238 cl_13 (by decide +kernel : decode (mb_ 240) 40 = .ok (.invokevirtual 285, 3)) tw_1537 tw_1539 ts_59 tw_7 rfl (by decide +kernel) (mh_ok rfl) (by decide) (by decide)
theorem ok_X12_writes_43 : ok_S 240 43 (sf_ld 0 2 44) := ok_iload_n (by decide +kernel : decode (mb_ 240) 43 = .ok (.iload_n 2, 1)) rfl
theorem ok_X12_writes_44 : ok_S 240 44 (sf_cv 13 [2, 0, 0] 239 47) := ok_cv mt_239 cl_13 (by decide +kernel : decode (mb_ 240) 44 = .ok (.invokevirtual 282, 3)) tw_1541 tw_1543 ts_60 tw_7 rfl (by decide +kernel) (mh_ok rfl) (by decide) (by decide)
theorem ok_X12_writes_47 : ok_S 240 47 (sf_push (0, 2) 48) := ok_iconst (by decide +kernel : decode (mb_ 240) 47 = .ok (.iconst 2, 1)) ⟨by decide, by decide⟩
theorem ok_X12_writes_48 : ok_S 240 48 (sf_i2 mx_mul 49) := ok_imul (by decide +kernel : decode (mb_ 240) 48 = .ok (.imul, 1))
theorem ok_X12_writes_49 : ok_S 240 49 (sf_ret 0) := ok_ret0 (by decide +kernel : decode (mb_ 240) 49 = .ok (.ireturn, 1)) rfl
theorem ok_X12_writes_50 : ok_S 240 50 (sf_ld 2 0 51) := ok_aload_n (by decide +kernel : decode (mb_ 240) 50 = .ok (.aload_n 0, 1)) rfl
theorem ok_X12_writes_51 : ok_S 240 51 (sf_push (0, 20) 53) := ok_bipush (by decide +kernel : decode (mb_ 240) 51 = .ok (.bipush 20, 2)) ⟨by decide, by decide⟩ (by decide +kernel)
theorem ok_X12_writes_53 : ok_S 240 53 (sf_cv 13 [2, 0] 236 56) := ok_cv mt_236 cl_13 (by decide +kernel : decode (mb_ 240) 53 = .ok (.invokevirtual 275, 3)) tw_1545 tw_1547 ts_61 tw_7 rfl (by decide +kernel) (mh_ok rfl) (by decide) (by decide)
theorem ok_X12_writes_56 : ok_S 240 56 (sf_ld 2 0 57) := ok_aload_n (by decide +kernel : decode (mb_ 240) 56 = .ok (.aload_n 0, 1)) rfl
theorem ok_X12_writes_57 : ok_S 240 57 (sf_push (0, 1) 58) := ok_iconst (by decide +kernel : decode (mb_ 240) 57 = .ok (.iconst 1, 1)) ⟨by decide, by decide⟩
theorem ok_X12_writes_58 : ok_S 240 58 (sf_cs [0] 237 61) := ok_cs mt_237 (by decide +kernel : decode (mb_ 240) 58 = .ok (.invokestatic 279, 3)) tw_1549 tw_1550 tw_7 (by decide +kernel) (mh_ok rfl) (by decide) (by decide)
theorem ok_X12_writes_61 : ok_S 240 61 (sf_ld 0 2 62) := ok_iload_n (by decide +kernel : decode (mb_ 240) 61 = .ok (.iload_n 2, 1)) rfl
theorem ok_X12_writes_62 : ok_S 240 62 (sf_cv 13 [2, 0, 0] 240 65) := ok_cv mt_240 cl_13 (by decide +kernel : decode (mb_ 240) 62 = .ok (.invokevirtual 288, 3)) tw_1552 tw_1554 ts_62 tw_7 rfl (by decide +kernel) (mh_ok rfl) (by decide) (by decide)
theorem ok_X12_writes_65 : ok_S 240 65 (sf_ld 2 0 66) := ok_aload_n (by decide +kernel : decode (mb_ 240) 65 = .ok (.aload_n 0, 1)) rfl
theorem ok_X12_writes_66 : ok_S 240 66 (sf_ld 2 0 67) := ok_aload_n (by decide +kernel : decode (mb_ 240) 66 = .ok (.aload_n 0, 1)) rfl
theorem ok_X12_writes_67 : ok_S 240 67 (sf_gi 13 13 23 70) := ok_gi fd_13_23 (by decide +kernel : decode (mb_ 240) 67 = .ok (.getfield 272, 3)) tw_1149 (Or.inl rfl) rfl
theorem ok_X12_writes_70 : ok_S 240 70 (sf_push (0, 2) 71) := ok_iconst (by decide +kernel : decode (mb_ 240) 70 = .ok (.iconst 2, 1)) ⟨by decide, by decide⟩
theorem ok_X12_writes_71 : ok_S 240 71 (sf_cv 13 [2, 0, 0] 161 74) := ok_cv mt_161 cl_13 (by decide +kernel : decode (mb_ 240) 71 = .ok (.invokevirtual 162, 3)) tw_1285 tw_1287 ts_40 tw_7 rfl (by decide +kernel) (mh_ok rfl) (by decide) (by decide)
theorem ok_X12_writes_74 : ok_S 240 74 (sf_i2 mx_sub 75) := ok_isub (by decide +kernel : decode (mb_ 240) 74 = .ok (.isub, 1))
theorem ok_X12_writes_75 : ok_S 240 75 (sf_ret 0) := ok_ret0 (by decide +kernel : decode (mb_ 240) 75 = .ok (.ireturn, 1)) rfl
theorem ok_X12_writes_76 : ok_S 240 76 (sf_ld 2 0 77) := ok_aload_n (by decide +kernel : decode (mb_ 240) 76 = .ok (.aload_n 0, 1)) rfl
theorem ok_X12_writes_77 : ok_S 240 77 (sf_push (0, 41) 79) := ok_bipush (by decide +kernel : decode (mb_ 240) 77 = .ok (.bipush 41, 2)) ⟨by decide, by decide⟩ (by decide +kernel)
theorem ok_X12_writes_79 : ok_S 240 79 (sf_cv 13 [2, 0] 236 82) := ok_cv mt_236 cl_13 (by decide +kernel : decode (mb_ 240) 79 = .ok (.invokevirtual 275, 3)) tw_1545 tw_1547 ts_61 tw_7 rfl (by decide +kernel) (mh_ok rfl) (by decide) (by decide)
theorem ok_X12_writes_82 : ok_S 240 82 (sf_ld 2 0 83) := ok_aload_n (by decide +kernel : decode (mb_ 240) 82 = .ok (.aload_n 0, 1)) rfl
theorem ok_X12_writes_83 : ok_S 240 83 (sf_push (0, 3) 84) := ok_iconst (by decide +kernel : decode (mb_ 240) 83 = .ok (.iconst 3, 1)) ⟨by decide, by decide⟩
theorem ok_X12_writes_84 : ok_S 240 84 (sf_cs [0] 237 87) := ok_cs mt_237 (by decide +kernel : decode (mb_ 240) 84 = .ok (.invokestatic 279, 3)) tw_1549 tw_1550 tw_7 (by decide +kernel) (mh_ok rfl) (by decide) (by decide)
theorem ok_X12_writes_87 : ok_S 240 87 (sf_ld 0 2 88) := ok_iload_n (by decide +kernel : decode (mb_ 240) 87 = .ok (.iload_n 2, 1)) rfl
theorem ok_X12_writes_88 : ok_S 240 88 (sf_cv 13 [2, 0, 0] 240 91) := ok_cv mt_240 cl_13 (by decide +kernel : decode (mb_ 240) 88 = .ok (.invokevirtual 288, 3)) tw_1552 tw_1554 ts_62 tw_7 rfl (by decide +kernel) (mh_ok rfl) (by decide) (by decide)
theorem ok_X12_writes_91 : ok_S 240 91 (sf_st 0 3 92) := ok_istore_n (by decide +kernel : decode (mb_ 240) 91 = .ok (.istore_n 3, 1)) rfl
theorem ok_X12_writes_92 : ok_S 240 92 (sf_ld 0 3 93) := ok_iload_n (by decide +kernel : decode (mb_ 240) 92 = .ok (.iload_n 3, 1)) rfl
theorem ok_X12_writes_93 : ok_S 240 93 (sf_ld 2 0 94) := ok_aload_n (by decide +kernel : decode (mb_ 240) 93 = .ok (.aload_n 0, 1)) rfl
theorem ok_X12_writes_94 : ok_S 240 94 (sf_ld 2 0 95) := ok_aload_n (by decide +kernel : decode (mb_ 240) 94 = .ok (.aload_n 0, 1)) rfl
theorem ok_X12_writes_95 : ok_S 240 95 (sf_cv 13 [2] 238 98) := ok_cv mt_238 cl_13 (by decide +kernel : decode (mb_ 240) 95 = .ok (.invokevirtual 285, 3)) tw_1537 tw_1539 ts_59 tw_7 rfl (by decide +kernel) (mh_ok rfl) (by decide) (by decide)
theorem ok_X12_writes_98 : ok_S 240 98 (sf_ld 2 0 99) := ok_aload_n (by decide +kernel : decode (mb_ 240) 98 = .ok (.aload_n 0, 1)) rfl
theorem ok_X12_writes_99 : ok_S 240 99 (sf_gi 13 13 23 102) := ok_gi fd_13_23 (by decide +kernel : decode (mb_ 240) 99 = .ok (.getfield 272, 3)) tw_1149 (Or.inl rfl) rfl
theorem ok_X12_writes_102 : ok_S 240 102 (sf_cv 13 [2, 0, 0] 239 105) := ok_cv mt_239 cl_13 (by decide +kernel : decode (mb_ 240) 102 = .ok (.invokevirtual 282, 3)) tw_1541 tw_1543 ts_60 tw_7 rfl (by decide +kernel) (mh_ok rfl) (by decide) (by decide)
theorem ok_X12_writes_105 : ok_S 240 105 (sf_i2 mx_add 106) := ok_iadd (by decide +kernel : decode (mb_ 240) 105 = .ok (.iadd, 1))
theorem ok_X12_writes_106 : ok_S 240 106 (sf_ret 0) := ok_ret0 (by decide +kernel : decode (mb_ 240) 106 = .ok (.ireturn, 1)) rfl
theorem ok_X12_writes_107 : ok_S 240 107 (sf_ld 2 0 108) := ok_aload_n (by decide +kernel : decode (mb_ 240) 107 = .ok (.aload_n 0, 1)) rfl
theorem ok_X12_writes_108 : ok_S 240 108 (sf_ld 0 1 109) := ok_iload_n (by decide +kernel : decode (mb_ 240) 108 = .ok (.iload_n 1, 1)) rfl
theorem ok_X12_writes_109 : ok_S 240 109 (sf_cs [0] 237 112) := ok_cs mt_237 (by decide +kernel : decode (mb_ 240) 109 = .ok (.invokestatic 279, 3)) tw_1549 tw_1550 tw_7 (by decide +kernel) (mh_ok rfl) (by decide) (by decide)
theorem ok_X12_writes_112 : ok_S 240 112 (sf_ld 0 2 113) := ok_iload_n (by decide +kernel : decode (mb_ 240) 112 = .ok (.iload_n 2, 1)) rfl
theorem ok_X12_writes_113 : ok_S 240 113 (sf_cv 13 [2, 0, 0] 240 116) := ok_cv mt_240 cl_13 (by decide +kernel : decode (mb_ 240) 113 = .ok (.invokevirtual 288, 3)) tw_1552 tw_1554 ts_62 tw_7 rfl (by decide +kernel) (mh_ok rfl) (by decide) (by decide)
theorem ok_X12_writes_116 : ok_S 240 116 (sf_ret 0) := ok_ret0 (by decide +kernel : decode (mb_ 240) 116 = .ok (.ireturn, 1)) rfl
theorem ok_X12_writes (pc : Nat) : ok_S 240 pc (cd_X12_writes pc) :=
  (ok_bf (ok_bf (ok_bf (ok_bf (ok_bf (ok_bf (ok_lf pc ok_X12_writes_116) (ok_lf pc ok_X12_writes_113)) (ok_bf (ok_lf pc ok_X12_writes_112) (ok_lf pc ok_X12_writes_109))) (ok_bf (ok_bf (ok_lf pc ok_X12_writes_108) (ok_lf pc ok_X12_writes_107)) (ok_lf pc ok_X12_writes_106))) (ok_bf (ok_bf (ok_bf (ok_lf pc ok_X12_writes_105) (ok_lf pc ok_X12_writes_102)) (ok_bf (ok_lf pc ok_X12_writes_99) (ok_lf pc ok_X12_writes_98))) (ok_bf (ok_bf (ok_lf pc ok_X12_writes_95) (ok_lf pc ok_X12_writes_94)) (ok_lf pc ok_X12_writes_93)))) (ok_bf (ok_bf (ok_bf (ok_bf (ok_lf pc ok_X12_writes_92) (ok_lf pc ok_X12_writes_91)) (ok_bf (ok_lf pc ok_X12_writes_88) (ok_lf pc ok_X12_writes_87))) (ok_bf (ok_bf (ok_lf pc ok_X12_writes_84) (ok_lf pc ok_X12_writes_83)) (ok_lf pc ok_X12_writes_82))) (ok_bf (ok_bf (ok_bf (ok_lf pc ok_X12_writes_79) (ok_lf pc ok_X12_writes_77)) (ok_lf pc ok_X12_writes_76)) (ok_bf (ok_bf (ok_lf pc ok_X12_writes_75) (ok_lf pc ok_X12_writes_74)) (ok_lf pc ok_X12_writes_71))))) (ok_bf (ok_bf (ok_bf (ok_bf (ok_bf (ok_lf pc ok_X12_writes_70) (ok_lf pc ok_X12_writes_67)) (ok_bf (ok_lf pc ok_X12_writes_66) (ok_lf pc ok_X12_writes_65))) (ok_bf (ok_bf (ok_lf pc ok_X12_writes_62) (ok_lf pc ok_X12_writes_61)) (ok_lf pc ok_X12_writes_58))) (ok_bf (ok_bf (ok_bf (ok_lf pc ok_X12_writes_57) (ok_lf pc ok_X12_writes_56)) (ok_bf (ok_lf pc ok_X12_writes_53) (ok_lf pc ok_X12_writes_51))) (ok_bf (ok_bf (ok_lf pc ok_X12_writes_50) (ok_lf pc ok_X12_writes_49)) (ok_lf pc ok_X12_writes_48)))) (ok_bf (ok_bf (ok_bf (ok_bf (ok_lf pc ok_X12_writes_47) (ok_lf pc ok_X12_writes_44)) (ok_bf (ok_lf pc ok_X12_writes_43) (ok_lf pc ok_X12_writes_40))) (ok_bf (ok_bf (ok_lf pc ok_X12_writes_39) (ok_lf pc ok_X12_writes_38)) (ok_lf pc ok_X12_writes_35))) (ok_bf (ok_bf (ok_bf (ok_lf pc ok_X12_writes_33) (ok_lf pc ok_X12_writes_32)) (ok_lf pc ok_X12_writes_3)) (ok_bf (ok_bf (ok_lf pc ok_X12_writes_2) (ok_lf pc ok_X12_writes_1)) (ok_lf pc ok_X12_writes_0))))))
theorem mo_X12_writes (pc : Nat) : mo_S (cd_X12_writes pc) :=
  (mo_bf (mo_bf (mo_bf (mo_bf (mo_bf (mo_bf (mo_bf mo_ret mo_no) (mo_bf mo_cv mo_no)) (mo_bf (mo_bf mo_ld mo_no) (mo_bf mo_cs mo_no))) (mo_bf (mo_bf (mo_bf mo_ld mo_no) (mo_bf mo_ld mo_no)) (mo_bf mo_ret mo_no))) (mo_bf (mo_bf (mo_bf (mo_bf mo_i2 mo_no) (mo_bf mo_cv mo_no)) (mo_bf (mo_bf mo_gi mo_no) (mo_bf mo_ld mo_no))) (mo_bf (mo_bf (mo_bf mo_cv mo_no) (mo_bf mo_ld mo_no)) (mo_bf mo_ld mo_no)))) (mo_bf (mo_bf (mo_bf (mo_bf (mo_bf mo_ld mo_no) (mo_bf mo_st mo_no)) (mo_bf (mo_bf mo_cv mo_no) (mo_bf mo_ld mo_no))) (mo_bf (mo_bf (mo_bf mo_cs mo_no) (mo_bf mo_push mo_no)) (mo_bf mo_ld mo_no))) (mo_bf (mo_bf (mo_bf (mo_bf mo_cv mo_no) (mo_bf mo_push mo_no)) (mo_bf mo_ld mo_no)) (mo_bf (mo_bf (mo_bf mo_ret mo_no) (mo_bf mo_i2 mo_no)) (mo_bf mo_cv mo_no))))) (mo_bf (mo_bf (mo_bf (mo_bf (mo_bf (mo_bf mo_push mo_no) (mo_bf mo_gi mo_no)) (mo_bf (mo_bf mo_ld mo_no) (mo_bf mo_ld mo_no))) (mo_bf (mo_bf (mo_bf mo_cv mo_no) (mo_bf mo_ld mo_no)) (mo_bf mo_cs mo_no))) (mo_bf (mo_bf (mo_bf (mo_bf mo_push mo_no) (mo_bf mo_ld mo_no)) (mo_bf (mo_bf mo_cv mo_no) (mo_bf mo_push mo_no))) (mo_bf (mo_bf (mo_bf mo_ld mo_no) (mo_bf mo_ret mo_no)) (mo_bf mo_i2 mo_no)))) (mo_bf (mo_bf (mo_bf (mo_bf (mo_bf mo_push mo_no) (mo_bf mo_cv mo_no)) (mo_bf (mo_bf mo_ld mo_no) (mo_bf mo_cv mo_no))) (mo_bf (mo_bf (mo_bf mo_ld mo_no) (mo_bf mo_ld mo_no)) (mo_bf mo_cv mo_no))) (mo_bf (mo_bf (mo_bf (mo_bf mo_push mo_no) (mo_bf mo_ld mo_no)) (mo_bf mo_sw mo_no)) (mo_bf (mo_bf (mo_bf mo_ld mo_no) (mo_bf mo_st mo_no)) (mo_bf mo_push mo_no))))))
theorem ok_X12_shares_0 : ok_S 241 0 (sf_push (0, 0) 1) := ok_iconst (by decide +kernel : decode (mb_ 241) 0 = .ok (.iconst 0, 1)) ⟨by decide, by decide⟩
theorem ok_X12_shares_1 : ok_S 241 1 (sf_st 0 3 2) := ok_istore_n (by decide +kernel : decode (mb_ 241) 1 = .ok (.istore_n 3, 1)) rfl
theorem ok_X12_shares_2 : ok_S 241 2 (sf_ld 0 1 3) := ok_iload_n (by decide +kernel : decode (mb_ 241) 2 = .ok (.iload_n 1, 1)) rfl
theorem ok_X12_shares_3 : ok_S 241 3 (sf_sw [(0, 36), (4, 104), (5, 151)] 171) := ok_lsw (by decide +kernel : decode (mb_ 241) 3 = .ok (.lookupswitch 168 #[(0, 33), (4, 101), (5, 148)], 33)) (by decide) (by decide) (by decide) (by decide)
theorem ok_X12_shares_36 : ok_S 241 36 (sf_ld 2 0 37) := ok_aload_n (by decide +kernel : decode (mb_ 241) 36 = .ok (.aload_n 0, 1)) rfl
theorem ok_X12_shares_37 : ok_S 241 37 (sf_push (0, 12) 39) := ok_bipush (by decide +kernel : decode (mb_ 241) 37 = .ok (.bipush 12, 2)) ⟨by decide, by decide⟩ (by decide +kernel)
theorem ok_X12_shares_39 : ok_S 241 39 (sf_cv 13 [2, 0] 236 42) := ok_cv mt_236 cl_13 (by decide +kernel : decode (mb_ 241) 39 = .ok (.invokevirtual 275, 3)) tw_1545 tw_1547 ts_61 tw_7 rfl (by decide +kernel) (mh_ok rfl) (by decide) (by decide)
theorem ok_X12_shares_42 : ok_S 241 42 (sf_ld 2 0 43) := ok_aload_n (by decide +kernel : decode (mb_ 241) 42 = .ok (.aload_n 0, 1)) rfl
theorem ok_X12_shares_43 : ok_S 241 43 (sf_ld 2 0 44) := ok_aload_n (by decide +kernel : decode (mb_ 241) 43 = .ok (.aload_n 0, 1)) rfl
theorem ok_X12_shares_44 : ok_S 241 44 (sf_gi 13 13 23 47) := ok_gi fd_13_23 (by decide +kernel : decode (mb_ 241) 44 = .ok (.getfield 272, 3)) tw_1149 (Or.inl rfl) rfl
theorem ok_X12_shares_47 : ok_S 241 47 (sf_push (0, 2) 48) := ok_iconst (by decide +kernel : decode (mb_ 241) 47 = .ok (.iconst 2, 1)) ⟨by decide, by decide⟩
theorem ok_X12_shares_48 : ok_S 241 48 (sf_cv 13 [2, 0, 0] 161 51) := ok_cv mt_161 cl_13 (by decide +kernel : decode (mb_ 241) 48 = .ok (.invokevirtual 162, 3)) tw_1285 tw_1287 ts_40 tw_7 rfl (by decide +kernel) (mh_ok rfl) (by decide) (by decide)
theorem ok_X12_shares_51 : ok_S 241 51 (sf_ld 2 0 52) := ok_aload_n (by decide +kernel : decode (mb_ 241) 51 = .ok (.aload_n 0, 1)) rfl
theorem ok_X12_shares_52 : ok_S 241 52 (sf_gi 13 13 23 55) := ok_gi fd_13_23 (by decide +kernel : decode (mb_ 241) 52 = .ok (.getfield 272, 3)) tw_1149 (Or.inl rfl) rfl
theorem ok_X12_shares_55 : ok_S 241 55 (sf_i2 mx_sub 56) := ok_isub (by decide +kernel : decode (mb_ 241) 55 = .ok (.isub, 1))
theorem ok_X12_shares_56 : ok_S 241 56 (sf_st 0 4 58) := ok_istore (by decide +kernel : decode (mb_ 241) 56 = .ok (.istore 4, 2))
theorem ok_X12_shares_58 : ok_S 241 58 (sf_ld 2 0 59) := ok_aload_n (by decide +kernel : decode (mb_ 241) 58 = .ok (.aload_n 0, 1)) rfl
theorem ok_X12_shares_59 : ok_S 241 59 (sf_ld 2 0 60) := ok_aload_n (by decide +kernel : decode (mb_ 241) 59 = .ok (.aload_n 0, 1)) rfl
theorem ok_X12_shares_60 : ok_S 241 60 (sf_gi 13 13 24 63) := ok_gi fd_13_24 (by decide +kernel : decode (mb_ 241) 60 = .ok (.getfield 291, 3)) tw_1150 (Or.inl rfl) rfl
theorem ok_X12_shares_63 : ok_S 241 63 (sf_if 1 71 66) := ok_if1 (by decide +kernel : decode (mb_ 241) 63 = .ok (.ifCond .ne 8, 3)) (by decide)
theorem ok_X12_shares_66 : ok_S 241 66 (sf_ld 0 4 68) := ok_iload (by decide +kernel : decode (mb_ 241) 66 = .ok (.iload 4, 2))
theorem ok_X12_shares_68 : ok_S 241 68 (sf_if 1 75 71) := ok_if1 (by decide +kernel : decode (mb_ 241) 68 = .ok (.ifCond .ne 7, 3)) (by decide)
theorem ok_X12_shares_71 : ok_S 241 71 (sf_push (0, 1) 72) := ok_iconst (by decide +kernel : decode (mb_ 241) 71 = .ok (.iconst 1, 1)) ⟨by decide, by decide⟩
theorem ok_X12_shares_72 : ok_S 241 72 (sf_go 76) := ok_goto (by decide +kernel : decode (mb_ 241) 72 = .ok (.goto 4, 3)) (by decide)
theorem ok_X12_shares_75 : ok_S 241 75 (sf_push (0, 0) 76) := ok_iconst (by decide +kernel : decode (mb_ 241) 75 = .ok (.iconst 0, 1)) ⟨by decide, by decide⟩
theorem ok_X12_shares_76 : ok_S 241 76 (sf_pz 13 13 24 79) := ok_pz fd_13_24 (by decide +kernel : decode (mb_ 241) 76 = .ok (.putfield 291, 3)) tw_1150 rfl (Or.inl ff_13_24) rfl
theorem ok_X12_shares_79 : ok_S 241 79 (sf_ld 0 4 81) := ok_iload (by decide +kernel : decode (mb_ 241) 79 = .ok (.iload 4, 2))
theorem ok_X12_shares_81 : ok_S 241 81 (sf_if 1 88 84) := ok_if1 (by decide +kernel : decode (mb_ 241) 81 = .ok (.ifCond .ne 7, 3)) (by decide)
theorem ok_X12_shares_84 : ok_S 241 84 (sf_push (0, 0) 85) := ok_iconst (by decide +kernel : decode (mb_ 241) 84 = .ok (.iconst 0, 1)) ⟨by decide, by decide⟩
theorem ok_X12_shares_85 : ok_S 241 85 (sf_go 103) := ok_goto (by decide +kernel : decode (mb_ 241) 85 = .ok (.goto 18, 3)) (by decide)
theorem ok_X12_shares_88 : ok_S 241 88 (sf_ld 0 4 90) := ok_iload (by decide +kernel : decode (mb_ 241) 88 = .ok (.iload 4, 2))
theorem ok_X12_shares_90 : ok_S 241 90 (sf_push (0, (-1)) 91) := ok_iconst (by decide +kernel : decode (mb_ 241) 90 = .ok (.iconst (-1), 1)) ⟨by decide, by decide⟩
theorem ok_X12_shares_91 : ok_S 241 91 (sf_ic 1 99 94) := ok_ic1 (by decide +kernel : decode (mb_ 241) 91 = .ok (.if_icmp .ne 8, 3)) (by decide)
theorem ok_X12_shares_94 : ok_S 241 94 (sf_ld 0 2 95) := ok_iload_n (by decide +kernel : decode (mb_ 241) 94 = .ok (.iload_n 2, 1)) rfl
theorem ok_X12_shares_95 : ok_S 241 95 (sf_i1 mx_neg 96) := ok_ineg (by decide +kernel : decode (mb_ 241) 95 = .ok (.ineg, 1))
theorem ok_X12_shares_96 : ok_S 241 96 (sf_go 103) := ok_goto (by decide +kernel : decode (mb_ 241) 96 = .ok (.goto 7, 3)) (by decide)
theorem ok_X12_shares_99 : ok_S 241 99 (sf_ld 0 2 100) := ok_iload_n (by decide +kernel : decode (mb_ 241) 99 = .ok (.iload_n 2, 1)) rfl
theorem ok_X12_shares_100 : ok_S 241 100 (sf_ld 0 4 102) := ok_iload (by decide +kernel : decode (mb_ 241) 100 = .ok (.iload 4, 2))
theorem ok_X12_shares_102 : ok_S 241 102 (sf_i2d mx_div 103) := ok_idiv (by decide +kernel : decode (mb_ 241) 102 = .ok (.idiv, 1))
theorem ok_X12_shares_103 : ok_S 241 103 (sf_ret 0) := ok_ret0 (by decide +kernel : decode (mb_ 241) 103 = .ok (.ireturn, 1)) rfl
theorem ok_X12_shares_104 : ok_S 241 104 (sf_ld 2 0 105) := ok_aload_n (by decide +kernel : decode (mb_ 241) 104 = .ok (.aload_n 0, 1)) rfl
theorem ok_X12_shares_105 : ok_S 241 105 (sf_push (0, 61) 107) := ok_bipush (by decide +kernel : decode (mb_ 241) 105 = .ok (.bipush 61, 2)) ⟨by decide, by decide⟩ (by decide +kernel)
theorem ok_X12_shares_107 : ok_S 241 107 (sf_cv 13 [2, 0] 236 110) := ok_cv mt_236 cl_13 (by decide +kernel : decode (mb_ 241) 107 = .ok (.invokevirtual 275, 3)) tw_1545 tw_1547 ts_61 tw_7 rfl (by decide +kernel) (mh_ok rfl) (by decide) (by decide)
theorem ok_X12_shares_110 : ok_S 241 110 (sf_ld 2 0 111) := ok_aload_n (by decide +kernel : decode (mb_ 241) 110 = .ok (.aload_n 0, 1)) rfl
theorem ok_X12_shares_111 : ok_S 241 111 (sf_push (0, 4) 112) := ok_iconst (by decide +kernel : decode (mb_ 241) 111 = .ok (.iconst 4, 1)) ⟨by decide, by decide⟩
theorem ok_X12_shares_112 : ok_S 241 112 (sf_cs [0] 237 115) := ok_cs mt_237 (by decide +kernel : decode (mb_ 241) 112 = .ok (.invokestatic 279, 3)) tw_1549 tw_1550 tw_7 (by decide +kernel) (mh_ok rfl) (by decide) (by decide)
theorem ok_X12_shares_115 : ok_S 241 115 (sf_ld 0 2 116) := ok_iload_n (by decide +kernel : decode (mb_ 241) 115 = .ok (.iload_n 2, 1)) rfl
theorem ok_X12_shares_116 : ok_S 241 116 (sf_cv 13 [2, 0, 0] 241 119) := ok_cv mt_241 cl_13 (by decide +kernel : decode (mb_ 241) 116 = .ok (.invokevirtual 295, 3)) tw_1556 tw_1558 ts_63 tw_7 rfl (by decide +kernel) (mh_ok rfl) (by decide) (by decide)
theorem ok_X12_shares_119 : ok_S 241 119 (sf_st 0 3 120) := ok_istore_n (by decide +kernel : decode (mb_ 241) 119 = .ok (.istore_n 3, 1)) rfl
theorem ok_X12_shares_120 : ok_S 241 120 (sf_ld 2 0 121) := ok_aload_n (by decide +kernel : decode (mb_ 241) 120 = .ok (.aload_n 0, 1)) rfl
theorem ok_X12_shares_121 : ok_S 241 121 (sf_gi 13 13 24 124) := ok_gi fd_13_24 (by decide +kernel : decode (mb_ 241) 121 = .ok (.getfield 291, 3)) tw_1150 (Or.inl rfl) rfl
theorem ok_X12_shares_124 : ok_S 241 124 (sf_if 0 131 127) := ok_if0 (by decide +kernel : decode (mb_ 241) 124 = .ok (.ifCond .eq 7, 3)) (by decide)
theorem ok_X12_shares_127 : ok_S 241 127 (sf_push (0, 0) 128) := ok_iconst (by decide +kernel : decode (mb_ 241) 127 = .ok (.iconst 0, 1)) ⟨by decide, by decide⟩
theorem ok_X12_shares_128 : ok_S 241 128 (sf_go 150) := ok_goto (by decide +kernel : decode (mb_ 241) 128 = .ok (.goto 22, 3)) (by decide)
theorem ok_X12_shares_131 : ok_S 241 131 (sf_ld 0 3 132) := ok_iload_n (by decide +kernel : decode (mb_ 241) 131 = .ok (.iload_n 3, 1)) rfl
theorem ok_X12_shares_132 : ok_S 241 132 (sf_ld 2 0 133) := ok_aload_n (by decide +kernel : decode (mb_ 241) 132 = .ok (.aload_n 0, 1)) rfl
theorem ok_X12_shares_133 : ok_S 241 133 (sf_ld 2 0 134) := ok_aload_n (by decide +kernel : decode (mb_ 241) 133 = .ok (.aload_n 0, 1)) rfl
theorem ok_X12_shares_134 : ok_S 241 134 (sf_cv 13 [2] 238 137) := ok_cv mt_238 cl_13 (by decide +kernel : decode (mb_ 241) 134 = .ok (.invokevirtual 285, 3)) tw_1537 tw_1539 ts_59 tw_7 rfl (by decide +kernel) (mh_ok rfl) (by decide) (by decide)
theorem ok_X12_shares_137 : ok_S 241 137 (sf_ld 2 0 138) := ok_aload_n (by decide +kernel : decode (mb_ 241) 137 = .ok (.aload_n 0, 1)) rfl
theorem ok_X12_shares_138 : ok_S 241 138 (sf_ld 2 0 139) := ok_aload_n (by decide +kernel : decode (mb_ 241) 138 = .ok (.aload_n 0, 1)) rfl
theorem ok_X12_shares_139 : ok_S 241 139 (sf_gi 13 13 23 142) := ok_gi fd_13_23 (by decide +kernel : decode (mb_ 241) 139 = .ok (.getfield 272, 3)) tw_1149 (Or.inl rfl) rfl
theorem ok_X12_shares_142 : ok_S 241 142 (sf_push (0, 2) 143) := ok_iconst (by decide +kernel : decode (mb_ 241) 142 = .ok (.iconst 2, 1)) ⟨by decide, by decide⟩
theorem ok_X12_shares_143 : ok_S 241 143 (sf_cv 13 [2, 0, 0] 161 146) := ok_cv mt_161 cl_13 (by decide +kernel : decode (mb_ 241) 143 = .ok (.invokevirtual 162, 3)) tw_1285 tw_1287 ts_40 tw_7 rfl (by decide +kernel) (mh_ok rfl) (by decide) (by decide)
theorem ok_X12_shares_146 : ok_S 241 146 (sf_cv 13 [2, 0, 0] 239 149) := ok_cv mt_239 cl_13 (by decide +kernel : decode (mb_ 241) 146 = .ok (.invokevirtual 282, 3)) tw_1541 tw_1543 ts_60 tw_7 rfl (by decide +kernel) (mh_ok rfl) (by decide) (by decide)
theorem ok_X12_shares_149 : ok_S 241 149 (sf_i2 mx_add 150) := ok_iadd (by decide +kernel : decode (mb_ 241) 149 = .ok (.iadd, 1))
theorem ok_X12_shares_150 : ok_S 241 150 (sf_ret 0) := ok_ret0 (by decide +kernel : decode (mb_ 241) 150 = .ok (.ireturn, 1)) rfl
theorem ok_X12_shares_151 : ok_S 241 151 (sf_ld 2 0 152) := ok_aload_n (by decide +kernel : decode (mb_ 241) 151 = .ok (.aload_n 0, 1)) rfl
theorem ok_X12_shares_152 : ok_S 241 152 (sf_push (0, 50) 154) := ok_bipush (by decide +kernel : decode (mb_ 241) 152 = .ok (.bipush 50, 2)) ⟨by decide, by decide⟩ (by decide +kernel)
theorem ok_X12_shares_154 : ok_S 241 154 (sf_cv 13 [2, 0] 236 157) := ok_cv mt_236 cl_13 (by decide +kernel : decode (mb_ 241) 154 = .ok (.invokevirtual 275, 3)) tw_1545 tw_1547 ts_61 tw_7 rfl (by decide +kernel) (mh_ok rfl) (by decide) (by decide)
theorem ok_X12_shares_157 : ok_S 241 157 (sf_ld 2 0 158) := ok_aload_n (by decide +kernel : decode (mb_ 241) 157 = .ok (.aload_n 0, 1)) rfl
theorem ok_X12_shares_158 : ok_S 241 158 (sf_push (0, 5) 159) := ok_iconst (by decide +kernel : decode (mb_ 241) 158 = .ok (.iconst 5, 1)) ⟨by decide, by decide⟩
theorem ok_X12_shares_159 : ok_S 241 159 (sf_cs [0] 237 162) := ok_cs mt_237 (by decide +kernel : decode (mb_ 241) 159 = .ok (.invokestatic 279, 3)) tw_1549 tw_1550 tw_7 (by decide +kernel) (mh_ok rfl) (by decide) (by decide)
theorem ok_X12_shares_162 : ok_S 241 162 (sf_ld 0 2 163) := ok_iload_n (by decide +kernel : decode (mb_ 241) 162 = .ok (.iload_n 2, 1)) rfl
theorem ok_X12_shares_163 : ok_S 241 163 (sf_push (0, 2) 164) := ok_iconst (by decide +kernel : decode (mb_ 241) 163 = .ok (.iconst 2, 1)) ⟨by decide, by decide⟩
theorem ok_X12_shares_164 : ok_S 241 164 (sf_i2 mx_add 165) := ok_iadd (by decide +kernel : decode (mb_ 241) 164 = .ok (.iadd, 1))
theorem ok_X12_shares_165 : ok_S 241 165 (sf_cv 13 [2, 0, 0] 241 168) := ok_cv mt_241 cl_13 (by decide +kernel : decode (mb_ 241) 165 = .ok (.invokevirtual 295, 3)) tw_1556 tw_1558 ts_63 tw_7 rfl (by decide +kernel) (mh_ok rfl) (by decide) (by decide)
theorem ok_X12_shares_168 : ok_S 241 168 (sf_push (0, 1) 169) := ok_iconst (by decide +kernel : decode (mb_ 241) 168 = .ok (.iconst 1, 1)) ⟨by decide, by decide⟩
theorem ok_X12_shares_169 : ok_S 241 169 (sf_i2 mx_xor 170) := ok_ixor (by decide +kernel : decode (mb_ 241) 169 = .ok (.ixor, 1))
theorem ok_X12_shares_170 : ok_S 241 170 (sf_ret 0) := ok_ret0 (by decide +kernel : decode (mb_ 241) 170 = .ok (.ireturn, 1)) rfl
theorem ok_X12_shares_171 : ok_S 241 171 (sf_ld 2 0 172) := ok_aload_n (by decide +kernel : decode (mb_ 241) 171 = .ok (.aload_n 0, 1)) rfl
theorem ok_X12_shares_172 : ok_S 241 172 (sf_ld 0 1 173) := ok_iload_n (by decide +kernel : decode (mb_ 241) 172 = .ok (.iload_n 1, 1)) rfl
theorem ok_X12_shares_173 : ok_S 241 173 (sf_cs [0] 237 176) := ok_cs mt_237 (by decide +kernel : decode (mb_ 241) 173 = .ok (.invokestatic 279, 3)) tw_1549 tw_1550 tw_7 (by decide +kernel) (mh_ok rfl) (by decide) (by decide)
theorem ok_X12_shares_176 : ok_S 241 176 (sf_ld 0 2 177) := ok_iload_n (by decide +kernel : decode (mb_ 241) 176 = .ok (.iload_n 2, 1)) rfl
theorem ok_X12_shares_177 : ok_S 241 177 (sf_cv 13 [2, 0, 0] 241 180) := ok_cv mt_241 cl_13 (by decide +kernel : decode (mb_ 241) 177 = .ok (.invokevirtual 295, 3)) tw_1556 tw_1558 ts_63 tw_7 rfl (by decide +kernel) (mh_ok rfl) (by decide) (by decide)
theorem ok_X12_shares_180 : ok_S 241 180 (sf_ret 0) := ok_ret0 (by decide +kernel : decode (mb_ 241) 180 = .ok (.ireturn, 1)) rfl
theorem ok_X12_shares (pc : Nat) : ok_S 241 pc (cd_X12_shares pc) :=
  (ok_bf (ok_bf (ok_bf (ok_bf (ok_bf (ok_bf (ok_bf (ok_lf pc ok_X12_shares_180) (ok_lf pc ok_X12_shares_177)) (ok_lf pc ok_X12_shares_176)) (ok_bf (ok_bf (ok_lf pc ok_X12_shares_173) (ok_lf pc ok_X12_shares_172)) (ok_lf pc ok_X12_shares_171))) (ok_bf (ok_bf (ok_bf (ok_lf pc ok_X12_shares_170) (ok_lf pc ok_X12_shares_169)) (ok_lf pc ok_X12_shares_168)) (ok_bf (ok_lf pc ok_X12_shares_165) (ok_lf pc ok_X12_shares_164)))) (ok_bf (ok_bf (ok_bf (ok_bf (ok_lf pc ok_X12_shares_163) (ok_lf pc ok_X12_shares_162)) (ok_lf pc ok_X12_shares_159)) (ok_bf (ok_bf (ok_lf pc ok_X12_shares_158) (ok_lf pc ok_X12_shares_157)) (ok_lf pc ok_X12_shares_154))) (ok_bf (ok_bf (ok_bf (ok_lf pc ok_X12_shares_152) (ok_lf pc ok_X12_shares_151)) (ok_lf pc ok_X12_shares_150)) (ok_bf (ok_lf pc ok_X12_shares_149) (ok_lf pc ok_X12_shares_146))))) (ok_bf (ok_bf (ok_bf (ok_bf (ok_bf (ok_lf pc ok_X12_shares_143) (ok_lf pc ok_X12_shares_142)) (ok_lf pc ok_X12_shares_139)) (ok_bf (ok_bf (ok_lf pc ok_X12_shares_138) (ok_lf pc ok_X12_shares_137)) (ok_lf pc ok_X12_shares_134))) (ok_bf (ok_bf (ok_bf (ok_lf pc ok_X12_shares_133) (ok_lf pc ok_X12_shares_132)) (ok_lf pc ok_X12_shares_131)) (ok_bf (ok_lf pc ok_X12_shares_128) (ok_lf pc ok_X12_shares_127)))) (ok_bf (ok_bf (ok_bf (ok_bf (ok_lf pc ok_X12_shares_124) (ok_lf pc ok_X12_shares_121)) (ok_lf pc ok_X12_shares_120)) (ok_bf (ok_lf pc ok_X12_shares_119) (ok_lf pc ok_X12_shares_116))) (ok_bf (ok_bf (ok_bf (ok_lf pc ok_X12_shares_115) (ok_lf pc ok_X12_shares_112)) (ok_lf pc ok_X12_shares_111)) (ok_bf (ok_lf pc ok_X12_shares_110) (ok_lf pc ok_X12_shares_107)))))) (ok_bf (ok_bf (ok_bf (ok_bf (ok_bf (ok_bf (ok_lf pc ok_X12_shares_105) (ok_lf pc ok_X12_shares_104)) (ok_lf pc ok_X12_shares_103)) (ok_bf (ok_bf (ok_lf pc ok_X12_shares_102) (ok_lf pc ok_X12_shares_100)) (ok_lf pc ok_X12_shares_99))) (ok_bf (ok_bf (ok_bf (ok_lf pc ok_X12_shares_96) (ok_lf pc ok_X12_shares_95)) (ok_lf pc ok_X12_shares_94)) (ok_bf (ok_lf pc ok_X12_shares_91) (ok_lf pc ok_X12_shares_90)))) (ok_bf (ok_bf (ok_bf (ok_bf (ok_lf pc ok_X12_shares_88) (ok_lf pc ok_X12_shares_85)) (ok_lf pc ok_X12_shares_84)) (ok_bf (ok_lf pc ok_X12_shares_81) (ok_lf pc ok_X12_shares_79))) (ok_bf (ok_bf (ok_bf (ok_lf pc ok_X12_shares_76) (ok_lf pc ok_X12_shares_75)) (ok_lf pc ok_X12_shares_72)) (ok_bf (ok_lf pc ok_X12_shares_71) (ok_lf pc ok_X12_shares_68))))) (ok_bf (ok_bf (ok_bf (ok_bf (ok_bf (ok_lf pc ok_X12_shares_66) (ok_lf pc ok_X12_shares_63)) (ok_lf pc ok_X12_shares_60)) (ok_bf (ok_bf (ok_lf pc ok_X12_shares_59) (ok_lf pc ok_X12_shares_58)) (ok_lf pc ok_X12_shares_56))) (ok_bf (ok_bf (ok_bf (ok_lf pc ok_X12_shares_55) (ok_lf pc ok_X12_shares_52)) (ok_lf pc ok_X12_shares_51)) (ok_bf (ok_lf pc ok_X12_shares_48) (ok_lf pc ok_X12_shares_47)))) (ok_bf (ok_bf (ok_bf (ok_bf (ok_lf pc ok_X12_shares_44) (ok_lf pc ok_X12_shares_43)) (ok_lf pc ok_X12_shares_42)) (ok_bf (ok_lf pc ok_X12_shares_39) (ok_lf pc ok_X12_shares_37))) (ok_bf (ok_bf (ok_bf (ok_lf pc ok_X12_shares_36) (ok_lf pc ok_X12_shares_3)) (ok_lf pc ok_X12_shares_2)) (ok_bf (ok_lf pc ok_X12_shares_1) (ok_lf pc ok_X12_shares_0)))))))
theorem mo_X12_shares (pc : Nat) : mo_S (cd_X12_shares pc) :=
  (mo_bf (mo_bf (mo_bf (mo_bf (mo_bf (mo_bf (mo_bf (mo_bf mo_ret mo_no) (mo_bf mo_cv mo_no)) (mo_bf mo_ld mo_no)) (mo_bf (mo_bf (mo_bf mo_cs mo_no) (mo_bf mo_ld mo_no)) (mo_bf mo_ld mo_no))) (mo_bf (mo_bf (mo_bf (mo_bf mo_ret mo_no) (mo_bf mo_i2 mo_no)) (mo_bf mo_push mo_no)) (mo_bf (mo_bf mo_cv mo_no) (mo_bf mo_i2 mo_no)))) (mo_bf (mo_bf (mo_bf (mo_bf (mo_bf mo_push mo_no) (mo_bf mo_ld mo_no)) (mo_bf mo_cs mo_no)) (mo_bf (mo_bf (mo_bf mo_push mo_no) (mo_bf mo_ld mo_no)) (mo_bf mo_cv mo_no))) (mo_bf (mo_bf (mo_bf (mo_bf mo_push mo_no) (mo_bf mo_ld mo_no)) (mo_bf mo_ret mo_no)) (mo_bf (mo_bf mo_i2 mo_no) (mo_bf mo_cv mo_no))))) (mo_bf (mo_bf (mo_bf (mo_bf (mo_bf (mo_bf mo_cv mo_no) (mo_bf mo_push mo_no)) (mo_bf mo_gi mo_no)) (mo_bf (mo_bf (mo_bf mo_ld mo_no) (mo_bf mo_ld mo_no)) (mo_bf mo_cv mo_no))) (mo_bf (mo_bf (mo_bf (mo_bf mo_ld mo_no) (mo_bf mo_ld mo_no)) (mo_bf mo_ld mo_no)) (mo_bf (mo_bf mo_go mo_no) (mo_bf mo_push mo_no)))) (mo_bf (mo_bf (mo_bf (mo_bf (mo_bf mo_if mo_no) (mo_bf mo_gi mo_no)) (mo_bf mo_ld mo_no)) (mo_bf (mo_bf mo_st mo_no) (mo_bf mo_cv mo_no))) (mo_bf (mo_bf (mo_bf (mo_bf mo_ld mo_no) (mo_bf mo_cs mo_no)) (mo_bf mo_push mo_no)) (mo_bf (mo_bf mo_ld mo_no) (mo_bf mo_cv mo_no)))))) (mo_bf (mo_bf (mo_bf (mo_bf (mo_bf (mo_bf (mo_bf mo_push mo_no) (mo_bf mo_ld mo_no)) (mo_bf mo_ret mo_no)) (mo_bf (mo_bf (mo_bf mo_i2d mo_no) (mo_bf mo_ld mo_no)) (mo_bf mo_ld mo_no))) (mo_bf (mo_bf (mo_bf (mo_bf mo_go mo_no) (mo_bf mo_i1 mo_no)) (mo_bf mo_ld mo_no)) (mo_bf (mo_bf mo_ic mo_no) (mo_bf mo_push mo_no)))) (mo_bf (mo_bf (mo_bf (mo_bf (mo_bf mo_ld mo_no) (mo_bf mo_go mo_no)) (mo_bf mo_push mo_no)) (mo_bf (mo_bf mo_if mo_no) (mo_bf mo_ld mo_no))) (mo_bf (mo_bf (mo_bf (mo_bf mo_pz mo_no) (mo_bf mo_push mo_no)) (mo_bf mo_go mo_no)) (mo_bf (mo_bf mo_push mo_no) (mo_bf mo_if mo_no))))) (mo_bf (mo_bf (mo_bf (mo_bf (mo_bf (mo_bf mo_ld mo_no) (mo_bf mo_if mo_no)) (mo_bf mo_gi mo_no)) (mo_bf (mo_bf (mo_bf mo_ld mo_no) (mo_bf mo_ld mo_no)) (mo_bf mo_st mo_no))) (mo_bf (mo_bf (mo_bf (mo_bf mo_i2 mo_no) (mo_bf mo_gi mo_no)) (mo_bf mo_ld mo_no)) (mo_bf (mo_bf mo_cv mo_no) (mo_bf mo_push mo_no)))) (mo_bf (mo_bf (mo_bf (mo_bf (mo_bf mo_gi mo_no) (mo_bf mo_ld mo_no)) (mo_bf mo_ld mo_no)) (mo_bf (mo_bf mo_cv mo_no) (mo_bf mo_push mo_no))) (mo_bf (mo_bf (mo_bf (mo_bf mo_ld mo_no) (mo_bf mo_sw mo_no)) (mo_bf mo_ld mo_no)) (mo_bf (mo_bf mo_st mo_no) (mo_bf mo_push mo_no)))))))
theorem ok_X12_tells_0 : ok_S 242 0 (sf_push (0, 0) 1) := ok_iconst (by decide +kernel : decode (mb_ 242) 0 = .ok (.iconst 0, 1)) ⟨by decide, by decide⟩
theorem ok_X12_tells_1 : ok_S 242 1 (sf_st 0 3 2) := ok_istore_n (by decide +kernel : decode (mb_ 242) 1 = .ok (.istore_n 3, 1)) rfl
theorem ok_X12_tells_2 : ok_S 242 2 (sf_ld 0 1 3) := ok_iload_n (by decide +kernel : decode (mb_ 242) 2 = .ok (.iload_n 1, 1)) rfl
theorem ok_X12_tells_3 : ok_S 242 3 (sf_sw [(0, 36), (1, 111), (2, 62), (3, 111), (4, 93)] 111) := ok_tsw (by decide +kernel : decode (mb_ 242) 3 = .ok (.tableswitch 108 0 4 #[33, 108, 59, 108, 90], 33)) (by decide) (by decide) (by decide) (by decide)
theorem ok_X12_tells_36 : ok_S 242 36 (sf_ld 2 0 37) := ok_aload_n (by decide +kernel : decode (mb_ 242) 36 = .ok (.aload_n 0, 1)) rfl
theorem ok_X12_tells_37 : ok_S 242 37 (sf_push (0, 13) 39) := ok_bipush (by decide +kernel : decode (mb_ 242) 37 = .ok (.bipush 13, 2)) ⟨by decide, by decide⟩ (by decide +kernel)
theorem ok_X12_tells_39 : ok_S 242 39 (sf_cv 13 [2, 0] 236 42) := ok_cv mt_236 cl_13 (by decide +kernel : decode (mb_ 242) 39 = .ok (.invokevirtual 275, 3)) tw_1545 tw_1547 ts_61 tw_7 rfl (by decide +kernel) (mh_ok rfl) (by decide) (by decide)
theorem ok_X12_tells_42 : ok_S 242 42 (sf_ld 2 0 43) := ok_aload_n (by decide +kernel : decode (mb_ 242) 42 = .ok (.aload_n 0, 1)) rfl
theorem ok_X12_tells_43 : ok_S 242 43 (sf_ld 2 0 44) := ok_aload_n (by decide +kernel : decode (mb_ 242) 43 = .ok (.aload_n 0, 1)) rfl
theorem ok_X12_tells_44 : ok_S 242 44 (sf_cv 13 [2] 238 47) := ok_cv mt_238 cl_13 (by decide +kernel : decode (mb_ 242) 44 = .ok (.invokevirtual 285, 3)) tw_1537 tw_1539 ts_59 tw_7 rfl (by decide +kernel) (mh_ok rfl) (by decide) (by decide)
theorem ok_X12_tells_47 : ok_S 242 47 (sf_ld 0 2 48) := ok_iload_n (by decide +kernel : decode (mb_ 242) 47 = .ok (.iload_n 2, 1)) rfl
theorem ok_X12_tells_48 : ok_S 242 48 (sf_cv 13 [2, 0, 0] 240 51) := ok_cv mt_240 cl_13 (by decide +kernel : decode (mb_ 242) 48 = .ok (.invokevirtual 288, 3)) tw_1552 tw_1554 ts_62 tw_7 rfl (by decide +kernel) (mh_ok rfl) (by decide) (by decide)
theorem ok_X12_tells_51 : ok_S 242 51 (sf_ld 2 0 52) := ok_aload_n (by decide +kernel : decode (mb_ 242) 51 = .ok (.aload_n 0, 1)) rfl
theorem ok_X12_tells_52 : ok_S 242 52 (sf_ld 2 0 53) := ok_aload_n (by decide +kernel : decode (mb_ 242) 52 = .ok (.aload_n 0, 1)) rfl
theorem ok_X12_tells_53 : ok_S 242 53 (sf_gi 13 13 23 56) := ok_gi fd_13_23 (by decide +kernel : decode (mb_ 242) 53 = .ok (.getfield 272, 3)) tw_1149 (Or.inl rfl) rfl
theorem ok_X12_tells_56 : ok_S 242 56 (sf_push (0, 2) 57) := ok_iconst (by decide +kernel : decode (mb_ 242) 56 = .ok (.iconst 2, 1)) ⟨by decide, by decide⟩
theorem ok_X12_tells_57 : ok_S 242 57 (sf_cv 13 [2, 0, 0] 161 60) := ok_cv mt_161 cl_13 (by decide +kernel : decode (mb_ 242) 57 = .ok (.invokevirtual 162, 3)) tw_1285 tw_1287 ts_40 tw_7 rfl (by decide +kernel) (mh_ok rfl) (by decide) (by decide)
theorem ok_X12_tells_60 : ok_S 242 60 (sf_i2 mx_xor 61) := ok_ixor (by decide +kernel : decode (mb_ 242) 60 = .ok (.ixor, 1))
theorem ok_X12_tells_61 : ok_S 242 61 (sf_ret 0) := ok_ret0 (by decide +kernel : decode (mb_ 242) 61 = .ok (.ireturn, 1)) rfl
theorem ok_X12_tells_62 : ok_S 242 62 (sf_ld 2 0 63) := ok_aload_n (by decide +kernel : decode (mb_ 242) 62 = .ok (.aload_n 0, 1)) rfl
theorem ok_X12_tells_63 : ok_S 242 63 (sf_push (0, 31) 65) := ok_bipush (by decide +kernel : decode (mb_ 242) 63 = .ok (.bipush 31, 2)) ⟨by decide, by decide⟩ (by decide +kernel)
theorem ok_X12_tells_65 : ok_S 242 65 (sf_cv 13 [2, 0] 236 68) := ok_cv mt_236 cl_13 (by decide +kernel : decode (mb_ 242) 65 = .ok (.invokevirtual 275, 3)) tw_1545 tw_1547 ts_61 tw_7 rfl (by decide +kernel) (mh_ok rfl) (by decide) (by decide)
theorem ok_X12_tells_68 : ok_S 242 68 (sf_ld 2 0 69) := ok_aload_n (by decide +kernel : decode (mb_ 242) 68 = .ok (.aload_n 0, 1)) rfl
theorem ok_X12_tells_69 : ok_S 242 69 (sf_push (0, 2) 70) := ok_iconst (by decide +kernel : decode (mb_ 242) 69 = .ok (.iconst 2, 1)) ⟨by decide, by decide⟩
theorem ok_X12_tells_70 : ok_S 242 70 (sf_cs [0] 237 73) := ok_cs mt_237 (by decide +kernel : decode (mb_ 242) 70 = .ok (.invokestatic 279, 3)) tw_1549 tw_1550 tw_7 (by decide +kernel) (mh_ok rfl) (by decide) (by decide)
theorem ok_X12_tells_73 : ok_S 242 73 (sf_ld 0 2 74) := ok_iload_n (by decide +kernel : decode (mb_ 242) 73 = .ok (.iload_n 2, 1)) rfl
theorem ok_X12_tells_74 : ok_S 242 74 (sf_cv 13 [2, 0, 0] 242 77) := ok_cv mt_242 cl_13 (by decide +kernel : decode (mb_ 242) 74 = .ok (.invokevirtual 298, 3)) tw_1560 tw_1562 ts_64 tw_7 rfl (by decide +kernel) (mh_ok rfl) (by decide) (by decide)
theorem ok_X12_tells_77 : ok_S 242 77 (sf_st 0 3 78) := ok_istore_n (by decide +kernel : decode (mb_ 242) 77 = .ok (.istore_n 3, 1)) rfl
theorem ok_X12_tells_78 : ok_S 242 78 (sf_ld 0 3 79) := ok_iload_n (by decide +kernel : decode (mb_ 242) 78 = .ok (.iload_n 3, 1)) rfl
theorem ok_X12_tells_79 : ok_S 242 79 (sf_ld 2 0 80) := ok_aload_n (by decide +kernel : decode (mb_ 242) 79 = .ok (.aload_n 0, 1)) rfl
theorem ok_X12_tells_80 : ok_S 242 80 (sf_ld 2 0 81) := ok_aload_n (by decide +kernel : decode (mb_ 242) 80 = .ok (.aload_n 0, 1)) rfl
theorem ok_X12_tells_81 : ok_S 242 81 (sf_cv 13 [2] 238 84) := ok_cv mt_238 cl_13 (by decide +kernel : decode (mb_ 242) 81 = .ok (.invokevirtual 285, 3)) tw_1537 tw_1539 ts_59 tw_7 rfl (by decide +kernel) (mh_ok rfl) (by decide) (by decide)
theorem ok_X12_tells_84 : ok_S 242 84 (sf_ld 2 0 85) := ok_aload_n (by decide +kernel : decode (mb_ 242) 84 = .ok (.aload_n 0, 1)) rfl
theorem ok_X12_tells_85 : ok_S 242 85 (sf_gi 13 13 23 88) := ok_gi fd_13_23 (by decide +kernel : decode (mb_ 242) 85 = .ok (.getfield 272, 3)) tw_1149 (Or.inl rfl) rfl
theorem ok_X12_tells_88 : ok_S 242 88 (sf_cv 13 [2, 0, 0] 241 91) := ok_cv mt_241 cl_13 (by decide +kernel : decode (mb_ 242) 88 = .ok (.invokevirtual 295, 3)) tw_1556 tw_1558 ts_63 tw_7 rfl (by decide +kernel) (mh_ok rfl) (by decide) (by decide)
theorem ok_X12_tells_91 : ok_S 242 91 (sf_i2 mx_add 92) := ok_iadd (by decide +kernel : decode (mb_ 242) 91 = .ok (.iadd, 1))
theorem ok_X12_tells_92 : ok_S 242 92 (sf_ret 0) := ok_ret0 (by decide +kernel : decode (mb_ 242) 92 = .ok (.ireturn, 1)) rfl
theorem ok_X12_tells_93 : ok_S 242 93 (sf_ld 2 0 94) := ok_aload_n (by decide +kernel : decode (mb_ 242) 93 = .ok (.aload_n 0, 1)) rfl
theorem ok_X12_tells_94 : ok_S 242 94 (sf_push (0, 60) 96) := ok_bipush (by decide +kernel : decode (mb_ 242) 94 = .ok (.bipush 60, 2)) ⟨by decide, by decide⟩ (by decide +kernel)
theorem ok_X12_tells_96 : ok_S 242 96 (sf_cv 13 [2, 0] 236 99) := ok_cv mt_236 cl_13 (by decide +kernel : decode (mb_ 242) 96 = .ok (.invokevirtual 275, 3)) tw_1545 tw_1547 ts_61 tw_7 rfl (by decide +kernel) (mh_ok rfl) (by decide) (by decide)
theorem ok_X12_tells_99 : ok_S 242 99 (sf_ld 2 0 100) := ok_aload_n (by decide +kernel : decode (mb_ 242) 99 = .ok (.aload_n 0, 1)) rfl
theorem ok_X12_tells_100 : ok_S 242 100 (sf_push (0, 4) 101) := ok_iconst (by decide +kernel : decode (mb_ 242) 100 = .ok (.iconst 4, 1)) ⟨by decide, by decide⟩
theorem ok_X12_tells_101 : ok_S 242 101 (sf_cs [0] 237 104) := ok_cs mt_237 (by decide +kernel : decode (mb_ 242) 101 = .ok (.invokestatic 279, 3)) tw_1549 tw_1550 tw_7 (by decide +kernel) (mh_ok rfl) (by decide) (by decide)
theorem ok_X12_tells_104 : ok_S 242 104 (sf_ld 0 2 105) := ok_iload_n (by decide +kernel : decode (mb_ 242) 104 = .ok (.iload_n 2, 1)) rfl
theorem ok_X12_tells_105 : ok_S 242 105 (sf_cv 13 [2, 0, 0] 242 108) := ok_cv mt_242 cl_13 (by decide +kernel : decode (mb_ 242) 105 = .ok (.invokevirtual 298, 3)) tw_1560 tw_1562 ts_64 tw_7 rfl (by decide +kernel) (mh_ok rfl) (by decide) (by decide)
theorem ok_X12_tells_108 : ok_S 242 108 (sf_push (0, 2) 109) := ok_iconst (by decide +kernel : decode (mb_ 242) 108 = .ok (.iconst 2, 1)) ⟨by decide, by decide⟩
theorem ok_X12_tells_109 : ok_S 242 109 (sf_i2 mx_mul 110) := ok_imul (by decide +kernel : decode (mb_ 242) 109 = .ok (.imul, 1))
theorem ok_X12_tells_110 : ok_S 242 110 (sf_ret 0) := ok_ret0 (by decide +kernel : decode (mb_ 242) 110 = .ok (.ireturn, 1)) rfl
theorem ok_X12_tells_111 : ok_S 242 111 (sf_ld 2 0 112) := ok_aload_n (by decide +kernel : decode (mb_ 242) 111 = .ok (.aload_n 0, 1)) rfl
theorem ok_X12_tells_112 : ok_S 242 112 (sf_ld 0 1 113) := ok_iload_n (by decide +kernel : decode (mb_ 242) 112 = .ok (.iload_n 1, 1)) rfl
theorem ok_X12_tells_113 : ok_S 242 113 (sf_cs [0] 237 116) := ok_cs mt_237 (by decide +kernel : decode (mb_ 242) 113 = .ok (.invokestatic 279, 3)) tw_1549 tw_1550 tw_7 (by decide +kernel) (mh_ok rfl) (by decide) (by decide)
theorem ok_X12_tells_116 : ok_S 242 116 (sf_ld 0 2 117) := ok_iload_n (by decide +kernel : decode (mb_ 242) 116 = .ok (.iload_n 2, 1)) rfl
theorem ok_X12_tells_117 : ok_S 242 117 (sf_cv 13 [2, 0, 0] 242 120) := ok_cv mt_242 cl_13 (by decide +kernel : decode (mb_ 242) 117 = .ok (.invokevirtual 298, 3)) tw_1560 tw_1562 ts_64 tw_7 rfl (by decide +kernel) (mh_ok rfl) (by decide) (by decide)
theorem ok_X12_tells_120 : ok_S 242 120 (sf_ret 0) := ok_ret0 (by decide +kernel : decode (mb_ 242) 120 = .ok (.ireturn, 1)) rfl
theorem ok_X12_tells (pc : Nat) : ok_S 242 pc (cd_X12_tells pc) :=
  (ok_bf (ok_bf (ok_bf (ok_bf (ok_bf (ok_bf (ok_lf pc ok_X12_tells_120) (ok_lf pc ok_X12_tells_117)) (ok_bf (ok_lf pc ok_X12_tells_116) (ok_lf pc ok_X12_tells_113))) (ok_bf (ok_bf (ok_lf pc ok_X12_tells_112) (ok_lf pc ok_X12_tells_111)) (ok_lf pc ok_X12_tells_110))) (ok_bf (ok_bf (ok_bf (ok_lf pc ok_X12_tells_109) (ok_lf pc ok_X12_tells_108)) (ok_bf (ok_lf pc ok_X12_tells_105) (ok_lf pc ok_X12_tells_104))) (ok_bf (ok_bf (ok_lf pc ok_X12_tells_101) (ok_lf pc ok_X12_tells_100)) (ok_lf pc ok_X12_tells_99)))) (ok_bf (ok_bf (ok_bf (ok_bf (ok_lf pc ok_X12_tells_96) (ok_lf pc ok_X12_tells_94)) (ok_bf (ok_lf pc ok_X12_tells_93) (ok_lf pc ok_X12_tells_92))) (ok_bf (ok_bf (ok_lf pc ok_X12_tells_91) (ok_lf pc ok_X12_tells_88)) (ok_lf pc ok_X12_tells_85))) (ok_bf (ok_bf (ok_bf (ok_lf pc ok_X12_tells_84) (ok_lf pc ok_X12_tells_81)) (ok_lf pc ok_X12_tells_80)) (ok_bf (ok_bf (ok_lf pc ok_X12_tells_79) (ok_lf pc ok_X12_tells_78)) (ok_lf pc ok_X12_tells_77))))) (ok_bf (ok_bf (ok_bf (ok_bf (ok_bf (ok_lf pc ok_X12_tells_74) (ok_lf pc ok_X12_tells_73)) (ok_bf (ok_lf pc ok_X12_tells_70) (ok_lf pc ok_X12_tells_69))) (ok_bf (ok_bf (ok_lf pc ok_X12_tells_68) (ok_lf pc ok_X12_tells_65)) (ok_lf pc ok_X12_tells_63))) (ok_bf (ok_bf (ok_bf (ok_lf pc ok_X12_tells_62) (ok_lf pc ok_X12_tells_61)) (ok_bf (ok_lf pc ok_X12_tells_60) (ok_lf pc ok_X12_tells_57))) (ok_bf (ok_bf (ok_lf pc ok_X12_tells_56) (ok_lf pc ok_X12_tells_53)) (ok_lf pc ok_X12_tells_52)))) (ok_bf (ok_bf (ok_bf (ok_bf (ok_lf pc ok_X12_tells_51) (ok_lf pc ok_X12_tells_48)) (ok_bf (ok_lf pc ok_X12_tells_47) (ok_lf pc ok_X12_tells_44))) (ok_bf (ok_bf (ok_lf pc ok_X12_tells_43) (ok_lf pc ok_X12_tells_42)) (ok_lf pc ok_X12_tells_39))) (ok_bf (ok_bf (ok_bf (ok_lf pc ok_X12_tells_37) (ok_lf pc ok_X12_tells_36)) (ok_lf pc ok_X12_tells_3)) (ok_bf (ok_bf (ok_lf pc ok_X12_tells_2) (ok_lf pc ok_X12_tells_1)) (ok_lf pc ok_X12_tells_0))))))
theorem mo_X12_tells (pc : Nat) : mo_S (cd_X12_tells pc) :=
  (mo_bf (mo_bf (mo_bf (mo_bf (mo_bf (mo_bf (mo_bf mo_ret mo_no) (mo_bf mo_cv mo_no)) (mo_bf (mo_bf mo_ld mo_no) (mo_bf mo_cs mo_no))) (mo_bf (mo_bf (mo_bf mo_ld mo_no) (mo_bf mo_ld mo_no)) (mo_bf mo_ret mo_no))) (mo_bf (mo_bf (mo_bf (mo_bf mo_i2 mo_no) (mo_bf mo_push mo_no)) (mo_bf (mo_bf mo_cv mo_no) (mo_bf mo_ld mo_no))) (mo_bf (mo_bf (mo_bf mo_cs mo_no) (mo_bf mo_push mo_no)) (mo_bf mo_ld mo_no)))) (mo_bf (mo_bf (mo_bf (mo_bf (mo_bf mo_cv mo_no) (mo_bf mo_push mo_no)) (mo_bf (mo_bf mo_ld mo_no) (mo_bf mo_ret mo_no))) (mo_bf (mo_bf (mo_bf mo_i2 mo_no) (mo_bf mo_cv mo_no)) (mo_bf mo_gi mo_no))) (mo_bf (mo_bf (mo_bf (mo_bf mo_ld mo_no) (mo_bf mo_cv mo_no)) (mo_bf mo_ld mo_no)) (mo_bf (mo_bf (mo_bf mo_ld mo_no) (mo_bf mo_ld mo_no)) (mo_bf mo_st mo_no))))) (mo_bf (mo_bf (mo_bf (mo_bf (mo_bf (mo_bf mo_cv mo_no) (mo_bf mo_ld mo_no)) (mo_bf (mo_bf mo_cs mo_no) (mo_bf mo_push mo_no))) (mo_bf (mo_bf (mo_bf mo_ld mo_no) (mo_bf mo_cv mo_no)) (mo_bf mo_push mo_no))) (mo_bf (mo_bf (mo_bf (mo_bf mo_ld mo_no) (mo_bf mo_ret mo_no)) (mo_bf (mo_bf mo_i2 mo_no) (mo_bf mo_cv mo_no))) (mo_bf (mo_bf (mo_bf mo_push mo_no) (mo_bf mo_gi mo_no)) (mo_bf mo_ld mo_no)))) (mo_bf (mo_bf (mo_bf (mo_bf (mo_bf mo_ld mo_no) (mo_bf mo_cv mo_no)) (mo_bf (mo_bf mo_ld mo_no) (mo_bf mo_cv mo_no))) (mo_bf (mo_bf (mo_bf mo_ld mo_no) (mo_bf mo_ld mo_no)) (mo_bf mo_cv mo_no))) (mo_bf (mo_bf (mo_bf (mo_bf mo_push mo_no) (mo_bf mo_ld mo_no)) (mo_bf mo_sw mo_no)) (mo_bf (mo_bf (mo_bf mo_ld mo_no) (mo_bf mo_st mo_no)) (mo_bf mo_push mo_no))))))
theorem ok_X12_act_0 : ok_S 243 0 (sf_ld 2 0 1) := ok_aload_n (by decide +kernel : decode (mb_ 243) 0 = .ok (.aload_n 0, 1)) rfl
theorem ok_X12_act_1 : ok_S 243 1 (sf_push (0, 0) 2) := ok_iconst (by decide +kernel : decode (mb_ 243) 1 = .ok (.iconst 0, 1)) ⟨by decide, by decide⟩
theorem ok_X12_act_2 : ok_S 243 2 (sf_pi 13 13 22 5) := ok_pi fd_13_22 (by decide +kernel : decode (mb_ 243) 2 = .ok (.putfield 269, 3)) tw_1148 rfl (Or.inl ff_13_22) rfl
theorem ok_X12_act_5 : ok_S 243 5 (sf_ld 0 1 6) := ok_iload_n (by decide +kernel : decode (mb_ 243) 5 = .ok (.iload_n 1, 1)) rfl
theorem ok_X12_act_6 : ok_S 243 6 (sf_cs [0] 231 9) := ok_cs mt_231 (by decide +kernel : decode (mb_ 243) 6 = .ok (.invokestatic 260, 3)) tw_1519 tw_1520 tw_7 (by decide +kernel) (mh_ok rfl) (by decide) (by decide)
theorem ok_X12_act_9 : ok_S 243 9 (sf_if 0 39 12) := ok_if0 (by decide +kernel : decode (mb_ 243) 9 = .ok (.ifCond .eq 30, 3)) (by decide)
theorem ok_X12_act_12 : ok_S 243 12 (sf_ld 0 2 13) := ok_iload_n (by decide +kernel : decode (mb_ 243) 12 = .ok (.iload_n 2, 1)) rfl
theorem ok_X12_act_13 : ok_S 243 13 (sf_push (0, 0) 14) := ok_iconst (by decide +kernel : decode (mb_ 243) 13 = .ok (.iconst 0, 1)) ⟨by decide, by decide⟩
theorem ok_X12_act_14 : ok_S 243 14 (sf_push (0, 3) 15) := ok_iconst (by decide +kernel : decode (mb_ 243) 14 = .ok (.iconst 3, 1)) ⟨by decide, by decide⟩
theorem ok_X12_act_15 : ok_S 243 15 (sf_cs [0, 0, 0] 157 18) := ok_cs mt_157 (by decide +kernel : decode (mb_ 243) 15 = .ok (.invokestatic 56, 3)) tw_1206 tw_1207 tw_7 (by decide +kernel) (mh_ok rfl) (by decide) (by decide)
theorem ok_X12_act_18 : ok_S 243 18 (sf_if 0 39 21) := ok_if0 (by decide +kernel : decode (mb_ 243) 18 = .ok (.ifCond .eq 21, 3)) (by decide)
theorem ok_X12_act_21 : ok_S 243 21 (sf_ld 2 0 22) := ok_aload_n (by decide +kernel : decode (mb_ 243) 21 = .ok (.aload_n 0, 1)) rfl
theorem ok_X12_act_22 : ok_S 243 22 (sf_ld 0 1 23) := ok_iload_n (by decide +kernel : decode (mb_ 243) 22 = .ok (.iload_n 1, 1)) rfl
theorem ok_X12_act_23 : ok_S 243 23 (sf_cv 13 [2, 0] 233 26) := ok_cv mt_233 cl_13 (by decide +kernel : decode (mb_ 243) 23 = .ok (.invokevirtual 263, 3)) tw_1526 tw_1528 ts_58 tw_7 rfl (by decide +kernel) (mh_ok rfl) (by decide) (by decide)
theorem ok_X12_act_26 : ok_S 243 26 (sf_if 1 39 29) := ok_if1 (by decide +kernel : decode (mb_ 243) 26 = .ok (.ifCond .ne 13, 3)) (by decide)
theorem ok_X12_act_29 : ok_S 243 29 (sf_ld 2 0 30) := ok_aload_n (by decide +kernel : decode (mb_ 243) 29 = .ok (.aload_n 0, 1)) rfl
theorem ok_X12_act_30 : ok_S 243 30 (sf_gr 13 13 19 33) := ok_gr fd_13_19 (by decide +kernel : decode (mb_ 243) 30 = .ok (.getfield 44, 3)) tw_1145 (Or.inl rfl) rfl
theorem ok_X12_act_33 : ok_S 243 33 (sf_ld 0 1 34) := ok_iload_n (by decide +kernel : decode (mb_ 243) 33 = .ok (.iload_n 1, 1)) rfl
theorem ok_X12_act_34 : ok_S 243 34 (sf_iald 35) := ok_iald (by decide +kernel : decode (mb_ 243) 34 = .ok (.iaload, 1))
theorem ok_X12_act_35 : ok_S 243 35 (sf_push (0, 1) 36) := ok_iconst (by decide +kernel : decode (mb_ 243) 35 = .ok (.iconst 1, 1)) ⟨by decide, by decide⟩
theorem ok_X12_act_36 : ok_S 243 36 (sf_ic 0 41 39) := ok_ic0 (by decide +kernel : decode (mb_ 243) 36 = .ok (.if_icmp .eq 5, 3)) (by decide)
theorem ok_X12_act_39 : ok_S 243 39 (sf_push (0, 0) 40) := ok_iconst (by decide +kernel : decode (mb_ 243) 39 = .ok (.iconst 0, 1)) ⟨by decide, by decide⟩
theorem ok_X12_act_40 : ok_S 243 40 (sf_ret 0) := ok_ret0 (by decide +kernel : decode (mb_ 243) 40 = .ok (.ireturn, 1)) rfl
theorem ok_X12_act_41 : ok_S 243 41 (sf_ld 2 0 42) := ok_aload_n (by decide +kernel : decode (mb_ 243) 41 = .ok (.aload_n 0, 1)) rfl
theorem ok_X12_act_42 : ok_S 243 42 (sf_ld 2 0 43) := ok_aload_n (by decide +kernel : decode (mb_ 243) 42 = .ok (.aload_n 0, 1)) rfl
theorem ok_X12_act_43 : ok_S 243 43 (sf_gr 13 13 20 46) := ok_gr fd_13_20 (by decide +kernel : decode (mb_ 243) 43 = .ok (.getfield 47, 3)) tw_1146 (Or.inl rfl) rfl
theorem ok_X12_act_46 : ok_S 243 46 (sf_ld 0 1 47) := ok_iload_n (by decide +kernel : decode (mb_ 243) 46 = .ok (.iload_n 1, 1)) rfl
theorem ok_X12_act_47 : ok_S 243 47 (sf_iald 48) := ok_iald (by decide +kernel : decode (mb_ 243) 47 = .ok (.iaload, 1))
theorem ok_X12_act_48 : ok_S 243 48 (sf_pi 13 13 23 51) := ok_pi fd_13_23 (by decide +kernel : decode (mb_ 243) 48 = .ok (.putfield 272, 3)) tw_1149 rfl (Or.inl ff_13_23) rfl
theorem ok_X12_act_51 : ok_S 243 51 (sf_ld 2 0 52) := ok_aload_n (by decide +kernel : decode (mb_ 243) 51 = .ok (.aload_n 0, 1)) rfl
theorem ok_X12_act_52 : ok_S 243 52 (sf_push (0, 0) 53) := ok_iconst (by decide +kernel : decode (mb_ 243) 52 = .ok (.iconst 0, 1)) ⟨by decide, by decide⟩
theorem ok_X12_act_53 : ok_S 243 53 (sf_pz 13 13 24 56) := ok_pz fd_13_24 (by decide +kernel : decode (mb_ 243) 53 = .ok (.putfield 291, 3)) tw_1150 rfl (Or.inl ff_13_24) rfl
theorem ok_X12_act_56 : ok_S 243 56 (sf_ld 2 0 57) := ok_aload_n (by decide +kernel : decode (mb_ 243) 56 = .ok (.aload_n 0, 1)) rfl
theorem ok_X12_act_57 : ok_S 243 57 (sf_cv 13 [2] 238 60) := ok_cv mt_238 cl_13 (by decide +kernel : decode (mb_ 243) 57 = .ok (.invokevirtual 285, 3)) tw_1537 tw_1539 ts_59 tw_7 rfl (by decide +kernel) (mh_ok rfl) (by decide) (by decide)
theorem ok_X12_act_60 : ok_S 243 60 (sf_st 0 4 62) := ok_istore (by decide +kernel : decode (mb_ 243) 60 = .ok (.istore 4, 2))
theorem ok_X12_act_62 : ok_S 243 62 (sf_ld 0 2 63) := ok_iload_n (by decide +kernel : decode (mb_ 243) 62 = .ok (.iload_n 2, 1)) rfl
theorem ok_X12_act_63 : ok_S 243 63 (sf_if 1 76 66) := ok_if1 (by decide +kernel : decode (mb_ 243) 63 = .ok (.ifCond .ne 13, 3)) (by decide)
theorem ok_X12_act_66 : ok_S 243 66 (sf_ld 2 0 67) := ok_aload_n (by decide +kernel : decode (mb_ 243) 66 = .ok (.aload_n 0, 1)) rfl
theorem ok_X12_act_67 : ok_S 243 67 (sf_ld 0 4 69) := ok_iload (by decide +kernel : decode (mb_ 243) 67 = .ok (.iload 4, 2))
theorem ok_X12_act_69 : ok_S 243 69 (sf_ld 0 3 70) := ok_iload_n (by decide +kernel : decode (mb_ 243) 69 = .ok (.iload_n 3, 1)) rfl
theorem ok_X12_act_70 : ok_S 243 70 (sf_cv 13 [2, 0, 0] 239 73) := ok_cv mt_239 cl_13 (by decide +kernel : decode (mb_ 243) 70 = .ok (.invokevirtual 282, 3)) tw_1541 tw_1543 ts_60 tw_7 rfl (by decide +kernel) (mh_ok rfl) (by decide) (by decide)
theorem ok_X12_act_73 : ok_S 243 73 (sf_go 113) := ok_goto (by decide +kernel : decode (mb_ 243) 73 = .ok (.goto 40, 3)) (by decide)
theorem ok_X12_act_76 : ok_S 243 76 (sf_ld 0 2 77) := ok_iload_n (by decide +kernel : decode (mb_ 243) 76 = .ok (.iload_n 2, 1)) rfl
theorem ok_X12_act_77 : ok_S 243 77 (sf_push (0, 1) 78) := ok_iconst (by decide +kernel : decode (mb_ 243) 77 = .ok (.iconst 1, 1)) ⟨by decide, by decide⟩
theorem ok_X12_act_78 : ok_S 243 78 (sf_ic 1 91 81) := ok_ic1 (by decide +kernel : decode (mb_ 243) 78 = .ok (.if_icmp .ne 13, 3)) (by decide)
theorem ok_X12_act_81 : ok_S 243 81 (sf_ld 2 0 82) := ok_aload_n (by decide +kernel : decode (mb_ 243) 81 = .ok (.aload_n 0, 1)) rfl
theorem ok_X12_act_82 : ok_S 243 82 (sf_ld 0 4 84) := ok_iload (by decide +kernel : decode (mb_ 243) 82 = .ok (.iload 4, 2))
theorem ok_X12_act_84 : ok_S 243 84 (sf_ld 0 3 85) := ok_iload_n (by decide +kernel : decode (mb_ 243) 84 = .ok (.iload_n 3, 1)) rfl
theorem ok_X12_act_85 : ok_S 243 85 (sf_cv 13 [2, 0, 0] 240 88) := ok_cv mt_240 cl_13 (by decide +kernel : decode (mb_ 243) 85 = .ok (.invokevirtual 288, 3)) tw_1552 tw_1554 ts_62 tw_7 rfl (by decide +kernel) (mh_ok rfl) (by decide) (by decide)
theorem ok_X12_act_88 : ok_S 243 88 (sf_go 113) := ok_goto (by decide +kernel : decode (mb_ 243) 88 = .ok (.goto 25, 3)) (by decide)
theorem ok_X12_act_91 : ok_S 243 91 (sf_ld 0 2 92) := ok_iload_n (by decide +kernel : decode (mb_ 243) 91 = .ok (.iload_n 2, 1)) rfl
theorem ok_X12_act_92 : ok_S 243 92 (sf_push (0, 2) 93) := ok_iconst (by decide +kernel : decode (mb_ 243) 92 = .ok (.iconst 2, 1)) ⟨by decide, by decide⟩
theorem ok_X12_act_93 : ok_S 243 93 (sf_ic 1 106 96) := ok_ic1 (by decide +kernel : decode (mb_ 243) 93 = .ok (.if_icmp .ne 13, 3)) (by decide)
theorem ok_X12_act_96 : ok_S 243 96 (sf_ld 2 0 97) := ok_aload_n (by decide +kernel : decode (mb_ 243) 96 = .ok (.aload_n 0, 1)) rfl
theorem ok_X12_act_97 : ok_S 243 97 (sf_ld 0 4 99) := ok_iload (by decide +kernel : decode (mb_ 243) 97 = .ok (.iload 4, 2))
theorem ok_X12_act_99 : ok_S 243 99 (sf_ld 0 3 100) := ok_iload_n (by decide +kernel : decode (mb_ 243) 99 = .ok (.iload_n 3, 1)) rfl
theorem ok_X12_act_100 : ok_S 243 100 (sf_cv 13 [2, 0, 0] 241 103) := ok_cv mt_241 cl_13 (by decide +kernel : decode (mb_ 243) 100 = .ok (.invokevirtual 295, 3)) tw_1556 tw_1558 ts_63 tw_7 rfl (by decide +kernel) (mh_ok rfl) (by decide) (by decide)
theorem ok_X12_act_103 : ok_S 243 103 (sf_go 113) := ok_goto (by decide +kernel : decode (mb_ 243) 103 = .ok (.goto 10, 3)) (by decide)
theorem ok_X12_act_106 : ok_S 243 106 (sf_ld 2 0 107) := ok_aload_n (by decide +kernel : decode (mb_ 243) 106 = .ok (.aload_n 0, 1)) rfl
theorem ok_X12_act_107 : ok_S 243 107 (sf_ld 0 4 109) := ok_iload (by decide +kernel : decode (mb_ 243) 107 = .ok (.iload 4, 2))
theorem ok_X12_act_109 : ok_S 243 109 (sf_ld 0 3 110) := ok_iload_n (by decide +kernel : decode (mb_ 243) 109 = .ok (.iload_n 3, 1)) rfl
theorem ok_X12_act_110 : ok_S 243 110 (sf_cv 13 [2, 0, 0] 242 113) := ok_cv mt_242 cl_13 (by decide +kernel : decode (mb_ 243) 110 = .ok (.invokevirtual 298, 3)) tw_1560 tw_1562 ts_64 tw_7 rfl (by decide +kernel) (mh_ok rfl) (by decide) (by decide)
theorem ok_X12_act_113 : ok_S 243 113 (sf_st 0 5 115) := ok_istore (by decide +kernel : decode (mb_ 243) 113 = .ok (.istore 5, 2))
theorem ok_X12_act_115 : ok_S 243 115 (sf_ld 2 0 116) := ok_aload_n (by decide +kernel : decode (mb_ 243) 115 = .ok (.aload_n 0, 1)) rfl
theorem ok_X12_act_116 : ok_S 243 116 (sf_gi 13 13 24 119) := ok_gi fd_13_24 (by decide +kernel : decode (mb_ 243) 116 = .ok (.getfield 291, 3)) tw_1150 (Or.inl rfl) rfl
theorem ok_X12_act_119 : ok_S 243 119 (sf_if 0 127 122) := ok_if0 (by decide +kernel : decode (mb_ 243) 119 = .ok (.ifCond .eq 8, 3)) (by decide)
theorem ok_X12_act_122 : ok_S 243 122 (sf_push (0, (-15)) 124) := ok_bipush (by decide +kernel : decode (mb_ 243) 122 = .ok (.bipush (-15), 2)) ⟨by decide, by decide⟩ (by decide +kernel)
theorem ok_X12_act_124 : ok_S 243 124 (sf_go 129) := ok_goto (by decide +kernel : decode (mb_ 243) 124 = .ok (.goto 5, 3)) (by decide)
theorem ok_X12_act_127 : ok_S 243 127 (sf_ld 0 5 129) := ok_iload (by decide +kernel : decode (mb_ 243) 127 = .ok (.iload 5, 2))
theorem ok_X12_act_129 : ok_S 243 129 (sf_ret 0) := ok_ret0 (by decide +kernel : decode (mb_ 243) 129 = .ok (.ireturn, 1)) rfl
theorem ok_X12_act (pc : Nat) : ok_S 243 pc (cd_X12_act pc) :=
  (ok_bf (ok_bf (ok_bf (ok_bf (ok_bf (ok_bf (ok_bf (ok_lf pc ok_X12_act_129) (ok_lf pc ok_X12_act_127)) (ok_lf pc ok_X12_act_124)) (ok_bf (ok_lf pc ok_X12_act_122) (ok_lf pc ok_X12_act_119))) (ok_bf (ok_bf (ok_lf pc ok_X12_act_116) (ok_lf pc ok_X12_act_115)) (ok_bf (ok_lf pc ok_X12_act_113) (ok_lf pc ok_X12_act_110)))) (ok_bf (ok_bf (ok_bf (ok_bf (ok_lf pc ok_X12_act_109) (ok_lf pc ok_X12_act_107)) (ok_lf pc ok_X12_act_106)) (ok_bf (ok_lf pc ok_X12_act_103) (ok_lf pc ok_X12_act_100))) (ok_bf (ok_bf (ok_lf pc ok_X12_act_99) (ok_lf pc ok_X12_act_97)) (ok_bf (ok_lf pc ok_X12_act_96) (ok_lf pc ok_X12_act_93))))) (ok_bf (ok_bf (ok_bf (ok_bf (ok_bf (ok_lf pc ok_X12_act_92) (ok_lf pc ok_X12_act_91)) (ok_lf pc ok_X12_act_88)) (ok_bf (ok_lf pc ok_X12_act_85) (ok_lf pc ok_X12_act_84))) (ok_bf (ok_bf (ok_lf pc ok_X12_act_82) (ok_lf pc ok_X12_act_81)) (ok_bf (ok_lf pc ok_X12_act_78) (ok_lf pc ok_X12_act_77)))) (ok_bf (ok_bf (ok_bf (ok_lf pc ok_X12_act_76) (ok_lf pc ok_X12_act_73)) (ok_bf (ok_lf pc ok_X12_act_70) (ok_lf pc ok_X12_act_69))) (ok_bf (ok_bf (ok_lf pc ok_X12_act_67) (ok_lf pc ok_X12_act_66)) (ok_bf (ok_lf pc ok_X12_act_63) (ok_lf pc ok_X12_act_62)))))) (ok_bf (ok_bf (ok_bf (ok_bf (ok_bf (ok_bf (ok_lf pc ok_X12_act_60) (ok_lf pc ok_X12_act_57)) (ok_lf pc ok_X12_act_56)) (ok_bf (ok_lf pc ok_X12_act_53) (ok_lf pc ok_X12_act_52))) (ok_bf (ok_bf (ok_lf pc ok_X12_act_51) (ok_lf pc ok_X12_act_48)) (ok_bf (ok_lf pc ok_X12_act_47) (ok_lf pc ok_X12_act_46)))) (ok_bf (ok_bf (ok_bf (ok_bf (ok_lf pc ok_X12_act_43) (ok_lf pc ok_X12_act_42)) (ok_lf pc ok_X12_act_41)) (ok_bf (ok_lf pc ok_X12_act_40) (ok_lf pc ok_X12_act_39))) (ok_bf (ok_bf (ok_lf pc ok_X12_act_36) (ok_lf pc ok_X12_act_35)) (ok_bf (ok_lf pc ok_X12_act_34) (ok_lf pc ok_X12_act_33))))) (ok_bf (ok_bf (ok_bf (ok_bf (ok_bf (ok_lf pc ok_X12_act_30) (ok_lf pc ok_X12_act_29)) (ok_lf pc ok_X12_act_26)) (ok_bf (ok_lf pc ok_X12_act_23) (ok_lf pc ok_X12_act_22))) (ok_bf (ok_bf (ok_lf pc ok_X12_act_21) (ok_lf pc ok_X12_act_18)) (ok_bf (ok_lf pc ok_X12_act_15) (ok_lf pc ok_X12_act_14)))) (ok_bf (ok_bf (ok_bf (ok_lf pc ok_X12_act_13) (ok_lf pc ok_X12_act_12)) (ok_bf (ok_lf pc ok_X12_act_9) (ok_lf pc ok_X12_act_6))) (ok_bf (ok_bf (ok_lf pc ok_X12_act_5) (ok_lf pc ok_X12_act_2)) (ok_bf (ok_lf pc ok_X12_act_1) (ok_lf pc ok_X12_act_0)))))))
theorem mo_X12_act (pc : Nat) : mo_S (cd_X12_act pc) :=
  (mo_bf (mo_bf (mo_bf (mo_bf (mo_bf (mo_bf (mo_bf (mo_bf mo_ret mo_no) (mo_bf mo_ld mo_no)) (mo_bf mo_go mo_no)) (mo_bf (mo_bf mo_push mo_no) (mo_bf mo_if mo_no))) (mo_bf (mo_bf (mo_bf mo_gi mo_no) (mo_bf mo_ld mo_no)) (mo_bf (mo_bf mo_st mo_no) (mo_bf mo_cv mo_no)))) (mo_bf (mo_bf (mo_bf (mo_bf (mo_bf mo_ld mo_no) (mo_bf mo_ld mo_no)) (mo_bf mo_ld mo_no)) (mo_bf (mo_bf mo_go mo_no) (mo_bf mo_cv mo_no))) (mo_bf (mo_bf (mo_bf mo_ld mo_no) (mo_bf mo_ld mo_no)) (mo_bf (mo_bf mo_ld mo_no) (mo_bf mo_ic mo_no))))) (mo_bf (mo_bf (mo_bf (mo_bf (mo_bf (mo_bf mo_push mo_no) (mo_bf mo_ld mo_no)) (mo_bf mo_go mo_no)) (mo_bf (mo_bf mo_cv mo_no) (mo_bf mo_ld mo_no))) (mo_bf (mo_bf (mo_bf mo_ld mo_no) (mo_bf mo_ld mo_no)) (mo_bf (mo_bf mo_ic mo_no) (mo_bf mo_push mo_no)))) (mo_bf (mo_bf (mo_bf (mo_bf mo_ld mo_no) (mo_bf mo_go mo_no)) (mo_bf (mo_bf mo_cv mo_no) (mo_bf mo_ld mo_no))) (mo_bf (mo_bf (mo_bf mo_ld mo_no) (mo_bf mo_ld mo_no)) (mo_bf (mo_bf mo_if mo_no) (mo_bf mo_ld mo_no)))))) (mo_bf (mo_bf (mo_bf (mo_bf (mo_bf (mo_bf (mo_bf mo_st mo_no) (mo_bf mo_cv mo_no)) (mo_bf mo_ld mo_no)) (mo_bf (mo_bf mo_pz mo_no) (mo_bf mo_push mo_no))) (mo_bf (mo_bf (mo_bf mo_ld mo_no) (mo_bf mo_pi mo_no)) (mo_bf (mo_bf mo_iald mo_no) (mo_bf mo_ld mo_no)))) (mo_bf (mo_bf (mo_bf (mo_bf (mo_bf mo_gr mo_no) (mo_bf mo_ld mo_no)) (mo_bf mo_ld mo_no)) (mo_bf (mo_bf mo_ret mo_no) (mo_bf mo_push mo_no))) (mo_bf (mo_bf (mo_bf mo_ic mo_no) (mo_bf mo_push mo_no)) (mo_bf (mo_bf mo_iald mo_no) (mo_bf mo_ld mo_no))))) (mo_bf (mo_bf (mo_bf (mo_bf (mo_bf (mo_bf mo_gr mo_no) (mo_bf mo_ld mo_no)) (mo_bf mo_if mo_no)) (mo_bf (mo_bf mo_cv mo_no) (mo_bf mo_ld mo_no))) (mo_bf (mo_bf (mo_bf mo_ld mo_no) (mo_bf mo_if mo_no)) (mo_bf (mo_bf mo_cs mo_no) (mo_bf mo_push mo_no)))) (mo_bf (mo_bf (mo_bf (mo_bf mo_push mo_no) (mo_bf mo_ld mo_no)) (mo_bf (mo_bf mo_if mo_no) (mo_bf mo_cs mo_no))) (mo_bf (mo_bf (mo_bf mo_ld mo_no) (mo_bf mo_pi mo_no)) (mo_bf (mo_bf mo_push mo_no) (mo_bf mo_ld mo_no)))))))
theorem ok_X12_trace_0 : ok_S 244 0 (sf_ld 0 1 1) := ok_iload_n (by decide +kernel : decode (mb_ 244) 0 = .ok (.iload_n 1, 1)) rfl
theorem ok_X12_trace_1 : ok_S 244 1 (sf_push (0, 0) 2) := ok_iconst (by decide +kernel : decode (mb_ 244) 1 = .ok (.iconst 0, 1)) ⟨by decide, by decide⟩
theorem ok_X12_trace_2 : ok_S 244 2 (sf_ld 2 0 3) := ok_aload_n (by decide +kernel : decode (mb_ 244) 2 = .ok (.aload_n 0, 1)) rfl
theorem ok_X12_trace_3 : ok_S 244 3 (sf_gi 13 13 22 6) := ok_gi fd_13_22 (by decide +kernel : decode (mb_ 244) 3 = .ok (.getfield 269, 3)) tw_1148 (Or.inl rfl) rfl
theorem ok_X12_trace_6 : ok_S 244 6 (sf_push (0, 1) 7) := ok_iconst (by decide +kernel : decode (mb_ 244) 6 = .ok (.iconst 1, 1)) ⟨by decide, by decide⟩
theorem ok_X12_trace_7 : ok_S 244 7 (sf_i2 mx_sub 8) := ok_isub (by decide +kernel : decode (mb_ 244) 7 = .ok (.isub, 1))
theorem ok_X12_trace_8 : ok_S 244 8 (sf_cs [0, 0, 0] 157 11) := ok_cs mt_157 (by decide +kernel : decode (mb_ 244) 8 = .ok (.invokestatic 56, 3)) tw_1206 tw_1207 tw_7 (by decide +kernel) (mh_ok rfl) (by decide) (by decide)
theorem ok_X12_trace_11 : ok_S 244 11 (sf_if 0 23 14) := ok_if0 (by decide +kernel : decode (mb_ 244) 11 = .ok (.ifCond .eq 12, 3)) (by decide)
theorem ok_X12_trace_14 : ok_S 244 14 (sf_ld 2 0 15) := ok_aload_n (by decide +kernel : decode (mb_ 244) 14 = .ok (.aload_n 0, 1)) rfl
theorem ok_X12_trace_15 : ok_S 244 15 (sf_gr 13 13 21 18) := ok_gr fd_13_21 (by decide +kernel : decode (mb_ 244) 15 = .ok (.getfield 50, 3)) tw_1147 (Or.inl rfl) rfl
theorem ok_X12_trace_18 : ok_S 244 18 (sf_ld 0 1 19) := ok_iload_n (by decide +kernel : decode (mb_ 244) 18 = .ok (.iload_n 1, 1)) rfl
theorem ok_X12_trace_19 : ok_S 244 19 (sf_iald 20) := ok_iald (by decide +kernel : decode (mb_ 244) 19 = .ok (.iaload, 1))
theorem ok_X12_trace_20 : ok_S 244 20 (sf_go 25) := ok_goto (by decide +kernel : decode (mb_ 244) 20 = .ok (.goto 5, 3)) (by decide)
theorem ok_X12_trace_23 : ok_S 244 23 (sf_push (0, (-3)) 25) := ok_bipush (by decide +kernel : decode (mb_ 244) 23 = .ok (.bipush (-3), 2)) ⟨by decide, by decide⟩ (by decide +kernel)
theorem ok_X12_trace_25 : ok_S 244 25 (sf_ret 0) := ok_ret0 (by decide +kernel : decode (mb_ 244) 25 = .ok (.ireturn, 1)) rfl
theorem ok_X12_trace (pc : Nat) : ok_S 244 pc (cd_X12_trace pc) :=
  (ok_bf (ok_bf (ok_bf (ok_bf (ok_lf pc ok_X12_trace_25) (ok_lf pc ok_X12_trace_23)) (ok_bf (ok_lf pc ok_X12_trace_20) (ok_lf pc ok_X12_trace_19))) (ok_bf (ok_bf (ok_lf pc ok_X12_trace_18) (ok_lf pc ok_X12_trace_15)) (ok_bf (ok_lf pc ok_X12_trace_14) (ok_lf pc ok_X12_trace_11)))) (ok_bf (ok_bf (ok_bf (ok_lf pc ok_X12_trace_8) (ok_lf pc ok_X12_trace_7)) (ok_bf (ok_lf pc ok_X12_trace_6) (ok_lf pc ok_X12_trace_3))) (ok_bf (ok_bf (ok_lf pc ok_X12_trace_2) (ok_lf pc ok_X12_trace_1)) (ok_lf pc ok_X12_trace_0))))
theorem mo_X12_trace (pc : Nat) : mo_S (cd_X12_trace pc) :=
  (mo_bf (mo_bf (mo_bf (mo_bf (mo_bf mo_ret mo_no) (mo_bf mo_push mo_no)) (mo_bf (mo_bf mo_go mo_no) (mo_bf mo_iald mo_no))) (mo_bf (mo_bf (mo_bf mo_ld mo_no) (mo_bf mo_gr mo_no)) (mo_bf (mo_bf mo_ld mo_no) (mo_bf mo_if mo_no)))) (mo_bf (mo_bf (mo_bf (mo_bf mo_cs mo_no) (mo_bf mo_i2 mo_no)) (mo_bf (mo_bf mo_push mo_no) (mo_bf mo_gi mo_no))) (mo_bf (mo_bf (mo_bf mo_ld mo_no) (mo_bf mo_push mo_no)) (mo_bf mo_ld mo_no))))
theorem ok_X12_many__0 : ok_S 245 0 (sf_ld 0 1 1) := ok_iload_n (by decide +kernel : decode (mb_ 245) 0 = .ok (.iload_n 1, 1)) rfl
theorem ok_X12_many__1 : ok_S 245 1 (sf_sw [(0, 36), (1, 43), (2, 50), (3, 55), (4, 60)] 65) := ok_tsw (by decide +kernel : decode (mb_ 245) 1 = .ok (.tableswitch 64 0 4 #[35, 42, 49, 54, 59], 35)) (by decide) (by decide) (by decide) (by decide)
theorem ok_X12_many__36 : ok_S 245 36 (sf_ld 2 0 37) := ok_aload_n (by decide +kernel : decode (mb_ 245) 36 = .ok (.aload_n 0, 1)) rfl
theorem ok_X12_many__37 : ok_S 245 37 (sf_gr 13 13 0 40) := ok_gr fd_13_0 (by decide +kernel : decode (mb_ 245) 37 = .ok (.getfield 7, 3)) tw_1126 (Or.inl rfl) rfl
theorem ok_X12_many__40 : ok_S 245 40 (sf_push (0, 0) 41) := ok_iconst (by decide +kernel : decode (mb_ 245) 40 = .ok (.iconst 0, 1)) ⟨by decide, by decide⟩
theorem ok_X12_many__41 : ok_S 245 41 (sf_iald 42) := ok_iald (by decide +kernel : decode (mb_ 245) 41 = .ok (.iaload, 1))
theorem ok_X12_many__42 : ok_S 245 42 (sf_ret 0) := ok_ret0 (by decide +kernel : decode (mb_ 245) 42 = .ok (.ireturn, 1)) rfl
theorem ok_X12_many__43 : ok_S 245 43 (sf_ld 2 0 44) := ok_aload_n (by decide +kernel : decode (mb_ 245) 43 = .ok (.aload_n 0, 1)) rfl
theorem ok_X12_many__44 : ok_S 245 44 (sf_gr 13 13 0 47) := ok_gr fd_13_0 (by decide +kernel : decode (mb_ 245) 44 = .ok (.getfield 7, 3)) tw_1126 (Or.inl rfl) rfl
theorem ok_X12_many__47 : ok_S 245 47 (sf_push (0, 1) 48) := ok_iconst (by decide +kernel : decode (mb_ 245) 47 = .ok (.iconst 1, 1)) ⟨by decide, by decide⟩
theorem ok_X12_many__48 : ok_S 245 48 (sf_iald 49) := ok_iald (by decide +kernel : decode (mb_ 245) 48 = .ok (.iaload, 1))
theorem ok_X12_many__49 : ok_S 245 49 (sf_ret 0) := ok_ret0 (by decide +kernel : decode (mb_ 245) 49 = .ok (.ireturn, 1)) rfl
theorem ok_X12_many__50 : ok_S 245 50 (sf_ld 2 0 51) := ok_aload_n (by decide +kernel : decode (mb_ 245) 50 = .ok (.aload_n 0, 1)) rfl
theorem ok_X12_many__51 : ok_S 245 51 (sf_gi 13 13 15 54) := ok_gi fd_13_15 (by decide +kernel : decode (mb_ 245) 51 = .ok (.getfield 153, 3)) tw_1141 (Or.inl rfl) rfl
theorem ok_X12_many__54 : ok_S 245 54 (sf_ret 0) := ok_ret0 (by decide +kernel : decode (mb_ 245) 54 = .ok (.ireturn, 1)) rfl
theorem ok_X12_many__55 : ok_S 245 55 (sf_ld 2 0 56) := ok_aload_n (by decide +kernel : decode (mb_ 245) 55 = .ok (.aload_n 0, 1)) rfl
theorem ok_X12_many__56 : ok_S 245 56 (sf_gi 13 13 5 59) := ok_gi fd_13_5 (by decide +kernel : decode (mb_ 245) 56 = .ok (.getfield 60, 3)) tw_1131 (Or.inl rfl) rfl
theorem ok_X12_many__59 : ok_S 245 59 (sf_ret 0) := ok_ret0 (by decide +kernel : decode (mb_ 245) 59 = .ok (.ireturn, 1)) rfl
theorem ok_X12_many__60 : ok_S 245 60 (sf_ld 2 0 61) := ok_aload_n (by decide +kernel : decode (mb_ 245) 60 = .ok (.aload_n 0, 1)) rfl
theorem ok_X12_many__61 : ok_S 245 61 (sf_gi 13 13 22 64) := ok_gi fd_13_22 (by decide +kernel : decode (mb_ 245) 61 = .ok (.getfield 269, 3)) tw_1148 (Or.inl rfl) rfl
theorem ok_X12_many__64 : ok_S 245 64 (sf_ret 0) := ok_ret0 (by decide +kernel : decode (mb_ 245) 64 = .ok (.ireturn, 1)) rfl
theorem ok_X12_many__65 : ok_S 245 65 (sf_push (0, (-1)) 66) := ok_iconst (by decide +kernel : decode (mb_ 245) 65 = .ok (.iconst (-1), 1)) ⟨by decide, by decide⟩
theorem ok_X12_many__66 : ok_S 245 66 (sf_ret 0) := ok_ret0 (by decide +kernel : decode (mb_ 245) 66 = .ok (.ireturn, 1)) rfl
theorem ok_X12_many_ (pc : Nat) : ok_S 245 pc (cd_X12_many_ pc) :=
  (ok_bf (ok_bf (ok_bf (ok_bf (ok_bf (ok_lf pc ok_X12_many__66) (ok_lf pc ok_X12_many__65)) (ok_lf pc ok_X12_many__64)) (ok_bf (ok_bf (ok_lf pc ok_X12_many__61) (ok_lf pc ok_X12_many__60)) (ok_lf pc ok_X12_many__59))) (ok_bf (ok_bf (ok_bf (ok_lf pc ok_X12_many__56) (ok_lf pc ok_X12_many__55)) (ok_lf pc ok_X12_many__54)) (ok_bf (ok_bf (ok_lf pc ok_X12_many__51) (ok_lf pc ok_X12_many__50)) (ok_lf pc ok_X12_many__49)))) (ok_bf (ok_bf (ok_bf (ok_bf (ok_lf pc ok_X12_many__48) (ok_lf pc ok_X12_many__47)) (ok_lf pc ok_X12_many__44)) (ok_bf (ok_bf (ok_lf pc ok_X12_many__43) (ok_lf pc ok_X12_many__42)) (ok_lf pc ok_X12_many__41))) (ok_bf (ok_bf (ok_bf (ok_lf pc ok_X12_many__40) (ok_lf pc ok_X12_many__37)) (ok_lf pc ok_X12_many__36)) (ok_bf (ok_lf pc ok_X12_many__1) (ok_lf pc ok_X12_many__0)))))
theorem mo_X12_many_ (pc : Nat) : mo_S (cd_X12_many_ pc) :=
  (mo_bf (mo_bf (mo_bf (mo_bf (mo_bf (mo_bf mo_ret mo_no) (mo_bf mo_push mo_no)) (mo_bf mo_ret mo_no)) (mo_bf (mo_bf (mo_bf mo_gi mo_no) (mo_bf mo_ld mo_no)) (mo_bf mo_ret mo_no))) (mo_bf (mo_bf (mo_bf (mo_bf mo_gi mo_no) (mo_bf mo_ld mo_no)) (mo_bf mo_ret mo_no)) (mo_bf (mo_bf (mo_bf mo_gi mo_no) (mo_bf mo_ld mo_no)) (mo_bf mo_ret mo_no)))) (mo_bf (mo_bf (mo_bf (mo_bf (mo_bf mo_iald mo_no) (mo_bf mo_push mo_no)) (mo_bf mo_gr mo_no)) (mo_bf (mo_bf (mo_bf mo_ld mo_no) (mo_bf mo_ret mo_no)) (mo_bf mo_iald mo_no))) (mo_bf (mo_bf (mo_bf (mo_bf mo_push mo_no) (mo_bf mo_gr mo_no)) (mo_bf mo_ld mo_no)) (mo_bf (mo_bf mo_sw mo_no) (mo_bf mo_ld mo_no)))))
theorem ok_X12_keep_0 : ok_S 246 0 (sf_ld 2 0 1) := ok_aload_n (by decide +kernel : decode (mb_ 246) 0 = .ok (.aload_n 0, 1)) rfl
theorem ok_X12_keep_1 : ok_S 246 1 (sf_gr 13 13 0 4) := ok_gr fd_13_0 (by decide +kernel : decode (mb_ 246) 1 = .ok (.getfield 7, 3)) tw_1126 (Or.inl rfl) rfl
theorem ok_X12_keep_4 : ok_S 246 4 (sf_ld 2 0 5) := ok_aload_n (by decide +kernel : decode (mb_ 246) 4 = .ok (.aload_n 0, 1)) rfl
theorem ok_X12_keep_5 : ok_S 246 5 (sf_gr 13 13 1 8) := ok_gr fd_13_1 (by decide +kernel : decode (mb_ 246) 5 = .ok (.getfield 13, 3)) tw_1127 (Or.inl rfl) rfl
theorem ok_X12_keep_8 : ok_S 246 8 (sf_cs [2, 2] 155 11) := ok_cs mt_155 (by decide +kernel : decode (mb_ 246) 8 = .ok (.invokestatic 146, 3)) tw_1214 tw_1215 tw_7 (by decide +kernel) (mh_ok rfl) (by decide) (by decide)
theorem ok_X12_keep_11 : ok_S 246 11 (sf_ld 2 0 12) := ok_aload_n (by decide +kernel : decode (mb_ 246) 11 = .ok (.aload_n 0, 1)) rfl
theorem ok_X12_keep_12 : ok_S 246 12 (sf_push (0, 1) 13) := ok_iconst (by decide +kernel : decode (mb_ 246) 12 = .ok (.iconst 1, 1)) ⟨by decide, by decide⟩
theorem ok_X12_keep_13 : ok_S 246 13 (sf_pz 13 13 3 16) := ok_pz fd_13_3 (by decide +kernel : decode (mb_ 246) 13 = .ok (.putfield 301, 3)) tw_1129 rfl (Or.inl ff_13_3) rfl
theorem ok_X12_keep_16 : ok_S 246 16 (sf_push (0, 1) 17) := ok_iconst (by decide +kernel : decode (mb_ 246) 16 = .ok (.iconst 1, 1)) ⟨by decide, by decide⟩
theorem ok_X12_keep_17 : ok_S 246 17 (sf_ret 0) := ok_ret0 (by decide +kernel : decode (mb_ 246) 17 = .ok (.ireturn, 1)) rfl
theorem ok_X12_keep (pc : Nat) : ok_S 246 pc (cd_X12_keep pc) :=
  (ok_bf (ok_bf (ok_bf (ok_bf (ok_lf pc ok_X12_keep_17) (ok_lf pc ok_X12_keep_16)) (ok_lf pc ok_X12_keep_13)) (ok_bf (ok_lf pc ok_X12_keep_12) (ok_lf pc ok_X12_keep_11))) (ok_bf (ok_bf (ok_bf (ok_lf pc ok_X12_keep_8) (ok_lf pc ok_X12_keep_5)) (ok_lf pc ok_X12_keep_4)) (ok_bf (ok_lf pc ok_X12_keep_1) (ok_lf pc ok_X12_keep_0))))
theorem mo_X12_keep (pc : Nat) : mo_S (cd_X12_keep pc) :=
  (mo_bf (mo_bf (mo_bf (mo_bf (mo_bf mo_ret mo_no) (mo_bf mo_push mo_no)) (mo_bf mo_pz mo_no)) (mo_bf (mo_bf mo_push mo_no) (mo_bf mo_ld mo_no))) (mo_bf (mo_bf (mo_bf (mo_bf mo_cs mo_no) (mo_bf mo_gr mo_no)) (mo_bf mo_ld mo_no)) (mo_bf (mo_bf mo_gr mo_no) (mo_bf mo_ld mo_no))))
theorem ok_X12_again_0 : ok_S 247 0 (sf_ld 2 0 1) := ok_aload_n (by decide +kernel : decode (mb_ 247) 0 = .ok (.aload_n 0, 1)) rfl
theorem ok_X12_again_1 : ok_S 247 1 (sf_gi 13 13 3 4) := ok_gi fd_13_3 (by decide +kernel : decode (mb_ 247) 1 = .ok (.getfield 301, 3)) tw_1129 (Or.inl rfl) rfl
theorem ok_X12_again_4 : ok_S 247 4 (sf_if 1 10 7) := ok_if1 (by decide +kernel : decode (mb_ 247) 4 = .ok (.ifCond .ne 6, 3)) (by decide)
theorem ok_X12_again_7 : ok_S 247 7 (sf_push (0, (-3)) 9) := ok_bipush (by decide +kernel : decode (mb_ 247) 7 = .ok (.bipush (-3), 2)) ⟨by decide, by decide⟩ (by decide +kernel)
theorem ok_X12_again_9 : ok_S 247 9 (sf_ret 0) := ok_ret0 (by decide +kernel : decode (mb_ 247) 9 = .ok (.ireturn, 1)) rfl
theorem ok_X12_again_10 : ok_S 247 10 (sf_ld 2 0 11) := ok_aload_n (by decide +kernel : decode (mb_ 247) 10 = .ok (.aload_n 0, 1)) rfl
theorem ok_X12_again_11 : ok_S 247 11 (sf_gr 13 13 1 14) := ok_gr fd_13_1 (by decide +kernel : decode (mb_ 247) 11 = .ok (.getfield 13, 3)) tw_1127 (Or.inl rfl) rfl
theorem ok_X12_again_14 : ok_S 247 14 (sf_ld 2 0 15) := ok_aload_n (by decide +kernel : decode (mb_ 247) 14 = .ok (.aload_n 0, 1)) rfl
theorem ok_X12_again_15 : ok_S 247 15 (sf_gr 13 13 0 18) := ok_gr fd_13_0 (by decide +kernel : decode (mb_ 247) 15 = .ok (.getfield 7, 3)) tw_1126 (Or.inl rfl) rfl
theorem ok_X12_again_18 : ok_S 247 18 (sf_cs [2, 2] 155 21) := ok_cs mt_155 (by decide +kernel : decode (mb_ 247) 18 = .ok (.invokestatic 146, 3)) tw_1214 tw_1215 tw_7 (by decide +kernel) (mh_ok rfl) (by decide) (by decide)
theorem ok_X12_again_21 : ok_S 247 21 (sf_ld 2 0 22) := ok_aload_n (by decide +kernel : decode (mb_ 247) 21 = .ok (.aload_n 0, 1)) rfl
theorem ok_X12_again_22 : ok_S 247 22 (sf_gr 13 13 0 25) := ok_gr fd_13_0 (by decide +kernel : decode (mb_ 247) 22 = .ok (.getfield 7, 3)) tw_1126 (Or.inl rfl) rfl
theorem ok_X12_again_25 : ok_S 247 25 (sf_push (0, 0) 26) := ok_iconst (by decide +kernel : decode (mb_ 247) 25 = .ok (.iconst 0, 1)) ⟨by decide, by decide⟩
theorem ok_X12_again_26 : ok_S 247 26 (sf_iald 27) := ok_iald (by decide +kernel : decode (mb_ 247) 26 = .ok (.iaload, 1))
theorem ok_X12_again_27 : ok_S 247 27 (sf_ret 0) := ok_ret0 (by decide +kernel : decode (mb_ 247) 27 = .ok (.ireturn, 1)) rfl
theorem ok_X12_again (pc : Nat) : ok_S 247 pc (cd_X12_again pc) :=
  (ok_bf (ok_bf (ok_bf (ok_bf (ok_lf pc ok_X12_again_27) (ok_lf pc ok_X12_again_26)) (ok_bf (ok_lf pc ok_X12_again_25) (ok_lf pc ok_X12_again_22))) (ok_bf (ok_bf (ok_lf pc ok_X12_again_21) (ok_lf pc ok_X12_again_18)) (ok_bf (ok_lf pc ok_X12_again_15) (ok_lf pc ok_X12_again_14)))) (ok_bf (ok_bf (ok_bf (ok_lf pc ok_X12_again_11) (ok_lf pc ok_X12_again_10)) (ok_bf (ok_lf pc ok_X12_again_9) (ok_lf pc ok_X12_again_7))) (ok_bf (ok_bf (ok_lf pc ok_X12_again_4) (ok_lf pc ok_X12_again_1)) (ok_lf pc ok_X12_again_0))))
theorem mo_X12_again (pc : Nat) : mo_S (cd_X12_again pc) :=
  (mo_bf (mo_bf (mo_bf (mo_bf (mo_bf mo_ret mo_no) (mo_bf mo_iald mo_no)) (mo_bf (mo_bf mo_push mo_no) (mo_bf mo_gr mo_no))) (mo_bf (mo_bf (mo_bf mo_ld mo_no) (mo_bf mo_cs mo_no)) (mo_bf (mo_bf mo_gr mo_no) (mo_bf mo_ld mo_no)))) (mo_bf (mo_bf (mo_bf (mo_bf mo_gr mo_no) (mo_bf mo_ld mo_no)) (mo_bf (mo_bf mo_ret mo_no) (mo_bf mo_push mo_no))) (mo_bf (mo_bf (mo_bf mo_if mo_no) (mo_bf mo_gi mo_no)) (mo_bf mo_ld mo_no))))
