/-! PRINTED (gen_ok.py): each step is sound -/
theorem ok_X11_init_0 : ok_S 98 0 (sf_ld 2 0 1) := ok_aload_n (by decide +kernel : decode (mb_ 98) 0 = .ok (.aload_n 0, 1)) rfl
theorem ok_X11_init_1 : ok_S 98 1 (sf_oini 4) := ok_oini (by decide +kernel : decode (mb_ 98) 1 = .ok (.invokespecial 1, 3)) tw_27 tw_28 tw_29
theorem ok_X11_init_4 : ok_S 98 4 (sf_ld 2 0 5) := ok_aload_n (by decide +kernel : decode (mb_ 98) 4 = .ok (.aload_n 0, 1)) rfl
theorem ok_X11_init_5 : ok_S 98 5 (sf_push (0, 200) 8) := ok_sipush (by decide +kernel : decode (mb_ 98) 5 = .ok (.sipush 200, 3)) ⟨by decide, by decide⟩ (by decide +kernel)
theorem ok_X11_init_8 : ok_S 98 8 (sf_newa 20 10) := ok_newa rfl (Or.inl ⟨rfl, rfl⟩) (by decide +kernel : decode (mb_ 98) 8 = .ok (.newarray .int, 2)) tw_81
theorem ok_X11_init_10 : ok_S 98 10 (sf_pr 7 7 0 13) := ok_pr fd_7_0 (by decide +kernel : decode (mb_ 98) 10 = .ok (.putfield 9, 3)) tw_206 rfl (Or.inr ⟨ff_7_0, rfl, rfl⟩) rfl (by decide +kernel : parseFieldDescriptor "[I" = some (.array .int)) (Or.inr ⟨_, rfl⟩)
theorem ok_X11_init_13 : ok_S 98 13 (sf_ld 2 0 14) := ok_aload_n (by decide +kernel : decode (mb_ 98) 13 = .ok (.aload_n 0, 1)) rfl
theorem ok_X11_init_14 : ok_S 98 14 (sf_push (0, 0) 15) := ok_iconst (by decide +kernel : decode (mb_ 98) 14 = .ok (.iconst 0, 1)) ⟨by decide, by decide⟩
theorem ok_X11_init_15 : ok_S 98 15 (sf_pi 7 7 1 18) := ok_pi fd_7_1 (by decide +kernel : decode (mb_ 98) 15 = .ok (.putfield 13, 3)) tw_207 rfl (Or.inl ff_7_1) rfl
theorem ok_X11_init_18 : ok_S 98 18 (sf_ld 2 0 19) := ok_aload_n (by decide +kernel : decode (mb_ 98) 18 = .ok (.aload_n 0, 1)) rfl
theorem ok_X11_init_19 : ok_S 98 19 (sf_new 9 22) := ok_new cn_9 (by decide +kernel : decode (mb_ 98) 19 = .ok (.new 17, 3)) tw_30 tw_31 tw_2
theorem ok_X11_init_22 : ok_S 98 22 (sf_dup 23) := ok_dup (by decide +kernel : decode (mb_ 98) 22 = .ok (.dup, 1))
theorem ok_X11_init_23 : ok_S 98 23 (sf_ci 9 9 [2] 12 26) := ok_ci mt_12 (by decide) (by decide) (by decide +kernel : decode (mb_ 98) 23 = .ok (.invokespecial 19, 3)) tw_32 tw_33 tw_2 rfl rfl rfl (by decide +kernel) (mh_ok rfl) (by decide) (by decide)
theorem ok_X11_init_26 : ok_S 98 26 (sf_pr 7 7 2 29) := ok_pr fd_7_2 (by decide +kernel : decode (mb_ 98) 26 = .ok (.putfield 20, 3)) tw_208 rfl (Or.inr ⟨ff_7_2, rfl, rfl⟩) rfl (by decide +kernel : parseFieldDescriptor "LRoomNumbers$Finder;" = some (.object "RoomNumbers$Finder")) (Or.inl ⟨_, rfl⟩)
theorem ok_X11_init_29 : ok_S 98 29 (sf_ld 2 0 30) := ok_aload_n (by decide +kernel : decode (mb_ 98) 29 = .ok (.aload_n 0, 1)) rfl
theorem ok_X11_init_30 : ok_S 98 30 (sf_ld 2 0 31) := ok_aload_n (by decide +kernel : decode (mb_ 98) 30 = .ok (.aload_n 0, 1)) rfl
theorem ok_X11_init_31 : ok_S 98 31 (sf_gr 7 7 2 34) := ok_gr fd_7_2 (by decide +kernel : decode (mb_ 98) 31 = .ok (.getfield 20, 3)) tw_208 (Or.inl rfl) rfl
theorem ok_X11_init_34 : ok_S 98 34 (sf_gr 9 9 0 37) := ok_gr fd_9_0 (by decide +kernel : decode (mb_ 98) 34 = .ok (.getfield 24, 3)) tw_83 (Or.inl rfl) rfl
theorem ok_X11_init_37 : ok_S 98 37 (sf_pr 7 7 3 40) := ok_pr fd_7_3 (by decide +kernel : decode (mb_ 98) 37 = .ok (.putfield 28, 3)) tw_209 rfl (Or.inr ⟨ff_7_3, rfl, rfl⟩) rfl (by decide +kernel : parseFieldDescriptor "LRoomNumbers$Valley;" = some (.object "RoomNumbers$Valley")) (Or.inl ⟨_, rfl⟩)
theorem ok_X11_init_40 : ok_S 98 40 (sf_ld 2 0 41) := ok_aload_n (by decide +kernel : decode (mb_ 98) 40 = .ok (.aload_n 0, 1)) rfl
theorem ok_X11_init_41 : ok_S 98 41 (sf_new 8 44) := ok_new cn_8 (by decide +kernel : decode (mb_ 98) 41 = .ok (.new 31, 3)) tw_136 tw_37 tw_3
theorem ok_X11_init_44 : ok_S 98 44 (sf_dup 45) := ok_dup (by decide +kernel : decode (mb_ 98) 44 = .ok (.dup, 1))
theorem ok_X11_init_45 : ok_S 98 45 (sf_ci 8 8 [2] 84 48) := ok_ci mt_84 (by decide) (by decide) (by decide +kernel : decode (mb_ 98) 45 = .ok (.invokespecial 33, 3)) tw_137 tw_39 tw_3 rfl rfl rfl (by decide +kernel) (mh_ok rfl) (by decide) (by decide)
theorem ok_X11_init_48 : ok_S 98 48 (sf_pr 7 7 4 51) := ok_pr fd_7_4 (by decide +kernel : decode (mb_ 98) 48 = .ok (.putfield 34, 3)) tw_210 rfl (Or.inr ⟨ff_7_4, rfl, rfl⟩) rfl (by decide +kernel : parseFieldDescriptor "LRoomNumbers$Valley;" = some (.object "RoomNumbers$Valley")) (Or.inl ⟨_, rfl⟩)
theorem ok_X11_init_51 : ok_S 98 51 (sf_ld 2 0 52) := ok_aload_n (by decide +kernel : decode (mb_ 98) 51 = .ok (.aload_n 0, 1)) rfl
theorem ok_X11_init_52 : ok_S 98 52 (sf_push (0, 0) 53) := ok_iconst (by decide +kernel : decode (mb_ 98) 52 = .ok (.iconst 0, 1)) ⟨by decide, by decide⟩
theorem ok_X11_init_53 : ok_S 98 53 (sf_pz 7 7 5 56) := ok_pz fd_7_5 (by decide +kernel : decode (mb_ 98) 53 = .ok (.putfield 37, 3)) tw_211 rfl (Or.inl ff_7_5) rfl
theorem ok_X11_init_56 : ok_S 98 56 (sf_ld 2 0 57) := ok_aload_n (by decide +kernel : decode (mb_ 98) 56 = .ok (.aload_n 0, 1)) rfl
theorem ok_X11_init_57 : ok_S 98 57 (sf_push (0, 1) 58) := ok_iconst (by decide +kernel : decode (mb_ 98) 57 = .ok (.iconst 1, 1)) ⟨by decide, by decide⟩
theorem ok_X11_init_58 : ok_S 98 58 (sf_pi 7 7 6 61) := ok_pi fd_7_6 (by decide +kernel : decode (mb_ 98) 58 = .ok (.putfield 41, 3)) tw_212 rfl (Or.inl ff_7_6) rfl
theorem ok_X11_init_61 : ok_S 98 61 (sf_ld 2 0 62) := ok_aload_n (by decide +kernel : decode (mb_ 98) 61 = .ok (.aload_n 0, 1)) rfl
theorem ok_X11_init_62 : ok_S 98 62 (sf_push (0, 1) 63) := ok_iconst (by decide +kernel : decode (mb_ 98) 62 = .ok (.iconst 1, 1)) ⟨by decide, by decide⟩
theorem ok_X11_init_63 : ok_S 98 63 (sf_pi 7 7 7 66) := ok_pi fd_7_7 (by decide +kernel : decode (mb_ 98) 63 = .ok (.putfield 44, 3)) tw_213 rfl (Or.inl ff_7_7) rfl
theorem ok_X11_init_66 : ok_S 98 66 (sf_ld 2 0 67) := ok_aload_n (by decide +kernel : decode (mb_ 98) 66 = .ok (.aload_n 0, 1)) rfl
theorem ok_X11_init_67 : ok_S 98 67 (sf_new 10 70) := ok_new cn_10 (by decide +kernel : decode (mb_ 98) 67 = .ok (.new 47, 3)) tw_138 tw_139 tw_5
theorem ok_X11_init_70 : ok_S 98 70 (sf_dup 71) := ok_dup (by decide +kernel : decode (mb_ 98) 70 = .ok (.dup, 1))
theorem ok_X11_init_71 : ok_S 98 71 (sf_ci 10 10 [2] 59 74) := ok_ci mt_59 (by decide) (by decide) (by decide +kernel : decode (mb_ 98) 71 = .ok (.invokespecial 49, 3)) tw_140 tw_141 tw_5 rfl rfl rfl (by decide +kernel) (mh_ok rfl) (by decide) (by decide)
theorem ok_X11_init_74 : ok_S 98 74 (sf_pr 7 7 8 77) := ok_pr fd_7_8 (by decide +kernel : decode (mb_ 98) 74 = .ok (.putfield 50, 3)) tw_214 rfl (Or.inr ⟨ff_7_8, rfl, rfl⟩) rfl (by decide +kernel : parseFieldDescriptor "LRoomNumbers$Teller;" = some (.object "RoomNumbers$Teller")) (Or.inl ⟨_, rfl⟩)
theorem ok_X11_init_77 : ok_S 98 77 (sf_ld 2 0 78) := ok_aload_n (by decide +kernel : decode (mb_ 98) 77 = .ok (.aload_n 0, 1)) rfl
theorem ok_X11_init_78 : ok_S 98 78 (sf_push (0, 18) 80) := ok_bipush (by decide +kernel : decode (mb_ 98) 78 = .ok (.bipush 18, 2)) ⟨by decide, by decide⟩ (by decide +kernel)
theorem ok_X11_init_80 : ok_S 98 80 (sf_newa 21 82) := ok_newa rfl (Or.inr ⟨rfl, rfl⟩) (by decide +kernel : decode (mb_ 98) 80 = .ok (.newarray .long, 2)) tw_204
theorem ok_X11_init_82 : ok_S 98 82 (sf_pr 7 7 9 85) := ok_pr fd_7_9 (by decide +kernel : decode (mb_ 98) 82 = .ok (.putfield 54, 3)) tw_215 rfl (Or.inr ⟨ff_7_9, rfl, rfl⟩) rfl (by decide +kernel : parseFieldDescriptor "[J" = some (.array .long)) (Or.inr ⟨_, rfl⟩)
theorem ok_X11_init_85 : ok_S 98 85 (sf_ld 2 0 86) := ok_aload_n (by decide +kernel : decode (mb_ 98) 85 = .ok (.aload_n 0, 1)) rfl
theorem ok_X11_init_86 : ok_S 98 86 (sf_push (0, 0) 87) := ok_iconst (by decide +kernel : decode (mb_ 98) 86 = .ok (.iconst 0, 1)) ⟨by decide, by decide⟩
theorem ok_X11_init_87 : ok_S 98 87 (sf_pi 7 7 10 90) := ok_pi fd_7_10 (by decide +kernel : decode (mb_ 98) 87 = .ok (.putfield 58, 3)) tw_216 rfl (Or.inl ff_7_10) rfl
theorem ok_X11_init_90 : ok_S 98 90 (sf_ld 2 0 91) := ok_aload_n (by decide +kernel : decode (mb_ 98) 90 = .ok (.aload_n 0, 1)) rfl
theorem ok_X11_init_91 : ok_S 98 91 (sf_push (0, 3) 92) := ok_iconst (by decide +kernel : decode (mb_ 98) 91 = .ok (.iconst 3, 1)) ⟨by decide, by decide⟩
theorem ok_X11_init_92 : ok_S 98 92 (sf_newa 20 94) := ok_newa rfl (Or.inl ⟨rfl, rfl⟩) (by decide +kernel : decode (mb_ 98) 92 = .ok (.newarray .int, 2)) tw_81
theorem ok_X11_init_94 : ok_S 98 94 (sf_pr 7 7 11 97) := ok_pr fd_7_11 (by decide +kernel : decode (mb_ 98) 94 = .ok (.putfield 61, 3)) tw_217 rfl (Or.inr ⟨ff_7_11, rfl, rfl⟩) rfl (by decide +kernel : parseFieldDescriptor "[I" = some (.array .int)) (Or.inr ⟨_, rfl⟩)
theorem ok_X11_init_97 : ok_S 98 97 (sf_ld 2 0 98) := ok_aload_n (by decide +kernel : decode (mb_ 98) 97 = .ok (.aload_n 0, 1)) rfl
theorem ok_X11_init_98 : ok_S 98 98 (sf_push (0, 4) 99) := ok_iconst (by decide +kernel : decode (mb_ 98) 98 = .ok (.iconst 4, 1)) ⟨by decide, by decide⟩
theorem ok_X11_init_99 : ok_S 98 99 (sf_newa 23 102) := ok_newr (Or.inr ⟨rfl, rfl⟩) (by decide +kernel : decode (mb_ 98) 99 = .ok (.anewarray 64, 3)) tw_173
theorem ok_X11_init_102 : ok_S 98 102 (sf_pr 7 7 12 105) := ok_pr fd_7_12 (by decide +kernel : decode (mb_ 98) 102 = .ok (.putfield 66, 3)) tw_218 rfl (Or.inr ⟨ff_7_12, rfl, rfl⟩) rfl (by decide +kernel : parseFieldDescriptor "[LRoomNumbers$SheetRow;" = some (.array (.object "RoomNumbers$SheetRow"))) (Or.inr ⟨_, rfl⟩)
theorem ok_X11_init_105 : ok_S 98 105 (sf_ld 2 0 106) := ok_aload_n (by decide +kernel : decode (mb_ 98) 105 = .ok (.aload_n 0, 1)) rfl
theorem ok_X11_init_106 : ok_S 98 106 (sf_push (0, 4) 107) := ok_iconst (by decide +kernel : decode (mb_ 98) 106 = .ok (.iconst 4, 1)) ⟨by decide, by decide⟩
theorem ok_X11_init_107 : ok_S 98 107 (sf_newa 20 109) := ok_newa rfl (Or.inl ⟨rfl, rfl⟩) (by decide +kernel : decode (mb_ 98) 107 = .ok (.newarray .int, 2)) tw_81
theorem ok_X11_init_109 : ok_S 98 109 (sf_pr 7 7 13 112) := ok_pr fd_7_13 (by decide +kernel : decode (mb_ 98) 109 = .ok (.putfield 70, 3)) tw_219 rfl (Or.inr ⟨ff_7_13, rfl, rfl⟩) rfl (by decide +kernel : parseFieldDescriptor "[I" = some (.array .int)) (Or.inr ⟨_, rfl⟩)
theorem ok_X11_init_112 : ok_S 98 112 (sf_ld 2 0 113) := ok_aload_n (by decide +kernel : decode (mb_ 98) 112 = .ok (.aload_n 0, 1)) rfl
theorem ok_X11_init_113 : ok_S 98 113 (sf_push (0, 4) 114) := ok_iconst (by decide +kernel : decode (mb_ 98) 113 = .ok (.iconst 4, 1)) ⟨by decide, by decide⟩
theorem ok_X11_init_114 : ok_S 98 114 (sf_newa 20 116) := ok_newa rfl (Or.inl ⟨rfl, rfl⟩) (by decide +kernel : decode (mb_ 98) 114 = .ok (.newarray .int, 2)) tw_81
theorem ok_X11_init_116 : ok_S 98 116 (sf_pr 7 7 14 119) := ok_pr fd_7_14 (by decide +kernel : decode (mb_ 98) 116 = .ok (.putfield 73, 3)) tw_220 rfl (Or.inr ⟨ff_7_14, rfl, rfl⟩) rfl (by decide +kernel : parseFieldDescriptor "[I" = some (.array .int)) (Or.inr ⟨_, rfl⟩)
theorem ok_X11_init_119 : ok_S 98 119 (sf_ld 2 0 120) := ok_aload_n (by decide +kernel : decode (mb_ 98) 119 = .ok (.aload_n 0, 1)) rfl
theorem ok_X11_init_120 : ok_S 98 120 (sf_push (0, 4) 121) := ok_iconst (by decide +kernel : decode (mb_ 98) 120 = .ok (.iconst 4, 1)) ⟨by decide, by decide⟩
theorem ok_X11_init_121 : ok_S 98 121 (sf_newa 23 124) := ok_newr (Or.inr ⟨rfl, rfl⟩) (by decide +kernel : decode (mb_ 98) 121 = .ok (.anewarray 64, 3)) tw_173
theorem ok_X11_init_124 : ok_S 98 124 (sf_pr 7 7 15 127) := ok_pr fd_7_15 (by decide +kernel : decode (mb_ 98) 124 = .ok (.putfield 76, 3)) tw_221 rfl (Or.inr ⟨ff_7_15, rfl, rfl⟩) rfl (by decide +kernel : parseFieldDescriptor "[LRoomNumbers$SheetRow;" = some (.array (.object "RoomNumbers$SheetRow"))) (Or.inr ⟨_, rfl⟩)
theorem ok_X11_init_127 : ok_S 98 127 (sf_ld 2 0 128) := ok_aload_n (by decide +kernel : decode (mb_ 98) 127 = .ok (.aload_n 0, 1)) rfl
theorem ok_X11_init_128 : ok_S 98 128 (sf_new 11 131) := ok_new cn_11 (by decide +kernel : decode (mb_ 98) 128 = .ok (.new 79, 3)) tw_175 tw_176 tw_6
theorem ok_X11_init_131 : ok_S 98 131 (sf_dup 132) := ok_dup (by decide +kernel : decode (mb_ 98) 131 = .ok (.dup, 1))
theorem ok_X11_init_132 : ok_S 98 132 (sf_ci 11 11 [2] 74 135) := ok_ci mt_74 (by decide) (by decide) (by decide +kernel : decode (mb_ 98) 132 = .ok (.invokespecial 81, 3)) tw_177 tw_178 tw_6 rfl rfl rfl (by decide +kernel) (mh_ok rfl) (by decide) (by decide)
theorem ok_X11_init_135 : ok_S 98 135 (sf_pr 7 7 16 138) := ok_pr fd_7_16 (by decide +kernel : decode (mb_ 98) 135 = .ok (.putfield 82, 3)) tw_222 rfl (Or.inr ⟨ff_7_16, rfl, rfl⟩) rfl (by decide +kernel : parseFieldDescriptor "LRoomNumbers$Trace;" = some (.object "RoomNumbers$Trace")) (Or.inl ⟨_, rfl⟩)
theorem ok_X11_init_138 : ok_S 98 138 (sf_ld 2 0 139) := ok_aload_n (by decide +kernel : decode (mb_ 98) 138 = .ok (.aload_n 0, 1)) rfl
theorem ok_X11_init_139 : ok_S 98 139 (sf_gr 7 7 13 142) := ok_gr fd_7_13 (by decide +kernel : decode (mb_ 98) 139 = .ok (.getfield 70, 3)) tw_219 (Or.inl rfl) rfl
theorem ok_X11_init_142 : ok_S 98 142 (sf_push (0, 2) 143) := ok_iconst (by decide +kernel : decode (mb_ 98) 142 = .ok (.iconst 2, 1)) ⟨by decide, by decide⟩
theorem ok_X11_init_143 : ok_S 98 143 (sf_cs [2, 0] 255 146) := ok_cs mt_255 (by decide +kernel : decode (mb_ 98) 143 = .ok (.invokestatic 86, 3)) tw_205 tw_45 tw_4 (by decide +kernel) (mh_ok rfl) (by decide) (by decide)
theorem ok_X11_init_146 : ok_S 98 146 (sf_retv) := ok_retv (by decide +kernel : decode (mb_ 98) 146 = .ok (.return_, 1)) rfl
theorem ok_X11_init (pc : Nat) : ok_S 98 pc (cd_X11_init pc) :=
  (ok_bf (ok_bf (ok_bf (ok_bf (ok_bf (ok_bf (ok_bf (ok_lf pc ok_X11_init_146) (ok_lf pc ok_X11_init_143)) (ok_lf pc ok_X11_init_142)) (ok_bf (ok_lf pc ok_X11_init_139) (ok_lf pc ok_X11_init_138))) (ok_bf (ok_bf (ok_bf (ok_lf pc ok_X11_init_135) (ok_lf pc ok_X11_init_132)) (ok_lf pc ok_X11_init_131)) (ok_bf (ok_lf pc ok_X11_init_128) (ok_lf pc ok_X11_init_127)))) (ok_bf (ok_bf (ok_bf (ok_bf (ok_lf pc ok_X11_init_124) (ok_lf pc ok_X11_init_121)) (ok_lf pc ok_X11_init_120)) (ok_bf (ok_lf pc ok_X11_init_119) (ok_lf pc ok_X11_init_116))) (ok_bf (ok_bf (ok_lf pc ok_X11_init_114) (ok_lf pc ok_X11_init_113)) (ok_bf (ok_lf pc ok_X11_init_112) (ok_lf pc ok_X11_init_109))))) (ok_bf (ok_bf (ok_bf (ok_bf (ok_bf (ok_lf pc ok_X11_init_107) (ok_lf pc ok_X11_init_106)) (ok_lf pc ok_X11_init_105)) (ok_bf (ok_lf pc ok_X11_init_102) (ok_lf pc ok_X11_init_99))) (ok_bf (ok_bf (ok_bf (ok_lf pc ok_X11_init_98) (ok_lf pc ok_X11_init_97)) (ok_lf pc ok_X11_init_94)) (ok_bf (ok_lf pc ok_X11_init_92) (ok_lf pc ok_X11_init_91)))) (ok_bf (ok_bf (ok_bf (ok_bf (ok_lf pc ok_X11_init_90) (ok_lf pc ok_X11_init_87)) (ok_lf pc ok_X11_init_86)) (ok_bf (ok_lf pc ok_X11_init_85) (ok_lf pc ok_X11_init_82))) (ok_bf (ok_bf (ok_lf pc ok_X11_init_80) (ok_lf pc ok_X11_init_78)) (ok_bf (ok_lf pc ok_X11_init_77) (ok_lf pc ok_X11_init_74)))))) (ok_bf (ok_bf (ok_bf (ok_bf (ok_bf (ok_bf (ok_lf pc ok_X11_init_71) (ok_lf pc ok_X11_init_70)) (ok_lf pc ok_X11_init_67)) (ok_bf (ok_lf pc ok_X11_init_66) (ok_lf pc ok_X11_init_63))) (ok_bf (ok_bf (ok_bf (ok_lf pc ok_X11_init_62) (ok_lf pc ok_X11_init_61)) (ok_lf pc ok_X11_init_58)) (ok_bf (ok_lf pc ok_X11_init_57) (ok_lf pc ok_X11_init_56)))) (ok_bf (ok_bf (ok_bf (ok_bf (ok_lf pc ok_X11_init_53) (ok_lf pc ok_X11_init_52)) (ok_lf pc ok_X11_init_51)) (ok_bf (ok_lf pc ok_X11_init_48) (ok_lf pc ok_X11_init_45))) (ok_bf (ok_bf (ok_lf pc ok_X11_init_44) (ok_lf pc ok_X11_init_41)) (ok_bf (ok_lf pc ok_X11_init_40) (ok_lf pc ok_X11_init_37))))) (ok_bf (ok_bf (ok_bf (ok_bf (ok_bf (ok_lf pc ok_X11_init_34) (ok_lf pc ok_X11_init_31)) (ok_lf pc ok_X11_init_30)) (ok_bf (ok_lf pc ok_X11_init_29) (ok_lf pc ok_X11_init_26))) (ok_bf (ok_bf (ok_lf pc ok_X11_init_23) (ok_lf pc ok_X11_init_22)) (ok_bf (ok_lf pc ok_X11_init_19) (ok_lf pc ok_X11_init_18)))) (ok_bf (ok_bf (ok_bf (ok_bf (ok_lf pc ok_X11_init_15) (ok_lf pc ok_X11_init_14)) (ok_lf pc ok_X11_init_13)) (ok_bf (ok_lf pc ok_X11_init_10) (ok_lf pc ok_X11_init_8))) (ok_bf (ok_bf (ok_lf pc ok_X11_init_5) (ok_lf pc ok_X11_init_4)) (ok_bf (ok_lf pc ok_X11_init_1) (ok_lf pc ok_X11_init_0)))))))
theorem mo_X11_init (pc : Nat) : mo_S (cd_X11_init pc) :=
  (mo_bf (mo_bf (mo_bf (mo_bf (mo_bf (mo_bf (mo_bf (mo_bf mo_retv mo_no) (mo_bf mo_cs mo_no)) (mo_bf mo_push mo_no)) (mo_bf (mo_bf mo_gr mo_no) (mo_bf mo_ld mo_no))) (mo_bf (mo_bf (mo_bf (mo_bf mo_pr mo_no) (mo_bf mo_ci mo_no)) (mo_bf mo_dup mo_no)) (mo_bf (mo_bf mo_new mo_no) (mo_bf mo_ld mo_no)))) (mo_bf (mo_bf (mo_bf (mo_bf (mo_bf mo_pr mo_no) (mo_bf mo_newa mo_no)) (mo_bf mo_push mo_no)) (mo_bf (mo_bf mo_ld mo_no) (mo_bf mo_pr mo_no))) (mo_bf (mo_bf (mo_bf mo_newa mo_no) (mo_bf mo_push mo_no)) (mo_bf (mo_bf mo_ld mo_no) (mo_bf mo_pr mo_no))))) (mo_bf (mo_bf (mo_bf (mo_bf (mo_bf (mo_bf mo_newa mo_no) (mo_bf mo_push mo_no)) (mo_bf mo_ld mo_no)) (mo_bf (mo_bf mo_pr mo_no) (mo_bf mo_newa mo_no))) (mo_bf (mo_bf (mo_bf (mo_bf mo_push mo_no) (mo_bf mo_ld mo_no)) (mo_bf mo_pr mo_no)) (mo_bf (mo_bf mo_newa mo_no) (mo_bf mo_push mo_no)))) (mo_bf (mo_bf (mo_bf (mo_bf (mo_bf mo_ld mo_no) (mo_bf mo_pi mo_no)) (mo_bf mo_push mo_no)) (mo_bf (mo_bf mo_ld mo_no) (mo_bf mo_pr mo_no))) (mo_bf (mo_bf (mo_bf mo_newa mo_no) (mo_bf mo_push mo_no)) (mo_bf (mo_bf mo_ld mo_no) (mo_bf mo_pr mo_no)))))) (mo_bf (mo_bf (mo_bf (mo_bf (mo_bf (mo_bf (mo_bf mo_ci mo_no) (mo_bf mo_dup mo_no)) (mo_bf mo_new mo_no)) (mo_bf (mo_bf mo_ld mo_no) (mo_bf mo_pi mo_no))) (mo_bf (mo_bf (mo_bf (mo_bf mo_push mo_no) (mo_bf mo_ld mo_no)) (mo_bf mo_pi mo_no)) (mo_bf (mo_bf mo_push mo_no) (mo_bf mo_ld mo_no)))) (mo_bf (mo_bf (mo_bf (mo_bf (mo_bf mo_pz mo_no) (mo_bf mo_push mo_no)) (mo_bf mo_ld mo_no)) (mo_bf (mo_bf mo_pr mo_no) (mo_bf mo_ci mo_no))) (mo_bf (mo_bf (mo_bf mo_dup mo_no) (mo_bf mo_new mo_no)) (mo_bf (mo_bf mo_ld mo_no) (mo_bf mo_pr mo_no))))) (mo_bf (mo_bf (mo_bf (mo_bf (mo_bf (mo_bf mo_gr mo_no) (mo_bf mo_gr mo_no)) (mo_bf mo_ld mo_no)) (mo_bf (mo_bf mo_ld mo_no) (mo_bf mo_pr mo_no))) (mo_bf (mo_bf (mo_bf mo_ci mo_no) (mo_bf mo_dup mo_no)) (mo_bf (mo_bf mo_new mo_no) (mo_bf mo_ld mo_no)))) (mo_bf (mo_bf (mo_bf (mo_bf (mo_bf mo_pi mo_no) (mo_bf mo_push mo_no)) (mo_bf mo_ld mo_no)) (mo_bf (mo_bf mo_pr mo_no) (mo_bf mo_newa mo_no))) (mo_bf (mo_bf (mo_bf mo_push mo_no) (mo_bf mo_ld mo_no)) (mo_bf (mo_bf mo_oini mo_no) (mo_bf mo_ld mo_no)))))))
theorem ok_X11_feed_0 : ok_S 99 0 (sf_ld 0 3 1) := ok_iload_n (by decide +kernel : decode (mb_ 99) 0 = .ok (.iload_n 3, 1)) rfl
theorem ok_X11_feed_1 : ok_S 99 1 (sf_push (0, 1) 2) := ok_iconst (by decide +kernel : decode (mb_ 99) 1 = .ok (.iconst 1, 1)) ⟨by decide, by decide⟩
theorem ok_X11_feed_2 : ok_S 99 2 (sf_push (0, 8) 4) := ok_bipush (by decide +kernel : decode (mb_ 99) 2 = .ok (.bipush 8, 2)) ⟨by decide, by decide⟩ (by decide +kernel)
theorem ok_X11_feed_4 : ok_S 99 4 (sf_cs [0, 0, 0] 145 7) := ok_cs mt_145 (by decide +kernel : decode (mb_ 99) 4 = .ok (.invokestatic 92, 3)) tw_262 tw_263 tw_1 (by decide +kernel) (mh_ok rfl) (by decide) (by decide)
theorem ok_X11_feed_7 : ok_S 99 7 (sf_if 1 12 10) := ok_if1 (by decide +kernel : decode (mb_ 99) 7 = .ok (.ifCond .ne 5, 3)) (by decide)
theorem ok_X11_feed_10 : ok_S 99 10 (sf_push (0, (-1)) 11) := ok_iconst (by decide +kernel : decode (mb_ 99) 10 = .ok (.iconst (-1), 1)) ⟨by decide, by decide⟩
theorem ok_X11_feed_11 : ok_S 99 11 (sf_ret 0) := ok_ret0 (by decide +kernel : decode (mb_ 99) 11 = .ok (.ireturn, 1)) rfl
theorem ok_X11_feed_12 : ok_S 99 12 (sf_ld 2 0 13) := ok_aload_n (by decide +kernel : decode (mb_ 99) 12 = .ok (.aload_n 0, 1)) rfl
theorem ok_X11_feed_13 : ok_S 99 13 (sf_gi 7 7 1 16) := ok_gi fd_7_1 (by decide +kernel : decode (mb_ 99) 13 = .ok (.getfield 13, 3)) tw_207 (Or.inl rfl) rfl
theorem ok_X11_feed_16 : ok_S 99 16 (sf_ld 0 3 17) := ok_iload_n (by decide +kernel : decode (mb_ 99) 16 = .ok (.iload_n 3, 1)) rfl
theorem ok_X11_feed_17 : ok_S 99 17 (sf_i2 mx_add 18) := ok_iadd (by decide +kernel : decode (mb_ 99) 17 = .ok (.iadd, 1))
theorem ok_X11_feed_18 : ok_S 99 18 (sf_push (0, 200) 21) := ok_sipush (by decide +kernel : decode (mb_ 99) 18 = .ok (.sipush 200, 3)) ⟨by decide, by decide⟩ (by decide +kernel)
theorem ok_X11_feed_21 : ok_S 99 21 (sf_ic 5 27 24) := ok_ic5 (by decide +kernel : decode (mb_ 99) 21 = .ok (.if_icmp .le 6, 3)) (by decide)
theorem ok_X11_feed_24 : ok_S 99 24 (sf_push (0, (-2)) 26) := ok_bipush (by decide +kernel : decode (mb_ 99) 24 = .ok (.bipush (-2), 2)) ⟨by decide, by decide⟩ (by decide +kernel)
theorem ok_X11_feed_26 : ok_S 99 26 (sf_ret 0) := ok_ret0 (by decide +kernel : decode (mb_ 99) 26 = .ok (.ireturn, 1)) rfl
theorem ok_X11_feed_27 : ok_S 99 27 (sf_push (0, 0) 28) := ok_iconst (by decide +kernel : decode (mb_ 99) 27 = .ok (.iconst 0, 1)) ⟨by decide, by decide⟩
theorem ok_X11_feed_28 : ok_S 99 28 (sf_st 0 4 30) := ok_istore (by decide +kernel : decode (mb_ 99) 28 = .ok (.istore 4, 2))
theorem ok_X11_feed_30 : ok_S 99 30 (sf_ld 0 4 32) := ok_iload (by decide +kernel : decode (mb_ 99) 30 = .ok (.iload 4, 2))
theorem ok_X11_feed_32 : ok_S 99 32 (sf_ld 0 3 33) := ok_iload_n (by decide +kernel : decode (mb_ 99) 32 = .ok (.iload_n 3, 1)) rfl
theorem ok_X11_feed_33 : ok_S 99 33 (sf_ic 3 66 36) := ok_ic3 (by decide +kernel : decode (mb_ 99) 33 = .ok (.if_icmp .ge 33, 3)) (by decide)
theorem ok_X11_feed_36 : ok_S 99 36 (sf_ld 2 0 37) := ok_aload_n (by decide +kernel : decode (mb_ 99) 36 = .ok (.aload_n 0, 1)) rfl
theorem ok_X11_feed_37 : ok_S 99 37 (sf_gr 7 7 0 40) := ok_gr fd_7_0 (by decide +kernel : decode (mb_ 99) 37 = .ok (.getfield 9, 3)) tw_206 (Or.inl rfl) rfl
theorem ok_X11_feed_40 : ok_S 99 40 (sf_ld 2 0 41) := ok_aload_n (by decide +kernel : decode (mb_ 99) 40 = .ok (.aload_n 0, 1)) rfl
theorem ok_X11_feed_41 : ok_S 99 41 (sf_gi 7 7 1 44) := ok_gi fd_7_1 (by decide +kernel : decode (mb_ 99) 41 = .ok (.getfield 13, 3)) tw_207 (Or.inl rfl) rfl
theorem ok_X11_feed_44 : ok_S 99 44 (sf_ld 0 4 46) := ok_iload (by decide +kernel : decode (mb_ 99) 44 = .ok (.iload 4, 2))
theorem ok_X11_feed_46 : ok_S 99 46 (sf_i2 mx_add 47) := ok_iadd (by decide +kernel : decode (mb_ 99) 46 = .ok (.iadd, 1))
theorem ok_X11_feed_47 : ok_S 99 47 (sf_ld 1 1 48) := ok_lload_n (by decide +kernel : decode (mb_ 99) 47 = .ok (.lload_n 1, 1)) rfl
theorem ok_X11_feed_48 : ok_S 99 48 (sf_push (0, 8) 50) := ok_bipush (by decide +kernel : decode (mb_ 99) 48 = .ok (.bipush 8, 2)) ⟨by decide, by decide⟩ (by decide +kernel)
theorem ok_X11_feed_50 : ok_S 99 50 (sf_ld 0 4 52) := ok_iload (by decide +kernel : decode (mb_ 99) 50 = .ok (.iload 4, 2))
theorem ok_X11_feed_52 : ok_S 99 52 (sf_i2 mx_mul 53) := ok_imul (by decide +kernel : decode (mb_ 99) 52 = .ok (.imul, 1))
theorem ok_X11_feed_53 : ok_S 99 53 (sf_ls ml_ush 54) := ok_lushr (by decide +kernel : decode (mb_ 99) 53 = .ok (.lushr, 1))
theorem ok_X11_feed_54 : ok_S 99 54 (sf_l2i 55) := ok_l2i (by decide +kernel : decode (mb_ 99) 54 = .ok (.l2i, 1))
theorem ok_X11_feed_55 : ok_S 99 55 (sf_push (0, 255) 58) := ok_sipush (by decide +kernel : decode (mb_ 99) 55 = .ok (.sipush 255, 3)) ⟨by decide, by decide⟩ (by decide +kernel)
theorem ok_X11_feed_58 : ok_S 99 58 (sf_i2 mx_and 59) := ok_iand (by decide +kernel : decode (mb_ 99) 58 = .ok (.iand, 1))
theorem ok_X11_feed_59 : ok_S 99 59 (sf_iast 60) := ok_iast (by decide +kernel : decode (mb_ 99) 59 = .ok (.iastore, 1))
theorem ok_X11_feed_60 : ok_S 99 60 (sf_inc 4 1 63) := ok_iinc (by decide +kernel : decode (mb_ 99) 60 = .ok (.iinc 4 1, 3))
theorem ok_X11_feed_63 : ok_S 99 63 (sf_go 30) := ok_goto (by decide +kernel : decode (mb_ 99) 63 = .ok (.goto (-33), 3)) (by decide)
theorem ok_X11_feed_66 : ok_S 99 66 (sf_ld 2 0 67) := ok_aload_n (by decide +kernel : decode (mb_ 99) 66 = .ok (.aload_n 0, 1)) rfl
theorem ok_X11_feed_67 : ok_S 99 67 (sf_dup 68) := ok_dup (by decide +kernel : decode (mb_ 99) 67 = .ok (.dup, 1))
theorem ok_X11_feed_68 : ok_S 99 68 (sf_gi 7 7 1 71) := ok_gi fd_7_1 (by decide +kernel : decode (mb_ 99) 68 = .ok (.getfield 13, 3)) tw_207 (Or.inl rfl) rfl
theorem ok_X11_feed_71 : ok_S 99 71 (sf_ld 0 3 72) := ok_iload_n (by decide +kernel : decode (mb_ 99) 71 = .ok (.iload_n 3, 1)) rfl
theorem ok_X11_feed_72 : ok_S 99 72 (sf_i2 mx_add 73) := ok_iadd (by decide +kernel : decode (mb_ 99) 72 = .ok (.iadd, 1))
theorem ok_X11_feed_73 : ok_S 99 73 (sf_pi 7 7 1 76) := ok_pi fd_7_1 (by decide +kernel : decode (mb_ 99) 73 = .ok (.putfield 13, 3)) tw_207 rfl (Or.inl ff_7_1) rfl
theorem ok_X11_feed_76 : ok_S 99 76 (sf_ld 2 0 77) := ok_aload_n (by decide +kernel : decode (mb_ 99) 76 = .ok (.aload_n 0, 1)) rfl
theorem ok_X11_feed_77 : ok_S 99 77 (sf_gi 7 7 1 80) := ok_gi fd_7_1 (by decide +kernel : decode (mb_ 99) 77 = .ok (.getfield 13, 3)) tw_207 (Or.inl rfl) rfl
theorem ok_X11_feed_80 : ok_S 99 80 (sf_ret 0) := ok_ret0 (by decide +kernel : decode (mb_ 99) 80 = .ok (.ireturn, 1)) rfl
theorem ok_X11_feed (pc : Nat) : ok_S 99 pc (cd_X11_feed pc) :=
  (ok_bf (ok_bf (ok_bf (ok_bf (ok_bf (ok_bf (ok_lf pc ok_X11_feed_80) (ok_lf pc ok_X11_feed_77)) (ok_lf pc ok_X11_feed_76)) (ok_bf (ok_bf (ok_lf pc ok_X11_feed_73) (ok_lf pc ok_X11_feed_72)) (ok_lf pc ok_X11_feed_71))) (ok_bf (ok_bf (ok_bf (ok_lf pc ok_X11_feed_68) (ok_lf pc ok_X11_feed_67)) (ok_lf pc ok_X11_feed_66)) (ok_bf (ok_bf (ok_lf pc ok_X11_feed_63) (ok_lf pc ok_X11_feed_60)) (ok_lf pc ok_X11_feed_59)))) (ok_bf (ok_bf (ok_bf (ok_bf (ok_lf pc ok_X11_feed_58) (ok_lf pc ok_X11_feed_55)) (ok_lf pc ok_X11_feed_54)) (ok_bf (ok_bf (ok_lf pc ok_X11_feed_53) (ok_lf pc ok_X11_feed_52)) (ok_lf pc ok_X11_feed_50))) (ok_bf (ok_bf (ok_bf (ok_lf pc ok_X11_feed_48) (ok_lf pc ok_X11_feed_47)) (ok_lf pc ok_X11_feed_46)) (ok_bf (ok_lf pc ok_X11_feed_44) (ok_lf pc ok_X11_feed_41))))) (ok_bf (ok_bf (ok_bf (ok_bf (ok_bf (ok_lf pc ok_X11_feed_40) (ok_lf pc ok_X11_feed_37)) (ok_lf pc ok_X11_feed_36)) (ok_bf (ok_bf (ok_lf pc ok_X11_feed_33) (ok_lf pc ok_X11_feed_32)) (ok_lf pc ok_X11_feed_30))) (ok_bf (ok_bf (ok_bf (ok_lf pc ok_X11_feed_28) (ok_lf pc ok_X11_feed_27)) (ok_lf pc ok_X11_feed_26)) (ok_bf (ok_bf (ok_lf pc ok_X11_feed_24) (ok_lf pc ok_X11_feed_21)) (ok_lf pc ok_X11_feed_18)))) (ok_bf (ok_bf (ok_bf (ok_bf (ok_lf pc ok_X11_feed_17) (ok_lf pc ok_X11_feed_16)) (ok_lf pc ok_X11_feed_13)) (ok_bf (ok_bf (ok_lf pc ok_X11_feed_12) (ok_lf pc ok_X11_feed_11)) (ok_lf pc ok_X11_feed_10))) (ok_bf (ok_bf (ok_bf (ok_lf pc ok_X11_feed_7) (ok_lf pc ok_X11_feed_4)) (ok_lf pc ok_X11_feed_2)) (ok_bf (ok_lf pc ok_X11_feed_1) (ok_lf pc ok_X11_feed_0))))))
theorem mo_X11_feed (pc : Nat) : mo_S (cd_X11_feed pc) :=
  (mo_bf (mo_bf (mo_bf (mo_bf (mo_bf (mo_bf (mo_bf mo_ret mo_no) (mo_bf mo_gi mo_no)) (mo_bf mo_ld mo_no)) (mo_bf (mo_bf (mo_bf mo_pi mo_no) (mo_bf mo_i2 mo_no)) (mo_bf mo_ld mo_no))) (mo_bf (mo_bf (mo_bf (mo_bf mo_gi mo_no) (mo_bf mo_dup mo_no)) (mo_bf mo_ld mo_no)) (mo_bf (mo_bf (mo_bf mo_go mo_no) (mo_bf mo_inc mo_no)) (mo_bf mo_iast mo_no)))) (mo_bf (mo_bf (mo_bf (mo_bf (mo_bf mo_i2 mo_no) (mo_bf mo_push mo_no)) (mo_bf mo_l2i mo_no)) (mo_bf (mo_bf (mo_bf mo_ls mo_no) (mo_bf mo_i2 mo_no)) (mo_bf mo_ld mo_no))) (mo_bf (mo_bf (mo_bf (mo_bf mo_push mo_no) (mo_bf mo_ld mo_no)) (mo_bf mo_i2 mo_no)) (mo_bf (mo_bf mo_ld mo_no) (mo_bf mo_gi mo_no))))) (mo_bf (mo_bf (mo_bf (mo_bf (mo_bf (mo_bf mo_ld mo_no) (mo_bf mo_gr mo_no)) (mo_bf mo_ld mo_no)) (mo_bf (mo_bf (mo_bf mo_ic mo_no) (mo_bf mo_ld mo_no)) (mo_bf mo_ld mo_no))) (mo_bf (mo_bf (mo_bf (mo_bf mo_st mo_no) (mo_bf mo_push mo_no)) (mo_bf mo_ret mo_no)) (mo_bf (mo_bf (mo_bf mo_push mo_no) (mo_bf mo_ic mo_no)) (mo_bf mo_push mo_no)))) (mo_bf (mo_bf (mo_bf (mo_bf (mo_bf mo_i2 mo_no) (mo_bf mo_ld mo_no)) (mo_bf mo_gi mo_no)) (mo_bf (mo_bf (mo_bf mo_ld mo_no) (mo_bf mo_ret mo_no)) (mo_bf mo_push mo_no))) (mo_bf (mo_bf (mo_bf (mo_bf mo_if mo_no) (mo_bf mo_cs mo_no)) (mo_bf mo_push mo_no)) (mo_bf (mo_bf mo_push mo_no) (mo_bf mo_ld mo_no))))))
theorem ok_X11_valley_0 : ok_S 100 0 (sf_ld 2 0 1) := ok_aload_n (by decide +kernel : decode (mb_ 100) 0 = .ok (.aload_n 0, 1)) rfl
theorem ok_X11_valley_1 : ok_S 100 1 (sf_gi 7 7 1 4) := ok_gi fd_7_1 (by decide +kernel : decode (mb_ 100) 1 = .ok (.getfield 13, 3)) tw_207 (Or.inl rfl) rfl
theorem ok_X11_valley_4 : ok_S 100 4 (sf_st 0 1 5) := ok_istore_n (by decide +kernel : decode (mb_ 100) 4 = .ok (.istore_n 1, 1)) rfl
theorem ok_X11_valley_5 : ok_S 100 5 (sf_ld 2 0 6) := ok_aload_n (by decide +kernel : decode (mb_ 100) 5 = .ok (.aload_n 0, 1)) rfl
theorem ok_X11_valley_6 : ok_S 100 6 (sf_push (0, 0) 7) := ok_iconst (by decide +kernel : decode (mb_ 100) 6 = .ok (.iconst 0, 1)) ⟨by decide, by decide⟩
theorem ok_X11_valley_7 : ok_S 100 7 (sf_pi 7 7 1 10) := ok_pi fd_7_1 (by decide +kernel : decode (mb_ 100) 7 = .ok (.putfield 13, 3)) tw_207 rfl (Or.inl ff_7_1) rfl
theorem ok_X11_valley_10 : ok_S 100 10 (sf_ld 2 0 11) := ok_aload_n (by decide +kernel : decode (mb_ 100) 10 = .ok (.aload_n 0, 1)) rfl
theorem ok_X11_valley_11 : ok_S 100 11 (sf_gr 7 7 8 14) := ok_gr fd_7_8 (by decide +kernel : decode (mb_ 100) 11 = .ok (.getfield 50, 3)) tw_214 (Or.inl rfl) rfl
theorem ok_X11_valley_14 : ok_S 100 14 (sf_ld 2 0 15) := ok_aload_n (by decide +kernel : decode (mb_ 100) 14 = .ok (.aload_n 0, 1)) rfl
theorem ok_X11_valley_15 : ok_S 100 15 (sf_gr 7 7 0 18) := ok_gr fd_7_0 (by decide +kernel : decode (mb_ 100) 15 = .ok (.getfield 9, 3)) tw_206 (Or.inl rfl) rfl
theorem ok_X11_valley_18 : ok_S 100 18 (sf_ld 0 1 19) := ok_iload_n (by decide +kernel : decode (mb_ 100) 18 = .ok (.iload_n 1, 1)) rfl
theorem ok_X11_valley_19 : ok_S 100 19 (sf_cv 10 [2, 2, 0] 60 22) := ok_cv mt_60 cl_10 (by decide +kernel : decode (mb_ 100) 19 = .ok (.invokevirtual 96, 3)) tw_269 tw_270 tw_271 tw_5 rfl (by decide +kernel) (mh_ok rfl) (by decide) (by decide)
theorem ok_X11_valley_22 : ok_S 100 22 (sf_if 1 36 25) := ok_if1 (by decide +kernel : decode (mb_ 100) 22 = .ok (.ifCond .ne 14, 3)) (by decide)
theorem ok_X11_valley_25 : ok_S 100 25 (sf_push (0, (-100)) 27) := ok_bipush (by decide +kernel : decode (mb_ 100) 25 = .ok (.bipush (-100), 2)) ⟨by decide, by decide⟩ (by decide +kernel)
theorem ok_X11_valley_27 : ok_S 100 27 (sf_ld 2 0 28) := ok_aload_n (by decide +kernel : decode (mb_ 100) 27 = .ok (.aload_n 0, 1)) rfl
theorem ok_X11_valley_28 : ok_S 100 28 (sf_gr 7 7 8 31) := ok_gr fd_7_8 (by decide +kernel : decode (mb_ 100) 28 = .ok (.getfield 50, 3)) tw_214 (Or.inl rfl) rfl
theorem ok_X11_valley_31 : ok_S 100 31 (sf_gi 10 10 1 34) := ok_gi fd_10_1 (by decide +kernel : decode (mb_ 100) 31 = .ok (.getfield 100, 3)) tw_149 (Or.inl rfl) rfl
theorem ok_X11_valley_34 : ok_S 100 34 (sf_i2 mx_sub 35) := ok_isub (by decide +kernel : decode (mb_ 100) 34 = .ok (.isub, 1))
theorem ok_X11_valley_35 : ok_S 100 35 (sf_ret 0) := ok_ret0 (by decide +kernel : decode (mb_ 100) 35 = .ok (.ireturn, 1)) rfl
theorem ok_X11_valley_36 : ok_S 100 36 (sf_ld 2 0 37) := ok_aload_n (by decide +kernel : decode (mb_ 100) 36 = .ok (.aload_n 0, 1)) rfl
theorem ok_X11_valley_37 : ok_S 100 37 (sf_gr 7 7 3 40) := ok_gr fd_7_3 (by decide +kernel : decode (mb_ 100) 37 = .ok (.getfield 28, 3)) tw_209 (Or.inl rfl) rfl
theorem ok_X11_valley_40 : ok_S 100 40 (sf_ld 2 0 41) := ok_aload_n (by decide +kernel : decode (mb_ 100) 40 = .ok (.aload_n 0, 1)) rfl
theorem ok_X11_valley_41 : ok_S 100 41 (sf_gr 7 7 8 44) := ok_gr fd_7_8 (by decide +kernel : decode (mb_ 100) 41 = .ok (.getfield 50, 3)) tw_214 (Or.inl rfl) rfl
theorem ok_X11_valley_44 : ok_S 100 44 (sf_gr 10 10 0 47) := ok_gr fd_10_0 (by decide +kernel : decode (mb_ 100) 44 = .ok (.getfield 103, 3)) tw_147 (Or.inl rfl) rfl
theorem ok_X11_valley_47 : ok_S 100 47 (sf_cv 8 [2, 2] 86 50) := ok_cv mt_86 cl_8 (by decide +kernel : decode (mb_ 100) 47 = .ok (.invokevirtual 106, 3)) tw_507 tw_508 tw_509 tw_3 rfl (by decide +kernel) (mh_ok rfl) (by decide) (by decide)
theorem ok_X11_valley_50 : ok_S 100 50 (sf_ld 2 0 51) := ok_aload_n (by decide +kernel : decode (mb_ 100) 50 = .ok (.aload_n 0, 1)) rfl
theorem ok_X11_valley_51 : ok_S 100 51 (sf_push (0, 0) 52) := ok_iconst (by decide +kernel : decode (mb_ 100) 51 = .ok (.iconst 0, 1)) ⟨by decide, by decide⟩
theorem ok_X11_valley_52 : ok_S 100 52 (sf_pi 7 7 10 55) := ok_pi fd_7_10 (by decide +kernel : decode (mb_ 100) 52 = .ok (.putfield 58, 3)) tw_216 rfl (Or.inl ff_7_10) rfl
theorem ok_X11_valley_55 : ok_S 100 55 (sf_ld 2 0 56) := ok_aload_n (by decide +kernel : decode (mb_ 100) 55 = .ok (.aload_n 0, 1)) rfl
theorem ok_X11_valley_56 : ok_S 100 56 (sf_gr 7 7 3 59) := ok_gr fd_7_3 (by decide +kernel : decode (mb_ 100) 56 = .ok (.getfield 28, 3)) tw_209 (Or.inl rfl) rfl
theorem ok_X11_valley_59 : ok_S 100 59 (sf_gi 8 8 3 62) := ok_gi fd_8_3 (by decide +kernel : decode (mb_ 100) 59 = .ok (.getfield 110, 3)) tw_55 (Or.inl rfl) rfl
theorem ok_X11_valley_62 : ok_S 100 62 (sf_ret 0) := ok_ret0 (by decide +kernel : decode (mb_ 100) 62 = .ok (.ireturn, 1)) rfl
theorem ok_X11_valley (pc : Nat) : ok_S 100 pc (cd_X11_valley pc) :=
  (ok_bf (ok_bf (ok_bf (ok_bf (ok_bf (ok_lf pc ok_X11_valley_62) (ok_lf pc ok_X11_valley_59)) (ok_bf (ok_lf pc ok_X11_valley_56) (ok_lf pc ok_X11_valley_55))) (ok_bf (ok_bf (ok_lf pc ok_X11_valley_52) (ok_lf pc ok_X11_valley_51)) (ok_bf (ok_lf pc ok_X11_valley_50) (ok_lf pc ok_X11_valley_47)))) (ok_bf (ok_bf (ok_bf (ok_lf pc ok_X11_valley_44) (ok_lf pc ok_X11_valley_41)) (ok_bf (ok_lf pc ok_X11_valley_40) (ok_lf pc ok_X11_valley_37))) (ok_bf (ok_bf (ok_lf pc ok_X11_valley_36) (ok_lf pc ok_X11_valley_35)) (ok_bf (ok_lf pc ok_X11_valley_34) (ok_lf pc ok_X11_valley_31))))) (ok_bf (ok_bf (ok_bf (ok_bf (ok_lf pc ok_X11_valley_28) (ok_lf pc ok_X11_valley_27)) (ok_bf (ok_lf pc ok_X11_valley_25) (ok_lf pc ok_X11_valley_22))) (ok_bf (ok_bf (ok_lf pc ok_X11_valley_19) (ok_lf pc ok_X11_valley_18)) (ok_bf (ok_lf pc ok_X11_valley_15) (ok_lf pc ok_X11_valley_14)))) (ok_bf (ok_bf (ok_bf (ok_lf pc ok_X11_valley_11) (ok_lf pc ok_X11_valley_10)) (ok_bf (ok_lf pc ok_X11_valley_7) (ok_lf pc ok_X11_valley_6))) (ok_bf (ok_bf (ok_lf pc ok_X11_valley_5) (ok_lf pc ok_X11_valley_4)) (ok_bf (ok_lf pc ok_X11_valley_1) (ok_lf pc ok_X11_valley_0))))))
theorem mo_X11_valley (pc : Nat) : mo_S (cd_X11_valley pc) :=
  (mo_bf (mo_bf (mo_bf (mo_bf (mo_bf (mo_bf mo_ret mo_no) (mo_bf mo_gi mo_no)) (mo_bf (mo_bf mo_gr mo_no) (mo_bf mo_ld mo_no))) (mo_bf (mo_bf (mo_bf mo_pi mo_no) (mo_bf mo_push mo_no)) (mo_bf (mo_bf mo_ld mo_no) (mo_bf mo_cv mo_no)))) (mo_bf (mo_bf (mo_bf (mo_bf mo_gr mo_no) (mo_bf mo_gr mo_no)) (mo_bf (mo_bf mo_ld mo_no) (mo_bf mo_gr mo_no))) (mo_bf (mo_bf (mo_bf mo_ld mo_no) (mo_bf mo_ret mo_no)) (mo_bf (mo_bf mo_i2 mo_no) (mo_bf mo_gi mo_no))))) (mo_bf (mo_bf (mo_bf (mo_bf (mo_bf mo_gr mo_no) (mo_bf mo_ld mo_no)) (mo_bf (mo_bf mo_push mo_no) (mo_bf mo_if mo_no))) (mo_bf (mo_bf (mo_bf mo_cv mo_no) (mo_bf mo_ld mo_no)) (mo_bf (mo_bf mo_gr mo_no) (mo_bf mo_ld mo_no)))) (mo_bf (mo_bf (mo_bf (mo_bf mo_gr mo_no) (mo_bf mo_ld mo_no)) (mo_bf (mo_bf mo_pi mo_no) (mo_bf mo_push mo_no))) (mo_bf (mo_bf (mo_bf mo_ld mo_no) (mo_bf mo_st mo_no)) (mo_bf (mo_bf mo_gi mo_no) (mo_bf mo_ld mo_no))))))
theorem ok_X11_evening_0 : ok_S 101 0 (sf_ld 0 1 1) := ok_iload_n (by decide +kernel : decode (mb_ 101) 0 = .ok (.iload_n 1, 1)) rfl
theorem ok_X11_evening_1 : ok_S 101 1 (sf_cs [0] 146 4) := ok_cs mt_146 (by decide +kernel : decode (mb_ 101) 1 = .ok (.invokestatic 113, 3)) tw_549 tw_550 tw_1 (by decide +kernel) (mh_ok rfl) (by decide) (by decide)
theorem ok_X11_evening_4 : ok_S 101 4 (sf_if 0 26 7) := ok_if0 (by decide +kernel : decode (mb_ 101) 4 = .ok (.ifCond .eq 22, 3)) (by decide)
theorem ok_X11_evening_7 : ok_S 101 7 (sf_ld 0 2 8) := ok_iload_n (by decide +kernel : decode (mb_ 101) 7 = .ok (.iload_n 2, 1)) rfl
theorem ok_X11_evening_8 : ok_S 101 8 (sf_cs [0] 147 11) := ok_cs mt_147 (by decide +kernel : decode (mb_ 101) 8 = .ok (.invokestatic 117, 3)) tw_552 tw_553 tw_1 (by decide +kernel) (mh_ok rfl) (by decide) (by decide)
theorem ok_X11_evening_11 : ok_S 101 11 (sf_if 0 26 14) := ok_if0 (by decide +kernel : decode (mb_ 101) 11 = .ok (.ifCond .eq 15, 3)) (by decide)
theorem ok_X11_evening_14 : ok_S 101 14 (sf_ld 0 3 15) := ok_iload_n (by decide +kernel : decode (mb_ 101) 14 = .ok (.iload_n 3, 1)) rfl
theorem ok_X11_evening_15 : ok_S 101 15 (sf_cs [0] 147 18) := ok_cs mt_147 (by decide +kernel : decode (mb_ 101) 15 = .ok (.invokestatic 117, 3)) tw_552 tw_553 tw_1 (by decide +kernel) (mh_ok rfl) (by decide) (by decide)
theorem ok_X11_evening_18 : ok_S 101 18 (sf_if 0 26 21) := ok_if0 (by decide +kernel : decode (mb_ 101) 18 = .ok (.ifCond .eq 8, 3)) (by decide)
theorem ok_X11_evening_21 : ok_S 101 21 (sf_ld 0 3 22) := ok_iload_n (by decide +kernel : decode (mb_ 101) 21 = .ok (.iload_n 3, 1)) rfl
theorem ok_X11_evening_22 : ok_S 101 22 (sf_ld 0 2 23) := ok_iload_n (by decide +kernel : decode (mb_ 101) 22 = .ok (.iload_n 2, 1)) rfl
theorem ok_X11_evening_23 : ok_S 101 23 (sf_ic 3 28 26) := ok_ic3 (by decide +kernel : decode (mb_ 101) 23 = .ok (.if_icmp .ge 5, 3)) (by decide)
theorem ok_X11_evening_26 : ok_S 101 26 (sf_push (0, (-1)) 27) := ok_iconst (by decide +kernel : decode (mb_ 101) 26 = .ok (.iconst (-1), 1)) ⟨by decide, by decide⟩
theorem ok_X11_evening_27 : ok_S 101 27 (sf_ret 0) := ok_ret0 (by decide +kernel : decode (mb_ 101) 27 = .ok (.ireturn, 1)) rfl
theorem ok_X11_evening_28 : ok_S 101 28 (sf_ld 2 0 29) := ok_aload_n (by decide +kernel : decode (mb_ 101) 28 = .ok (.aload_n 0, 1)) rfl
theorem ok_X11_evening_29 : ok_S 101 29 (sf_gr 7 7 3 32) := ok_gr fd_7_3 (by decide +kernel : decode (mb_ 101) 29 = .ok (.getfield 28, 3)) tw_209 (Or.inl rfl) rfl
theorem ok_X11_evening_32 : ok_S 101 32 (sf_ld 0 1 33) := ok_iload_n (by decide +kernel : decode (mb_ 101) 32 = .ok (.iload_n 1, 1)) rfl
theorem ok_X11_evening_33 : ok_S 101 33 (sf_ld 0 2 34) := ok_iload_n (by decide +kernel : decode (mb_ 101) 33 = .ok (.iload_n 2, 1)) rfl
theorem ok_X11_evening_34 : ok_S 101 34 (sf_ld 0 3 35) := ok_iload_n (by decide +kernel : decode (mb_ 101) 34 = .ok (.iload_n 3, 1)) rfl
theorem ok_X11_evening_35 : ok_S 101 35 (sf_cv 8 [2, 0, 0, 0] 87 38) := ok_cv mt_87 cl_8 (by decide +kernel : decode (mb_ 101) 35 = .ok (.invokevirtual 120, 3)) tw_555 tw_504 tw_505 tw_3 rfl (by decide +kernel) (mh_ok rfl) (by decide) (by decide)
theorem ok_X11_evening_38 : ok_S 101 38 (sf_push (0, 1) 39) := ok_iconst (by decide +kernel : decode (mb_ 101) 38 = .ok (.iconst 1, 1)) ⟨by decide, by decide⟩
theorem ok_X11_evening_39 : ok_S 101 39 (sf_ret 0) := ok_ret0 (by decide +kernel : decode (mb_ 101) 39 = .ok (.ireturn, 1)) rfl
theorem ok_X11_evening (pc : Nat) : ok_S 101 pc (cd_X11_evening pc) :=
  (ok_bf (ok_bf (ok_bf (ok_bf (ok_bf (ok_lf pc ok_X11_evening_39) (ok_lf pc ok_X11_evening_38)) (ok_lf pc ok_X11_evening_35)) (ok_bf (ok_bf (ok_lf pc ok_X11_evening_34) (ok_lf pc ok_X11_evening_33)) (ok_lf pc ok_X11_evening_32))) (ok_bf (ok_bf (ok_bf (ok_lf pc ok_X11_evening_29) (ok_lf pc ok_X11_evening_28)) (ok_lf pc ok_X11_evening_27)) (ok_bf (ok_lf pc ok_X11_evening_26) (ok_lf pc ok_X11_evening_23)))) (ok_bf (ok_bf (ok_bf (ok_bf (ok_lf pc ok_X11_evening_22) (ok_lf pc ok_X11_evening_21)) (ok_lf pc ok_X11_evening_18)) (ok_bf (ok_bf (ok_lf pc ok_X11_evening_15) (ok_lf pc ok_X11_evening_14)) (ok_lf pc ok_X11_evening_11))) (ok_bf (ok_bf (ok_bf (ok_lf pc ok_X11_evening_8) (ok_lf pc ok_X11_evening_7)) (ok_lf pc ok_X11_evening_4)) (ok_bf (ok_lf pc ok_X11_evening_1) (ok_lf pc ok_X11_evening_0)))))
theorem mo_X11_evening (pc : Nat) : mo_S (cd_X11_evening pc) :=
  (mo_bf (mo_bf (mo_bf (mo_bf (mo_bf (mo_bf mo_ret mo_no) (mo_bf mo_push mo_no)) (mo_bf mo_cv mo_no)) (mo_bf (mo_bf (mo_bf mo_ld mo_no) (mo_bf mo_ld mo_no)) (mo_bf mo_ld mo_no))) (mo_bf (mo_bf (mo_bf (mo_bf mo_gr mo_no) (mo_bf mo_ld mo_no)) (mo_bf mo_ret mo_no)) (mo_bf (mo_bf mo_push mo_no) (mo_bf mo_ic mo_no)))) (mo_bf (mo_bf (mo_bf (mo_bf (mo_bf mo_ld mo_no) (mo_bf mo_ld mo_no)) (mo_bf mo_if mo_no)) (mo_bf (mo_bf (mo_bf mo_cs mo_no) (mo_bf mo_ld mo_no)) (mo_bf mo_if mo_no))) (mo_bf (mo_bf (mo_bf (mo_bf mo_cs mo_no) (mo_bf mo_ld mo_no)) (mo_bf mo_if mo_no)) (mo_bf (mo_bf mo_cs mo_no) (mo_bf mo_ld mo_no)))))
theorem ok_X11_eveningOf_0 : ok_S 102 0 (sf_ld 0 1 1) := ok_iload_n (by decide +kernel : decode (mb_ 102) 0 = .ok (.iload_n 1, 1)) rfl
theorem ok_X11_eveningOf_1 : ok_S 102 1 (sf_cs [0] 146 4) := ok_cs mt_146 (by decide +kernel : decode (mb_ 102) 1 = .ok (.invokestatic 113, 3)) tw_549 tw_550 tw_1 (by decide +kernel) (mh_ok rfl) (by decide) (by decide)
theorem ok_X11_eveningOf_4 : ok_S 102 4 (sf_if 1 9 7) := ok_if1 (by decide +kernel : decode (mb_ 102) 4 = .ok (.ifCond .ne 5, 3)) (by decide)
theorem ok_X11_eveningOf_7 : ok_S 102 7 (sf_push (0, (-1)) 8) := ok_iconst (by decide +kernel : decode (mb_ 102) 7 = .ok (.iconst (-1), 1)) ⟨by decide, by decide⟩
theorem ok_X11_eveningOf_8 : ok_S 102 8 (sf_ret 0) := ok_ret0 (by decide +kernel : decode (mb_ 102) 8 = .ok (.ireturn, 1)) rfl
theorem ok_X11_eveningOf_9 : ok_S 102 9 (sf_ld 0 2 10) := ok_iload_n (by decide +kernel : decode (mb_ 102) 9 = .ok (.iload_n 2, 1)) rfl
theorem ok_X11_eveningOf_10 : ok_S 102 10 (sf_sw [(0, 36), (1, 46), (2, 56)] 65) := ok_tsw (by decide +kernel : decode (mb_ 102) 10 = .ok (.tableswitch 55 0 2 #[26, 36, 46], 26)) (by decide) (by decide) (by decide) (by decide)
theorem ok_X11_eveningOf_36 : ok_S 102 36 (sf_ld 2 0 37) := ok_aload_n (by decide +kernel : decode (mb_ 102) 36 = .ok (.aload_n 0, 1)) rfl
theorem ok_X11_eveningOf_37 : ok_S 102 37 (sf_gr 7 7 3 40) := ok_gr fd_7_3 (by decide +kernel : decode (mb_ 102) 37 = .ok (.getfield 28, 3)) tw_209 (Or.inl rfl) rfl
theorem ok_X11_eveningOf_40 : ok_S 102 40 (sf_gr 8 8 0 43) := ok_gr fd_8_0 (by decide +kernel : decode (mb_ 102) 40 = .ok (.getfield 124, 3)) tw_48 (Or.inl rfl) rfl
theorem ok_X11_eveningOf_43 : ok_S 102 43 (sf_ld 0 1 44) := ok_iload_n (by decide +kernel : decode (mb_ 102) 43 = .ok (.iload_n 1, 1)) rfl
theorem ok_X11_eveningOf_44 : ok_S 102 44 (sf_iald 45) := ok_iald (by decide +kernel : decode (mb_ 102) 44 = .ok (.iaload, 1))
theorem ok_X11_eveningOf_45 : ok_S 102 45 (sf_ret 0) := ok_ret0 (by decide +kernel : decode (mb_ 102) 45 = .ok (.ireturn, 1)) rfl
theorem ok_X11_eveningOf_46 : ok_S 102 46 (sf_ld 2 0 47) := ok_aload_n (by decide +kernel : decode (mb_ 102) 46 = .ok (.aload_n 0, 1)) rfl
theorem ok_X11_eveningOf_47 : ok_S 102 47 (sf_gr 7 7 3 50) := ok_gr fd_7_3 (by decide +kernel : decode (mb_ 102) 47 = .ok (.getfield 28, 3)) tw_209 (Or.inl rfl) rfl
theorem ok_X11_eveningOf_50 : ok_S 102 50 (sf_gr 8 8 1 53) := ok_gr fd_8_1 (by decide +kernel : decode (mb_ 102) 50 = .ok (.getfield 127, 3)) tw_50 (Or.inl rfl) rfl
theorem ok_X11_eveningOf_53 : ok_S 102 53 (sf_ld 0 1 54) := ok_iload_n (by decide +kernel : decode (mb_ 102) 53 = .ok (.iload_n 1, 1)) rfl
theorem ok_X11_eveningOf_54 : ok_S 102 54 (sf_iald 55) := ok_iald (by decide +kernel : decode (mb_ 102) 54 = .ok (.iaload, 1))
theorem ok_X11_eveningOf_55 : ok_S 102 55 (sf_ret 0) := ok_ret0 (by decide +kernel : decode (mb_ 102) 55 = .ok (.ireturn, 1)) rfl
theorem ok_X11_eveningOf_56 : ok_S 102 56 (sf_ld 2 0 57) := ok_aload_n (by decide +kernel : decode (mb_ 102) 56 = .ok (.aload_n 0, 1)) rfl
theorem ok_X11_eveningOf_57 : ok_S 102 57 (sf_gr 7 7 3 60) := ok_gr fd_7_3 (by decide +kernel : decode (mb_ 102) 57 = .ok (.getfield 28, 3)) tw_209 (Or.inl rfl) rfl
theorem ok_X11_eveningOf_60 : ok_S 102 60 (sf_ld 0 1 61) := ok_iload_n (by decide +kernel : decode (mb_ 102) 60 = .ok (.iload_n 1, 1)) rfl
theorem ok_X11_eveningOf_61 : ok_S 102 61 (sf_cv 8 [2, 0] 88 64) := ok_cv mt_88 cl_8 (by decide +kernel : decode (mb_ 102) 61 = .ok (.invokevirtual 130, 3)) tw_560 tw_561 tw_562 tw_3 rfl (by decide +kernel) (mh_ok rfl) (by decide) (by decide)
theorem ok_X11_eveningOf_64 : ok_S 102 64 (sf_ret 0) := ok_ret0 (by decide +kernel : decode (mb_ 102) 64 = .ok (.ireturn, 1)) rfl
theorem ok_X11_eveningOf_65 : ok_S 102 65 (sf_push (0, (-1)) 66) := ok_iconst (by decide +kernel : decode (mb_ 102) 65 = .ok (.iconst (-1), 1)) ⟨by decide, by decide⟩
theorem ok_X11_eveningOf_66 : ok_S 102 66 (sf_ret 0) := ok_ret0 (by decide +kernel : decode (mb_ 102) 66 = .ok (.ireturn, 1)) rfl
theorem ok_X11_eveningOf (pc : Nat) : ok_S 102 pc (cd_X11_eveningOf pc) :=
  (ok_bf (ok_bf (ok_bf (ok_bf (ok_bf (ok_lf pc ok_X11_eveningOf_66) (ok_lf pc ok_X11_eveningOf_65)) (ok_bf (ok_lf pc ok_X11_eveningOf_64) (ok_lf pc ok_X11_eveningOf_61))) (ok_bf (ok_bf (ok_lf pc ok_X11_eveningOf_60) (ok_lf pc ok_X11_eveningOf_57)) (ok_lf pc ok_X11_eveningOf_56))) (ok_bf (ok_bf (ok_bf (ok_lf pc ok_X11_eveningOf_55) (ok_lf pc ok_X11_eveningOf_54)) (ok_lf pc ok_X11_eveningOf_53)) (ok_bf (ok_bf (ok_lf pc ok_X11_eveningOf_50) (ok_lf pc ok_X11_eveningOf_47)) (ok_lf pc ok_X11_eveningOf_46)))) (ok_bf (ok_bf (ok_bf (ok_bf (ok_lf pc ok_X11_eveningOf_45) (ok_lf pc ok_X11_eveningOf_44)) (ok_bf (ok_lf pc ok_X11_eveningOf_43) (ok_lf pc ok_X11_eveningOf_40))) (ok_bf (ok_bf (ok_lf pc ok_X11_eveningOf_37) (ok_lf pc ok_X11_eveningOf_36)) (ok_lf pc ok_X11_eveningOf_10))) (ok_bf (ok_bf (ok_bf (ok_lf pc ok_X11_eveningOf_9) (ok_lf pc ok_X11_eveningOf_8)) (ok_lf pc ok_X11_eveningOf_7)) (ok_bf (ok_bf (ok_lf pc ok_X11_eveningOf_4) (ok_lf pc ok_X11_eveningOf_1)) (ok_lf pc ok_X11_eveningOf_0)))))
theorem mo_X11_eveningOf (pc : Nat) : mo_S (cd_X11_eveningOf pc) :=
  (mo_bf (mo_bf (mo_bf (mo_bf (mo_bf (mo_bf mo_ret mo_no) (mo_bf mo_push mo_no)) (mo_bf (mo_bf mo_ret mo_no) (mo_bf mo_cv mo_no))) (mo_bf (mo_bf (mo_bf mo_ld mo_no) (mo_bf mo_gr mo_no)) (mo_bf mo_ld mo_no))) (mo_bf (mo_bf (mo_bf (mo_bf mo_ret mo_no) (mo_bf mo_iald mo_no)) (mo_bf mo_ld mo_no)) (mo_bf (mo_bf (mo_bf mo_gr mo_no) (mo_bf mo_gr mo_no)) (mo_bf mo_ld mo_no)))) (mo_bf (mo_bf (mo_bf (mo_bf (mo_bf mo_ret mo_no) (mo_bf mo_iald mo_no)) (mo_bf (mo_bf mo_ld mo_no) (mo_bf mo_gr mo_no))) (mo_bf (mo_bf (mo_bf mo_gr mo_no) (mo_bf mo_ld mo_no)) (mo_bf mo_sw mo_no))) (mo_bf (mo_bf (mo_bf (mo_bf mo_ld mo_no) (mo_bf mo_ret mo_no)) (mo_bf mo_push mo_no)) (mo_bf (mo_bf (mo_bf mo_if mo_no) (mo_bf mo_cs mo_no)) (mo_bf mo_ld mo_no)))))
theorem ok_X11_note_0 : ok_S 103 0 (sf_ld 0 1 1) := ok_iload_n (by decide +kernel : decode (mb_ 103) 0 = .ok (.iload_n 1, 1)) rfl
theorem ok_X11_note_1 : ok_S 103 1 (sf_push (0, 0) 2) := ok_iconst (by decide +kernel : decode (mb_ 103) 1 = .ok (.iconst 0, 1)) ⟨by decide, by decide⟩
theorem ok_X11_note_2 : ok_S 103 2 (sf_push (0, 5) 3) := ok_iconst (by decide +kernel : decode (mb_ 103) 2 = .ok (.iconst 5, 1)) ⟨by decide, by decide⟩
theorem ok_X11_note_3 : ok_S 103 3 (sf_cs [0, 0, 0] 145 6) := ok_cs mt_145 (by decide +kernel : decode (mb_ 103) 3 = .ok (.invokestatic 92, 3)) tw_262 tw_263 tw_1 (by decide +kernel) (mh_ok rfl) (by decide) (by decide)
theorem ok_X11_note_6 : ok_S 103 6 (sf_if 0 26 9) := ok_if0 (by decide +kernel : decode (mb_ 103) 6 = .ok (.ifCond .eq 20, 3)) (by decide)
theorem ok_X11_note_9 : ok_S 103 9 (sf_ld 0 2 10) := ok_iload_n (by decide +kernel : decode (mb_ 103) 9 = .ok (.iload_n 2, 1)) rfl
theorem ok_X11_note_10 : ok_S 103 10 (sf_cs [0] 146 13) := ok_cs mt_146 (by decide +kernel : decode (mb_ 103) 10 = .ok (.invokestatic 113, 3)) tw_549 tw_550 tw_1 (by decide +kernel) (mh_ok rfl) (by decide) (by decide)
theorem ok_X11_note_13 : ok_S 103 13 (sf_if 0 26 16) := ok_if0 (by decide +kernel : decode (mb_ 103) 13 = .ok (.ifCond .eq 13, 3)) (by decide)
theorem ok_X11_note_16 : ok_S 103 16 (sf_ld 0 3 17) := ok_iload_n (by decide +kernel : decode (mb_ 103) 16 = .ok (.iload_n 3, 1)) rfl
theorem ok_X11_note_17 : ok_S 103 17 (sf_push (0, 0) 18) := ok_iconst (by decide +kernel : decode (mb_ 103) 17 = .ok (.iconst 0, 1)) ⟨by decide, by decide⟩
theorem ok_X11_note_18 : ok_S 103 18 (sf_push (0, 6) 20) := ok_bipush (by decide +kernel : decode (mb_ 103) 18 = .ok (.bipush 6, 2)) ⟨by decide, by decide⟩ (by decide +kernel)
theorem ok_X11_note_20 : ok_S 103 20 (sf_cs [0, 0, 0] 145 23) := ok_cs mt_145 (by decide +kernel : decode (mb_ 103) 20 = .ok (.invokestatic 92, 3)) tw_262 tw_263 tw_1 (by decide +kernel) (mh_ok rfl) (by decide) (by decide)
theorem ok_X11_note_23 : ok_S 103 23 (sf_if 1 28 26) := ok_if1 (by decide +kernel : decode (mb_ 103) 23 = .ok (.ifCond .ne 5, 3)) (by decide)
theorem ok_X11_note_26 : ok_S 103 26 (sf_push (0, (-1)) 27) := ok_iconst (by decide +kernel : decode (mb_ 103) 26 = .ok (.iconst (-1), 1)) ⟨by decide, by decide⟩
theorem ok_X11_note_27 : ok_S 103 27 (sf_ret 0) := ok_ret0 (by decide +kernel : decode (mb_ 103) 27 = .ok (.ireturn, 1)) rfl
theorem ok_X11_note_28 : ok_S 103 28 (sf_ld 0 4 30) := ok_iload (by decide +kernel : decode (mb_ 103) 28 = .ok (.iload 4, 2))
theorem ok_X11_note_30 : ok_S 103 30 (sf_push (0, 1) 31) := ok_iconst (by decide +kernel : decode (mb_ 103) 30 = .ok (.iconst 1, 1)) ⟨by decide, by decide⟩
theorem ok_X11_note_31 : ok_S 103 31 (sf_push (0, 6) 33) := ok_bipush (by decide +kernel : decode (mb_ 103) 31 = .ok (.bipush 6, 2)) ⟨by decide, by decide⟩ (by decide +kernel)
theorem ok_X11_note_33 : ok_S 103 33 (sf_cs [0, 0, 0] 145 36) := ok_cs mt_145 (by decide +kernel : decode (mb_ 103) 33 = .ok (.invokestatic 92, 3)) tw_262 tw_263 tw_1 (by decide +kernel) (mh_ok rfl) (by decide) (by decide)
theorem ok_X11_note_36 : ok_S 103 36 (sf_if 0 44 39) := ok_if0 (by decide +kernel : decode (mb_ 103) 36 = .ok (.ifCond .eq 8, 3)) (by decide)
theorem ok_X11_note_39 : ok_S 103 39 (sf_ld 0 5 41) := ok_iload (by decide +kernel : decode (mb_ 103) 39 = .ok (.iload 5, 2))
theorem ok_X11_note_41 : ok_S 103 41 (sf_if 3 46 44) := ok_if3 (by decide +kernel : decode (mb_ 103) 41 = .ok (.ifCond .ge 5, 3)) (by decide)
theorem ok_X11_note_44 : ok_S 103 44 (sf_push (0, (-1)) 45) := ok_iconst (by decide +kernel : decode (mb_ 103) 44 = .ok (.iconst (-1), 1)) ⟨by decide, by decide⟩
theorem ok_X11_note_45 : ok_S 103 45 (sf_ret 0) := ok_ret0 (by decide +kernel : decode (mb_ 103) 45 = .ok (.ireturn, 1)) rfl
theorem ok_X11_note_46 : ok_S 103 46 (sf_ld 2 0 47) := ok_aload_n (by decide +kernel : decode (mb_ 103) 46 = .ok (.aload_n 0, 1)) rfl
theorem ok_X11_note_47 : ok_S 103 47 (sf_gr 7 7 3 50) := ok_gr fd_7_3 (by decide +kernel : decode (mb_ 103) 47 = .ok (.getfield 28, 3)) tw_209 (Or.inl rfl) rfl
theorem ok_X11_note_50 : ok_S 103 50 (sf_gi 8 8 3 53) := ok_gi fd_8_3 (by decide +kernel : decode (mb_ 103) 50 = .ok (.getfield 110, 3)) tw_55 (Or.inl rfl) rfl
theorem ok_X11_note_53 : ok_S 103 53 (sf_push (0, 6) 55) := ok_bipush (by decide +kernel : decode (mb_ 103) 53 = .ok (.bipush 6, 2)) ⟨by decide, by decide⟩ (by decide +kernel)
theorem ok_X11_note_55 : ok_S 103 55 (sf_ic 2 61 58) := ok_ic2 (by decide +kernel : decode (mb_ 103) 55 = .ok (.if_icmp .lt 6, 3)) (by decide)
theorem ok_X11_note_58 : ok_S 103 58 (sf_push (0, (-2)) 60) := ok_bipush (by decide +kernel : decode (mb_ 103) 58 = .ok (.bipush (-2), 2)) ⟨by decide, by decide⟩ (by decide +kernel)
theorem ok_X11_note_60 : ok_S 103 60 (sf_ret 0) := ok_ret0 (by decide +kernel : decode (mb_ 103) 60 = .ok (.ireturn, 1)) rfl
theorem ok_X11_note_61 : ok_S 103 61 (sf_ld 0 4 63) := ok_iload (by decide +kernel : decode (mb_ 103) 61 = .ok (.iload 4, 2))
theorem ok_X11_note_63 : ok_S 103 63 (sf_newa 20 65) := ok_newa rfl (Or.inl ⟨rfl, rfl⟩) (by decide +kernel : decode (mb_ 103) 63 = .ok (.newarray .int, 2)) tw_81
theorem ok_X11_note_65 : ok_S 103 65 (sf_st 2 6 67) := ok_astore (by decide +kernel : decode (mb_ 103) 65 = .ok (.astore 6, 2))
theorem ok_X11_note_67 : ok_S 103 67 (sf_push (0, 0) 68) := ok_iconst (by decide +kernel : decode (mb_ 103) 67 = .ok (.iconst 0, 1)) ⟨by decide, by decide⟩
theorem ok_X11_note_68 : ok_S 103 68 (sf_st 0 7 70) := ok_istore (by decide +kernel : decode (mb_ 103) 68 = .ok (.istore 7, 2))
theorem ok_X11_note_70 : ok_S 103 70 (sf_ld 0 7 72) := ok_iload (by decide +kernel : decode (mb_ 103) 70 = .ok (.iload 7, 2))
theorem ok_X11_note_72 : ok_S 103 72 (sf_ld 0 4 74) := ok_iload (by decide +kernel : decode (mb_ 103) 72 = .ok (.iload 4, 2))
theorem ok_X11_note_74 : ok_S 103 74 (sf_ic 3 103 77) := ok_ic3 (by decide +kernel : decode (mb_ 103) 74 = .ok (.if_icmp .ge 29, 3)) (by decide)
theorem ok_X11_note_77 : ok_S 103 77 (sf_ld 2 6 79) := ok_aload (by decide +kernel : decode (mb_ 103) 77 = .ok (.aload 6, 2))
theorem ok_X11_note_79 : ok_S 103 79 (sf_ld 0 7 81) := ok_iload (by decide +kernel : decode (mb_ 103) 79 = .ok (.iload 7, 2))
theorem ok_X11_note_81 : ok_S 103 81 (sf_ld 0 5 83) := ok_iload (by decide +kernel : decode (mb_ 103) 81 = .ok (.iload 5, 2))
theorem ok_X11_note_83 : ok_S 103 83 (sf_push (0, 4) 84) := ok_iconst (by decide +kernel : decode (mb_ 103) 83 = .ok (.iconst 4, 1)) ⟨by decide, by decide⟩
theorem ok_X11_note_84 : ok_S 103 84 (sf_ld 0 4 86) := ok_iload (by decide +kernel : decode (mb_ 103) 84 = .ok (.iload 4, 2))
theorem ok_X11_note_86 : ok_S 103 86 (sf_push (0, 1) 87) := ok_iconst (by decide +kernel : decode (mb_ 103) 86 = .ok (.iconst 1, 1)) ⟨by decide, by decide⟩
theorem ok_X11_note_87 : ok_S 103 87 (sf_i2 mx_sub 88) := ok_isub (by decide +kernel : decode (mb_ 103) 87 = .ok (.isub, 1))
theorem ok_X11_note_88 : ok_S 103 88 (sf_ld 0 7 90) := ok_iload (by decide +kernel : decode (mb_ 103) 88 = .ok (.iload 7, 2))
theorem ok_X11_note_90 : ok_S 103 90 (sf_i2 mx_sub 91) := ok_isub (by decide +kernel : decode (mb_ 103) 90 = .ok (.isub, 1))
theorem ok_X11_note_91 : ok_S 103 91 (sf_i2 mx_mul 92) := ok_imul (by decide +kernel : decode (mb_ 103) 91 = .ok (.imul, 1))
theorem ok_X11_note_92 : ok_S 103 92 (sf_i2 mx_shr 93) := ok_ishr (by decide +kernel : decode (mb_ 103) 92 = .ok (.ishr, 1))
theorem ok_X11_note_93 : ok_S 103 93 (sf_push (0, 15) 95) := ok_bipush (by decide +kernel : decode (mb_ 103) 93 = .ok (.bipush 15, 2)) ⟨by decide, by decide⟩ (by decide +kernel)
theorem ok_X11_note_95 : ok_S 103 95 (sf_i2 mx_and 96) := ok_iand (by decide +kernel : decode (mb_ 103) 95 = .ok (.iand, 1))
theorem ok_X11_note_96 : ok_S 103 96 (sf_iast 97) := ok_iast (by decide +kernel : decode (mb_ 103) 96 = .ok (.iastore, 1))
theorem ok_X11_note_97 : ok_S 103 97 (sf_inc 7 1 100) := ok_iinc (by decide +kernel : decode (mb_ 103) 97 = .ok (.iinc 7 1, 3))
theorem ok_X11_note_100 : ok_S 103 100 (sf_go 70) := ok_goto (by decide +kernel : decode (mb_ 103) 100 = .ok (.goto (-30), 3)) (by decide)
theorem ok_X11_note_103 : ok_S 103 103 (sf_ld 2 0 104) := ok_aload_n (by decide +kernel : decode (mb_ 103) 103 = .ok (.aload_n 0, 1)) rfl
theorem ok_X11_note_104 : ok_S 103 104 (sf_gr 7 7 3 107) := ok_gr fd_7_3 (by decide +kernel : decode (mb_ 103) 104 = .ok (.getfield 28, 3)) tw_209 (Or.inl rfl) rfl
theorem ok_X11_note_107 : ok_S 103 107 (sf_ld 0 1 108) := ok_iload_n (by decide +kernel : decode (mb_ 103) 107 = .ok (.iload_n 1, 1)) rfl
theorem ok_X11_note_108 : ok_S 103 108 (sf_ld 0 2 109) := ok_iload_n (by decide +kernel : decode (mb_ 103) 108 = .ok (.iload_n 2, 1)) rfl
theorem ok_X11_note_109 : ok_S 103 109 (sf_ld 0 3 110) := ok_iload_n (by decide +kernel : decode (mb_ 103) 109 = .ok (.iload_n 3, 1)) rfl
theorem ok_X11_note_110 : ok_S 103 110 (sf_ld 2 6 112) := ok_aload (by decide +kernel : decode (mb_ 103) 110 = .ok (.aload 6, 2))
theorem ok_X11_note_112 : ok_S 103 112 (sf_cv 8 [2, 0, 0, 0, 2] 91 115) := ok_cv mt_91 cl_8 (by decide +kernel : decode (mb_ 103) 112 = .ok (.invokevirtual 134, 3)) tw_568 tw_385 tw_386 tw_3 rfl (by decide +kernel) (mh_ok rfl) (by decide) (by decide)
theorem ok_X11_note_115 : ok_S 103 115 (sf_ret 0) := ok_ret0 (by decide +kernel : decode (mb_ 103) 115 = .ok (.ireturn, 1)) rfl
theorem ok_X11_note (pc : Nat) : ok_S 103 pc (cd_X11_note pc) :=
  (ok_bf (ok_bf (ok_bf (ok_bf (ok_bf (ok_bf (ok_lf pc ok_X11_note_115) (ok_lf pc ok_X11_note_112)) (ok_bf (ok_lf pc ok_X11_note_110) (ok_lf pc ok_X11_note_109))) (ok_bf (ok_bf (ok_lf pc ok_X11_note_108) (ok_lf pc ok_X11_note_107)) (ok_bf (ok_lf pc ok_X11_note_104) (ok_lf pc ok_X11_note_103)))) (ok_bf (ok_bf (ok_bf (ok_lf pc ok_X11_note_100) (ok_lf pc ok_X11_note_97)) (ok_bf (ok_lf pc ok_X11_note_96) (ok_lf pc ok_X11_note_95))) (ok_bf (ok_bf (ok_lf pc ok_X11_note_93) (ok_lf pc ok_X11_note_92)) (ok_bf (ok_lf pc ok_X11_note_91) (ok_lf pc ok_X11_note_90))))) (ok_bf (ok_bf (ok_bf (ok_bf (ok_lf pc ok_X11_note_88) (ok_lf pc ok_X11_note_87)) (ok_bf (ok_lf pc ok_X11_note_86) (ok_lf pc ok_X11_note_84))) (ok_bf (ok_bf (ok_lf pc ok_X11_note_83) (ok_lf pc ok_X11_note_81)) (ok_bf (ok_lf pc ok_X11_note_79) (ok_lf pc ok_X11_note_77)))) (ok_bf (ok_bf (ok_bf (ok_lf pc ok_X11_note_74) (ok_lf pc ok_X11_note_72)) (ok_bf (ok_lf pc ok_X11_note_70) (ok_lf pc ok_X11_note_68))) (ok_bf (ok_bf (ok_lf pc ok_X11_note_67) (ok_lf pc ok_X11_note_65)) (ok_bf (ok_lf pc ok_X11_note_63) (ok_lf pc ok_X11_note_61)))))) (ok_bf (ok_bf (ok_bf (ok_bf (ok_bf (ok_lf pc ok_X11_note_60) (ok_lf pc ok_X11_note_58)) (ok_bf (ok_lf pc ok_X11_note_55) (ok_lf pc ok_X11_note_53))) (ok_bf (ok_bf (ok_lf pc ok_X11_note_50) (ok_lf pc ok_X11_note_47)) (ok_bf (ok_lf pc ok_X11_note_46) (ok_lf pc ok_X11_note_45)))) (ok_bf (ok_bf (ok_bf (ok_lf pc ok_X11_note_44) (ok_lf pc ok_X11_note_41)) (ok_bf (ok_lf pc ok_X11_note_39) (ok_lf pc ok_X11_note_36))) (ok_bf (ok_bf (ok_lf pc ok_X11_note_33) (ok_lf pc ok_X11_note_31)) (ok_bf (ok_lf pc ok_X11_note_30) (ok_lf pc ok_X11_note_28))))) (ok_bf (ok_bf (ok_bf (ok_bf (ok_lf pc ok_X11_note_27) (ok_lf pc ok_X11_note_26)) (ok_bf (ok_lf pc ok_X11_note_23) (ok_lf pc ok_X11_note_20))) (ok_bf (ok_bf (ok_lf pc ok_X11_note_18) (ok_lf pc ok_X11_note_17)) (ok_bf (ok_lf pc ok_X11_note_16) (ok_lf pc ok_X11_note_13)))) (ok_bf (ok_bf (ok_bf (ok_lf pc ok_X11_note_10) (ok_lf pc ok_X11_note_9)) (ok_bf (ok_lf pc ok_X11_note_6) (ok_lf pc ok_X11_note_3))) (ok_bf (ok_bf (ok_lf pc ok_X11_note_2) (ok_lf pc ok_X11_note_1)) (ok_lf pc ok_X11_note_0))))))
theorem mo_X11_note (pc : Nat) : mo_S (cd_X11_note pc) :=
  (mo_bf (mo_bf (mo_bf (mo_bf (mo_bf (mo_bf (mo_bf mo_ret mo_no) (mo_bf mo_cv mo_no)) (mo_bf (mo_bf mo_ld mo_no) (mo_bf mo_ld mo_no))) (mo_bf (mo_bf (mo_bf mo_ld mo_no) (mo_bf mo_ld mo_no)) (mo_bf (mo_bf mo_gr mo_no) (mo_bf mo_ld mo_no)))) (mo_bf (mo_bf (mo_bf (mo_bf mo_go mo_no) (mo_bf mo_inc mo_no)) (mo_bf (mo_bf mo_iast mo_no) (mo_bf mo_i2 mo_no))) (mo_bf (mo_bf (mo_bf mo_push mo_no) (mo_bf mo_i2 mo_no)) (mo_bf (mo_bf mo_i2 mo_no) (mo_bf mo_i2 mo_no))))) (mo_bf (mo_bf (mo_bf (mo_bf (mo_bf mo_ld mo_no) (mo_bf mo_i2 mo_no)) (mo_bf (mo_bf mo_push mo_no) (mo_bf mo_ld mo_no))) (mo_bf (mo_bf (mo_bf mo_push mo_no) (mo_bf mo_ld mo_no)) (mo_bf (mo_bf mo_ld mo_no) (mo_bf mo_ld mo_no)))) (mo_bf (mo_bf (mo_bf (mo_bf mo_ic mo_no) (mo_bf mo_ld mo_no)) (mo_bf (mo_bf mo_ld mo_no) (mo_bf mo_st mo_no))) (mo_bf (mo_bf (mo_bf mo_push mo_no) (mo_bf mo_st mo_no)) (mo_bf (mo_bf mo_newa mo_no) (mo_bf mo_ld mo_no)))))) (mo_bf (mo_bf (mo_bf (mo_bf (mo_bf (mo_bf mo_ret mo_no) (mo_bf mo_push mo_no)) (mo_bf (mo_bf mo_ic mo_no) (mo_bf mo_push mo_no))) (mo_bf (mo_bf (mo_bf mo_gi mo_no) (mo_bf mo_gr mo_no)) (mo_bf (mo_bf mo_ld mo_no) (mo_bf mo_ret mo_no)))) (mo_bf (mo_bf (mo_bf (mo_bf mo_push mo_no) (mo_bf mo_if mo_no)) (mo_bf (mo_bf mo_ld mo_no) (mo_bf mo_if mo_no))) (mo_bf (mo_bf (mo_bf mo_cs mo_no) (mo_bf mo_push mo_no)) (mo_bf (mo_bf mo_push mo_no) (mo_bf mo_ld mo_no))))) (mo_bf (mo_bf (mo_bf (mo_bf (mo_bf mo_ret mo_no) (mo_bf mo_push mo_no)) (mo_bf (mo_bf mo_if mo_no) (mo_bf mo_cs mo_no))) (mo_bf (mo_bf (mo_bf mo_push mo_no) (mo_bf mo_push mo_no)) (mo_bf (mo_bf mo_ld mo_no) (mo_bf mo_if mo_no)))) (mo_bf (mo_bf (mo_bf (mo_bf mo_cs mo_no) (mo_bf mo_ld mo_no)) (mo_bf (mo_bf mo_if mo_no) (mo_bf mo_cs mo_no))) (mo_bf (mo_bf (mo_bf mo_push mo_no) (mo_bf mo_push mo_no)) (mo_bf mo_ld mo_no))))))
theorem ok_X11_noteOf_0 : ok_S 104 0 (sf_ld 2 0 1) := ok_aload_n (by decide +kernel : decode (mb_ 104) 0 = .ok (.aload_n 0, 1)) rfl
theorem ok_X11_noteOf_1 : ok_S 104 1 (sf_gr 7 7 3 4) := ok_gr fd_7_3 (by decide +kernel : decode (mb_ 104) 1 = .ok (.getfield 28, 3)) tw_209 (Or.inl rfl) rfl
theorem ok_X11_noteOf_4 : ok_S 104 4 (sf_ld 0 1 5) := ok_iload_n (by decide +kernel : decode (mb_ 104) 4 = .ok (.iload_n 1, 1)) rfl
theorem ok_X11_noteOf_5 : ok_S 104 5 (sf_cv 8 [2, 0] 90 8) := ok_cv mt_90 cl_8 (by decide +kernel : decode (mb_ 104) 5 = .ok (.invokevirtual 138, 3)) tw_573 tw_514 tw_515 tw_3 rfl (by decide +kernel) (mh_ok rfl) (by decide) (by decide)
theorem ok_X11_noteOf_8 : ok_S 104 8 (sf_st 2 3 9) := ok_astore_n (by decide +kernel : decode (mb_ 104) 8 = .ok (.astore_n 3, 1)) rfl
theorem ok_X11_noteOf_9 : ok_S 104 9 (sf_ld 2 3 10) := ok_aload_n (by decide +kernel : decode (mb_ 104) 9 = .ok (.aload_n 3, 1)) rfl
theorem ok_X11_noteOf_10 : ok_S 104 10 (sf_nul 13 15) := ok_nnul (by decide +kernel : decode (mb_ 104) 10 = .ok (.ifnonnull 5, 3)) (by decide)
theorem ok_X11_noteOf_13 : ok_S 104 13 (sf_push (0, (-1)) 14) := ok_iconst (by decide +kernel : decode (mb_ 104) 13 = .ok (.iconst (-1), 1)) ⟨by decide, by decide⟩
theorem ok_X11_noteOf_14 : ok_S 104 14 (sf_ret 0) := ok_ret0 (by decide +kernel : decode (mb_ 104) 14 = .ok (.ireturn, 1)) rfl
theorem ok_X11_noteOf_15 : ok_S 104 15 (sf_ld 0 2 16) := ok_iload_n (by decide +kernel : decode (mb_ 104) 15 = .ok (.iload_n 2, 1)) rfl
theorem ok_X11_noteOf_16 : ok_S 104 16 (sf_sw [(0, 48), (1, 53), (2, 58), (3, 63)] 69) := ok_tsw (by decide +kernel : decode (mb_ 104) 16 = .ok (.tableswitch 53 0 3 #[32, 37, 42, 47], 32)) (by decide) (by decide) (by decide) (by decide)
theorem ok_X11_noteOf_48 : ok_S 104 48 (sf_ld 2 3 49) := ok_aload_n (by decide +kernel : decode (mb_ 104) 48 = .ok (.aload_n 3, 1)) rfl
theorem ok_X11_noteOf_49 : ok_S 104 49 (sf_cu [(1, 39), (2, 55), (3, 1), (4, 34), (5, 80), (6, 8)] [2] 52) := ok_cu (x := ⟨"RoomNumbers$Note", "kind", "()I"⟩) (ow := "RoomNumbers$Note") ⟨tw_574, tw_520, tw_518, ⟨_, _, _, tw_536⟩, mh_ok rfl, (by decide +kernel)⟩ (List.forall_mem_cons.mpr ⟨⟨"RoomNumbers$Note", cl_1, mt_39, tw_519, tw_518, tw_14, by decide, by decide⟩, (List.forall_mem_cons.mpr ⟨⟨"RoomNumbers$Strokes", cl_2, mt_55, tw_530, tw_531, tw_15, by decide, by decide⟩, (List.forall_mem_cons.mpr ⟨⟨"RoomNumbers$Broken", cl_3, mt_1, tw_521, tw_522, tw_16, by decide, by decide⟩, (List.forall_mem_cons.mpr ⟨⟨"RoomNumbers$Left", cl_4, mt_34, tw_527, tw_528, tw_17, by decide, by decide⟩, (List.forall_mem_cons.mpr ⟨⟨"RoomNumbers$Turned", cl_5, mt_80, tw_533, tw_534, tw_18, by decide, by decide⟩, (List.forall_mem_cons.mpr ⟨⟨"RoomNumbers$Debt", cl_6, mt_8, tw_524, tw_525, tw_19, by decide, by decide⟩, (fun _ h => absurd h List.not_mem_nil)⟩)⟩)⟩)⟩)⟩)⟩) (by decide +kernel : decode (mb_ 104) 49 = .ok (.invokevirtual 142, 3)) rfl
theorem ok_X11_noteOf_52 : ok_S 104 52 (sf_ret 0) := ok_ret0 (by decide +kernel : decode (mb_ 104) 52 = .ok (.ireturn, 1)) rfl
theorem ok_X11_noteOf_53 : ok_S 104 53 (sf_ld 2 3 54) := ok_aload_n (by decide +kernel : decode (mb_ 104) 53 = .ok (.aload_n 3, 1)) rfl
theorem ok_X11_noteOf_54 : ok_S 104 54 (sf_gi 1 6 3 57) := ok_gi fd_1_3 (by decide +kernel : decode (mb_ 104) 54 = .ok (.getfield 148, 3)) tw_427 (Or.inl rfl) rfl
theorem ok_X11_noteOf_57 : ok_S 104 57 (sf_ret 0) := ok_ret0 (by decide +kernel : decode (mb_ 104) 57 = .ok (.ireturn, 1)) rfl
theorem ok_X11_noteOf_58 : ok_S 104 58 (sf_ld 2 3 59) := ok_aload_n (by decide +kernel : decode (mb_ 104) 58 = .ok (.aload_n 3, 1)) rfl
theorem ok_X11_noteOf_59 : ok_S 104 59 (sf_gi 1 6 1 62) := ok_gi fd_1_1 (by decide +kernel : decode (mb_ 104) 59 = .ok (.getfield 151, 3)) tw_414 (Or.inl rfl) rfl
theorem ok_X11_noteOf_62 : ok_S 104 62 (sf_ret 0) := ok_ret0 (by decide +kernel : decode (mb_ 104) 62 = .ok (.ireturn, 1)) rfl
theorem ok_X11_noteOf_63 : ok_S 104 63 (sf_ld 2 3 64) := ok_aload_n (by decide +kernel : decode (mb_ 104) 63 = .ok (.aload_n 3, 1)) rfl
theorem ok_X11_noteOf_64 : ok_S 104 64 (sf_gr 1 6 2 67) := ok_gr fd_1_2 (by decide +kernel : decode (mb_ 104) 64 = .ok (.getfield 154, 3)) tw_423 (Or.inl rfl) rfl
theorem ok_X11_noteOf_67 : ok_S 104 67 (sf_alen 68) := ok_alen (by decide +kernel : decode (mb_ 104) 67 = .ok (.arraylength, 1))
theorem ok_X11_noteOf_68 : ok_S 104 68 (sf_ret 0) := ok_ret0 (by decide +kernel : decode (mb_ 104) 68 = .ok (.ireturn, 1)) rfl
theorem ok_X11_noteOf_69 : ok_S 104 69 (sf_ld 0 2 70) := ok_iload_n (by decide +kernel : decode (mb_ 104) 69 = .ok (.iload_n 2, 1)) rfl
theorem ok_X11_noteOf_70 : ok_S 104 70 (sf_push (0, 10) 72) := ok_bipush (by decide +kernel : decode (mb_ 104) 70 = .ok (.bipush 10, 2)) ⟨by decide, by decide⟩ (by decide +kernel)
theorem ok_X11_noteOf_72 : ok_S 104 72 (sf_ic 2 98 75) := ok_ic2 (by decide +kernel : decode (mb_ 104) 72 = .ok (.if_icmp .lt 26, 3)) (by decide)
theorem ok_X11_noteOf_75 : ok_S 104 75 (sf_ld 2 3 76) := ok_aload_n (by decide +kernel : decode (mb_ 104) 75 = .ok (.aload_n 3, 1)) rfl
theorem ok_X11_noteOf_76 : ok_S 104 76 (sf_ld 0 2 77) := ok_iload_n (by decide +kernel : decode (mb_ 104) 76 = .ok (.iload_n 2, 1)) rfl
theorem ok_X11_noteOf_77 : ok_S 104 77 (sf_push (0, 10) 79) := ok_bipush (by decide +kernel : decode (mb_ 104) 77 = .ok (.bipush 10, 2)) ⟨by decide, by decide⟩ (by decide +kernel)
theorem ok_X11_noteOf_79 : ok_S 104 79 (sf_i2 mx_sub 80) := ok_isub (by decide +kernel : decode (mb_ 104) 79 = .ok (.isub, 1))
theorem ok_X11_noteOf_80 : ok_S 104 80 (sf_ci 1 6 [2, 0] 40 83) := ok_cu1 (x := ⟨"RoomNumbers$Note", "hasPlace", "(I)Z"⟩) (ow := "RoomNumbers$Note") ⟨tw_575, tw_578, tw_576, ⟨_, _, _, tw_584⟩, mh_ok rfl, (by decide +kernel)⟩ (by
    intro t h1 h2
    rcases (by omega : t = 1 ∨ t = 2 ∨ t = 3 ∨ t = 4 ∨ t = 5 ∨ t = 6) with e | e | e | e | e | e <;> subst e
    · exact ⟨"RoomNumbers$Note", cl_1, mt_40, tw_577, tw_576, tw_14, by decide, by decide⟩
    · exact ⟨"RoomNumbers$Strokes", cl_2, mt_40, tw_582, tw_576, tw_14, by decide, by decide⟩
    · exact ⟨"RoomNumbers$Broken", cl_3, mt_40, tw_579, tw_576, tw_14, by decide, by decide⟩
    · exact ⟨"RoomNumbers$Left", cl_4, mt_40, tw_581, tw_576, tw_14, by decide, by decide⟩
    · exact ⟨"RoomNumbers$Turned", cl_5, mt_40, tw_583, tw_576, tw_14, by decide, by decide⟩
    · exact ⟨"RoomNumbers$Debt", cl_6, mt_40, tw_580, tw_576, tw_14, by decide, by decide⟩) mt_40 (by decide) (by decide +kernel : decode (mb_ 104) 80 = .ok (.invokevirtual 157, 3)) rfl
theorem ok_X11_noteOf_83 : ok_S 104 83 (sf_if 0 98 86) := ok_if0 (by decide +kernel : decode (mb_ 104) 83 = .ok (.ifCond .eq 15, 3)) (by decide)
theorem ok_X11_noteOf_86 : ok_S 104 86 (sf_ld 2 3 87) := ok_aload_n (by decide +kernel : decode (mb_ 104) 86 = .ok (.aload_n 3, 1)) rfl
theorem ok_X11_noteOf_87 : ok_S 104 87 (sf_gr 1 6 2 90) := ok_gr fd_1_2 (by decide +kernel : decode (mb_ 104) 87 = .ok (.getfield 154, 3)) tw_423 (Or.inl rfl) rfl
theorem ok_X11_noteOf_90 : ok_S 104 90 (sf_ld 0 2 91) := ok_iload_n (by decide +kernel : decode (mb_ 104) 90 = .ok (.iload_n 2, 1)) rfl
theorem ok_X11_noteOf_91 : ok_S 104 91 (sf_push (0, 10) 93) := ok_bipush (by decide +kernel : decode (mb_ 104) 91 = .ok (.bipush 10, 2)) ⟨by decide, by decide⟩ (by decide +kernel)
theorem ok_X11_noteOf_93 : ok_S 104 93 (sf_i2 mx_sub 94) := ok_isub (by decide +kernel : decode (mb_ 104) 93 = .ok (.isub, 1))
theorem ok_X11_noteOf_94 : ok_S 104 94 (sf_iald 95) := ok_iald (by decide +kernel : decode (mb_ 104) 94 = .ok (.iaload, 1))
theorem ok_X11_noteOf_95 : ok_S 104 95 (sf_go 99) := ok_goto (by decide +kernel : decode (mb_ 104) 95 = .ok (.goto 4, 3)) (by decide)
theorem ok_X11_noteOf_98 : ok_S 104 98 (sf_push (0, (-1)) 99) := ok_iconst (by decide +kernel : decode (mb_ 104) 98 = .ok (.iconst (-1), 1)) ⟨by decide, by decide⟩
theorem ok_X11_noteOf_99 : ok_S 104 99 (sf_ret 0) := ok_ret0 (by decide +kernel : decode (mb_ 104) 99 = .ok (.ireturn, 1)) rfl
theorem ok_X11_noteOf (pc : Nat) : ok_S 104 pc (cd_X11_noteOf pc) :=
  (ok_bf (ok_bf (ok_bf (ok_bf (ok_bf (ok_bf (ok_lf pc ok_X11_noteOf_99) (ok_lf pc ok_X11_noteOf_98)) (ok_lf pc ok_X11_noteOf_95)) (ok_bf (ok_bf (ok_lf pc ok_X11_noteOf_94) (ok_lf pc ok_X11_noteOf_93)) (ok_lf pc ok_X11_noteOf_91))) (ok_bf (ok_bf (ok_bf (ok_lf pc ok_X11_noteOf_90) (ok_lf pc ok_X11_noteOf_87)) (ok_lf pc ok_X11_noteOf_86)) (ok_bf (ok_lf pc ok_X11_noteOf_83) (ok_lf pc ok_X11_noteOf_80)))) (ok_bf (ok_bf (ok_bf (ok_bf (ok_lf pc ok_X11_noteOf_79) (ok_lf pc ok_X11_noteOf_77)) (ok_lf pc ok_X11_noteOf_76)) (ok_bf (ok_lf pc ok_X11_noteOf_75) (ok_lf pc ok_X11_noteOf_72))) (ok_bf (ok_bf (ok_bf (ok_lf pc ok_X11_noteOf_70) (ok_lf pc ok_X11_noteOf_69)) (ok_lf pc ok_X11_noteOf_68)) (ok_bf (ok_lf pc ok_X11_noteOf_67) (ok_lf pc ok_X11_noteOf_64))))) (ok_bf (ok_bf (ok_bf (ok_bf (ok_bf (ok_lf pc ok_X11_noteOf_63) (ok_lf pc ok_X11_noteOf_62)) (ok_lf pc ok_X11_noteOf_59)) (ok_bf (ok_bf (ok_lf pc ok_X11_noteOf_58) (ok_lf pc ok_X11_noteOf_57)) (ok_lf pc ok_X11_noteOf_54))) (ok_bf (ok_bf (ok_bf (ok_lf pc ok_X11_noteOf_53) (ok_lf pc ok_X11_noteOf_52)) (ok_lf pc ok_X11_noteOf_49)) (ok_bf (ok_lf pc ok_X11_noteOf_48) (ok_lf pc ok_X11_noteOf_16)))) (ok_bf (ok_bf (ok_bf (ok_bf (ok_lf pc ok_X11_noteOf_15) (ok_lf pc ok_X11_noteOf_14)) (ok_lf pc ok_X11_noteOf_13)) (ok_bf (ok_lf pc ok_X11_noteOf_10) (ok_lf pc ok_X11_noteOf_9))) (ok_bf (ok_bf (ok_bf (ok_lf pc ok_X11_noteOf_8) (ok_lf pc ok_X11_noteOf_5)) (ok_lf pc ok_X11_noteOf_4)) (ok_bf (ok_lf pc ok_X11_noteOf_1) (ok_lf pc ok_X11_noteOf_0))))))
theorem mo_X11_noteOf (pc : Nat) : mo_S (cd_X11_noteOf pc) :=
  (mo_bf (mo_bf (mo_bf (mo_bf (mo_bf (mo_bf (mo_bf mo_ret mo_no) (mo_bf mo_push mo_no)) (mo_bf mo_go mo_no)) (mo_bf (mo_bf (mo_bf mo_iald mo_no) (mo_bf mo_i2 mo_no)) (mo_bf mo_push mo_no))) (mo_bf (mo_bf (mo_bf (mo_bf mo_ld mo_no) (mo_bf mo_gr mo_no)) (mo_bf mo_ld mo_no)) (mo_bf (mo_bf mo_if mo_no) (mo_bf mo_ci mo_no)))) (mo_bf (mo_bf (mo_bf (mo_bf (mo_bf mo_i2 mo_no) (mo_bf mo_push mo_no)) (mo_bf mo_ld mo_no)) (mo_bf (mo_bf mo_ld mo_no) (mo_bf mo_ic mo_no))) (mo_bf (mo_bf (mo_bf (mo_bf mo_push mo_no) (mo_bf mo_ld mo_no)) (mo_bf mo_ret mo_no)) (mo_bf (mo_bf mo_alen mo_no) (mo_bf mo_gr mo_no))))) (mo_bf (mo_bf (mo_bf (mo_bf (mo_bf (mo_bf mo_ld mo_no) (mo_bf mo_ret mo_no)) (mo_bf mo_gi mo_no)) (mo_bf (mo_bf (mo_bf mo_ld mo_no) (mo_bf mo_ret mo_no)) (mo_bf mo_gi mo_no))) (mo_bf (mo_bf (mo_bf (mo_bf mo_ld mo_no) (mo_bf mo_ret mo_no)) (mo_bf mo_cu mo_no)) (mo_bf (mo_bf mo_ld mo_no) (mo_bf mo_sw mo_no)))) (mo_bf (mo_bf (mo_bf (mo_bf (mo_bf mo_ld mo_no) (mo_bf mo_ret mo_no)) (mo_bf mo_push mo_no)) (mo_bf (mo_bf mo_nul mo_no) (mo_bf mo_ld mo_no))) (mo_bf (mo_bf (mo_bf (mo_bf mo_st mo_no) (mo_bf mo_cv mo_no)) (mo_bf mo_ld mo_no)) (mo_bf (mo_bf mo_gr mo_no) (mo_bf mo_ld mo_no))))))
theorem ok_X11_alter_0 : ok_S 105 0 (sf_ld 2 0 1) := ok_aload_n (by decide +kernel : decode (mb_ 105) 0 = .ok (.aload_n 0, 1)) rfl
theorem ok_X11_alter_1 : ok_S 105 1 (sf_gr 7 7 3 4) := ok_gr fd_7_3 (by decide +kernel : decode (mb_ 105) 1 = .ok (.getfield 28, 3)) tw_209 (Or.inl rfl) rfl
theorem ok_X11_alter_4 : ok_S 105 4 (sf_ld 0 1 5) := ok_iload_n (by decide +kernel : decode (mb_ 105) 4 = .ok (.iload_n 1, 1)) rfl
theorem ok_X11_alter_5 : ok_S 105 5 (sf_cv 8 [2, 0] 90 8) := ok_cv mt_90 cl_8 (by decide +kernel : decode (mb_ 105) 5 = .ok (.invokevirtual 138, 3)) tw_573 tw_514 tw_515 tw_3 rfl (by decide +kernel) (mh_ok rfl) (by decide) (by decide)
theorem ok_X11_alter_8 : ok_S 105 8 (sf_st 2 4 10) := ok_astore (by decide +kernel : decode (mb_ 105) 8 = .ok (.astore 4, 2))
theorem ok_X11_alter_10 : ok_S 105 10 (sf_ld 2 4 12) := ok_aload (by decide +kernel : decode (mb_ 105) 10 = .ok (.aload 4, 2))
theorem ok_X11_alter_12 : ok_S 105 12 (sf_nul 34 15) := ok_nul (by decide +kernel : decode (mb_ 105) 12 = .ok (.ifnull 22, 3)) (by decide)
theorem ok_X11_alter_15 : ok_S 105 15 (sf_ld 2 4 17) := ok_aload (by decide +kernel : decode (mb_ 105) 15 = .ok (.aload 4, 2))
theorem ok_X11_alter_17 : ok_S 105 17 (sf_ld 0 2 18) := ok_iload_n (by decide +kernel : decode (mb_ 105) 17 = .ok (.iload_n 2, 1)) rfl
theorem ok_X11_alter_18 : ok_S 105 18 (sf_ci 1 6 [2, 0] 40 21) := ok_cu1 (x := ⟨"RoomNumbers$Note", "hasPlace", "(I)Z"⟩) (ow := "RoomNumbers$Note") ⟨tw_575, tw_578, tw_576, ⟨_, _, _, tw_584⟩, mh_ok rfl, (by decide +kernel)⟩ (by
    intro t h1 h2
    rcases (by omega : t = 1 ∨ t = 2 ∨ t = 3 ∨ t = 4 ∨ t = 5 ∨ t = 6) with e | e | e | e | e | e <;> subst e
    · exact ⟨"RoomNumbers$Note", cl_1, mt_40, tw_577, tw_576, tw_14, by decide, by decide⟩
    · exact ⟨"RoomNumbers$Strokes", cl_2, mt_40, tw_582, tw_576, tw_14, by decide, by decide⟩
    · exact ⟨"RoomNumbers$Broken", cl_3, mt_40, tw_579, tw_576, tw_14, by decide, by decide⟩
    · exact ⟨"RoomNumbers$Left", cl_4, mt_40, tw_581, tw_576, tw_14, by decide, by decide⟩
    · exact ⟨"RoomNumbers$Turned", cl_5, mt_40, tw_583, tw_576, tw_14, by decide, by decide⟩
    · exact ⟨"RoomNumbers$Debt", cl_6, mt_40, tw_580, tw_576, tw_14, by decide, by decide⟩) mt_40 (by decide) (by decide +kernel : decode (mb_ 105) 18 = .ok (.invokevirtual 157, 3)) rfl
theorem ok_X11_alter_21 : ok_S 105 21 (sf_if 0 34 24) := ok_if0 (by decide +kernel : decode (mb_ 105) 21 = .ok (.ifCond .eq 13, 3)) (by decide)
theorem ok_X11_alter_24 : ok_S 105 24 (sf_ld 0 3 25) := ok_iload_n (by decide +kernel : decode (mb_ 105) 24 = .ok (.iload_n 3, 1)) rfl
theorem ok_X11_alter_25 : ok_S 105 25 (sf_push (0, 0) 26) := ok_iconst (by decide +kernel : decode (mb_ 105) 25 = .ok (.iconst 0, 1)) ⟨by decide, by decide⟩
theorem ok_X11_alter_26 : ok_S 105 26 (sf_push (0, 15) 28) := ok_bipush (by decide +kernel : decode (mb_ 105) 26 = .ok (.bipush 15, 2)) ⟨by decide, by decide⟩ (by decide +kernel)
theorem ok_X11_alter_28 : ok_S 105 28 (sf_cs [0, 0, 0] 145 31) := ok_cs mt_145 (by decide +kernel : decode (mb_ 105) 28 = .ok (.invokestatic 92, 3)) tw_262 tw_263 tw_1 (by decide +kernel) (mh_ok rfl) (by decide) (by decide)
theorem ok_X11_alter_31 : ok_S 105 31 (sf_if 1 36 34) := ok_if1 (by decide +kernel : decode (mb_ 105) 31 = .ok (.ifCond .ne 5, 3)) (by decide)
theorem ok_X11_alter_34 : ok_S 105 34 (sf_push (0, (-1)) 35) := ok_iconst (by decide +kernel : decode (mb_ 105) 34 = .ok (.iconst (-1), 1)) ⟨by decide, by decide⟩
theorem ok_X11_alter_35 : ok_S 105 35 (sf_ret 0) := ok_ret0 (by decide +kernel : decode (mb_ 105) 35 = .ok (.ireturn, 1)) rfl
theorem ok_X11_alter_36 : ok_S 105 36 (sf_ld 2 4 38) := ok_aload (by decide +kernel : decode (mb_ 105) 36 = .ok (.aload 4, 2))
theorem ok_X11_alter_38 : ok_S 105 38 (sf_gr 1 6 2 41) := ok_gr fd_1_2 (by decide +kernel : decode (mb_ 105) 38 = .ok (.getfield 154, 3)) tw_423 (Or.inl rfl) rfl
theorem ok_X11_alter_41 : ok_S 105 41 (sf_ld 0 2 42) := ok_iload_n (by decide +kernel : decode (mb_ 105) 41 = .ok (.iload_n 2, 1)) rfl
theorem ok_X11_alter_42 : ok_S 105 42 (sf_iald 43) := ok_iald (by decide +kernel : decode (mb_ 105) 42 = .ok (.iaload, 1))
theorem ok_X11_alter_43 : ok_S 105 43 (sf_st 0 5 45) := ok_istore (by decide +kernel : decode (mb_ 105) 43 = .ok (.istore 5, 2))
theorem ok_X11_alter_45 : ok_S 105 45 (sf_ld 2 4 47) := ok_aload (by decide +kernel : decode (mb_ 105) 45 = .ok (.aload 4, 2))
theorem ok_X11_alter_47 : ok_S 105 47 (sf_gr 1 6 2 50) := ok_gr fd_1_2 (by decide +kernel : decode (mb_ 105) 47 = .ok (.getfield 154, 3)) tw_423 (Or.inl rfl) rfl
theorem ok_X11_alter_50 : ok_S 105 50 (sf_ld 0 2 51) := ok_iload_n (by decide +kernel : decode (mb_ 105) 50 = .ok (.iload_n 2, 1)) rfl
theorem ok_X11_alter_51 : ok_S 105 51 (sf_ld 0 3 52) := ok_iload_n (by decide +kernel : decode (mb_ 105) 51 = .ok (.iload_n 3, 1)) rfl
theorem ok_X11_alter_52 : ok_S 105 52 (sf_iast 53) := ok_iast (by decide +kernel : decode (mb_ 105) 52 = .ok (.iastore, 1))
theorem ok_X11_alter_53 : ok_S 105 53 (sf_ld 2 0 54) := ok_aload_n (by decide +kernel : decode (mb_ 105) 53 = .ok (.aload_n 0, 1)) rfl
theorem ok_X11_alter_54 : ok_S 105 54 (sf_gr 7 7 3 57) := ok_gr fd_7_3 (by decide +kernel : decode (mb_ 105) 54 = .ok (.getfield 28, 3)) tw_209 (Or.inl rfl) rfl
theorem ok_X11_alter_57 : ok_S 105 57 (sf_dup 58) := ok_dup (by decide +kernel : decode (mb_ 105) 57 = .ok (.dup, 1))
theorem ok_X11_alter_58 : ok_S 105 58 (sf_gi 8 8 5 61) := ok_gi fd_8_5 (by decide +kernel : decode (mb_ 105) 58 = .ok (.getfield 160, 3)) tw_64 (Or.inl rfl) rfl
theorem ok_X11_alter_61 : ok_S 105 61 (sf_push (0, 1) 62) := ok_iconst (by decide +kernel : decode (mb_ 105) 61 = .ok (.iconst 1, 1)) ⟨by decide, by decide⟩
theorem ok_X11_alter_62 : ok_S 105 62 (sf_i2 mx_add 63) := ok_iadd (by decide +kernel : decode (mb_ 105) 62 = .ok (.iadd, 1))
theorem ok_X11_alter_63 : ok_S 105 63 (sf_pi 8 8 5 66) := ok_pi fd_8_5 (by decide +kernel : decode (mb_ 105) 63 = .ok (.putfield 160, 3)) tw_64 rfl (Or.inl ff_8_5) rfl
theorem ok_X11_alter_66 : ok_S 105 66 (sf_ld 0 5 68) := ok_iload (by decide +kernel : decode (mb_ 105) 66 = .ok (.iload 5, 2))
theorem ok_X11_alter_68 : ok_S 105 68 (sf_ret 0) := ok_ret0 (by decide +kernel : decode (mb_ 105) 68 = .ok (.ireturn, 1)) rfl
theorem ok_X11_alter (pc : Nat) : ok_S 105 pc (cd_X11_alter pc) :=
  (ok_bf (ok_bf (ok_bf (ok_bf (ok_bf (ok_bf (ok_lf pc ok_X11_alter_68) (ok_lf pc ok_X11_alter_66)) (ok_lf pc ok_X11_alter_63)) (ok_bf (ok_lf pc ok_X11_alter_62) (ok_lf pc ok_X11_alter_61))) (ok_bf (ok_bf (ok_bf (ok_lf pc ok_X11_alter_58) (ok_lf pc ok_X11_alter_57)) (ok_lf pc ok_X11_alter_54)) (ok_bf (ok_lf pc ok_X11_alter_53) (ok_lf pc ok_X11_alter_52)))) (ok_bf (ok_bf (ok_bf (ok_bf (ok_lf pc ok_X11_alter_51) (ok_lf pc ok_X11_alter_50)) (ok_lf pc ok_X11_alter_47)) (ok_bf (ok_lf pc ok_X11_alter_45) (ok_lf pc ok_X11_alter_43))) (ok_bf (ok_bf (ok_lf pc ok_X11_alter_42) (ok_lf pc ok_X11_alter_41)) (ok_bf (ok_lf pc ok_X11_alter_38) (ok_lf pc ok_X11_alter_36))))) (ok_bf (ok_bf (ok_bf (ok_bf (ok_bf (ok_lf pc ok_X11_alter_35) (ok_lf pc ok_X11_alter_34)) (ok_lf pc ok_X11_alter_31)) (ok_bf (ok_lf pc ok_X11_alter_28) (ok_lf pc ok_X11_alter_26))) (ok_bf (ok_bf (ok_lf pc ok_X11_alter_25) (ok_lf pc ok_X11_alter_24)) (ok_bf (ok_lf pc ok_X11_alter_21) (ok_lf pc ok_X11_alter_18)))) (ok_bf (ok_bf (ok_bf (ok_bf (ok_lf pc ok_X11_alter_17) (ok_lf pc ok_X11_alter_15)) (ok_lf pc ok_X11_alter_12)) (ok_bf (ok_lf pc ok_X11_alter_10) (ok_lf pc ok_X11_alter_8))) (ok_bf (ok_bf (ok_lf pc ok_X11_alter_5) (ok_lf pc ok_X11_alter_4)) (ok_bf (ok_lf pc ok_X11_alter_1) (ok_lf pc ok_X11_alter_0))))))
theorem mo_X11_alter (pc : Nat) : mo_S (cd_X11_alter pc) :=
  (mo_bf (mo_bf (mo_bf (mo_bf (mo_bf (mo_bf (mo_bf mo_ret mo_no) (mo_bf mo_ld mo_no)) (mo_bf mo_pi mo_no)) (mo_bf (mo_bf mo_i2 mo_no) (mo_bf mo_push mo_no))) (mo_bf (mo_bf (mo_bf (mo_bf mo_gi mo_no) (mo_bf mo_dup mo_no)) (mo_bf mo_gr mo_no)) (mo_bf (mo_bf mo_ld mo_no) (mo_bf mo_iast mo_no)))) (mo_bf (mo_bf (mo_bf (mo_bf (mo_bf mo_ld mo_no) (mo_bf mo_ld mo_no)) (mo_bf mo_gr mo_no)) (mo_bf (mo_bf mo_ld mo_no) (mo_bf mo_st mo_no))) (mo_bf (mo_bf (mo_bf mo_iald mo_no) (mo_bf mo_ld mo_no)) (mo_bf (mo_bf mo_gr mo_no) (mo_bf mo_ld mo_no))))) (mo_bf (mo_bf (mo_bf (mo_bf (mo_bf (mo_bf mo_ret mo_no) (mo_bf mo_push mo_no)) (mo_bf mo_if mo_no)) (mo_bf (mo_bf mo_cs mo_no) (mo_bf mo_push mo_no))) (mo_bf (mo_bf (mo_bf mo_push mo_no) (mo_bf mo_ld mo_no)) (mo_bf (mo_bf mo_if mo_no) (mo_bf mo_ci mo_no)))) (mo_bf (mo_bf (mo_bf (mo_bf (mo_bf mo_ld mo_no) (mo_bf mo_ld mo_no)) (mo_bf mo_nul mo_no)) (mo_bf (mo_bf mo_ld mo_no) (mo_bf mo_st mo_no))) (mo_bf (mo_bf (mo_bf mo_cv mo_no) (mo_bf mo_ld mo_no)) (mo_bf (mo_bf mo_gr mo_no) (mo_bf mo_ld mo_no))))))
theorem ok_X11_move_0 : ok_S 106 0 (sf_ld 2 0 1) := ok_aload_n (by decide +kernel : decode (mb_ 106) 0 = .ok (.aload_n 0, 1)) rfl
theorem ok_X11_move_1 : ok_S 106 1 (sf_gr 7 7 3 4) := ok_gr fd_7_3 (by decide +kernel : decode (mb_ 106) 1 = .ok (.getfield 28, 3)) tw_209 (Or.inl rfl) rfl
theorem ok_X11_move_4 : ok_S 106 4 (sf_ld 0 1 5) := ok_iload_n (by decide +kernel : decode (mb_ 106) 4 = .ok (.iload_n 1, 1)) rfl
theorem ok_X11_move_5 : ok_S 106 5 (sf_cv 8 [2, 0] 90 8) := ok_cv mt_90 cl_8 (by decide +kernel : decode (mb_ 106) 5 = .ok (.invokevirtual 138, 3)) tw_573 tw_514 tw_515 tw_3 rfl (by decide +kernel) (mh_ok rfl) (by decide) (by decide)
theorem ok_X11_move_8 : ok_S 106 8 (sf_st 2 3 9) := ok_astore_n (by decide +kernel : decode (mb_ 106) 8 = .ok (.astore_n 3, 1)) rfl
theorem ok_X11_move_9 : ok_S 106 9 (sf_ld 2 3 10) := ok_aload_n (by decide +kernel : decode (mb_ 106) 9 = .ok (.aload_n 3, 1)) rfl
theorem ok_X11_move_10 : ok_S 106 10 (sf_nul 20 13) := ok_nul (by decide +kernel : decode (mb_ 106) 10 = .ok (.ifnull 10, 3)) (by decide)
theorem ok_X11_move_13 : ok_S 106 13 (sf_ld 0 2 14) := ok_iload_n (by decide +kernel : decode (mb_ 106) 13 = .ok (.iload_n 2, 1)) rfl
theorem ok_X11_move_14 : ok_S 106 14 (sf_cs [0] 146 17) := ok_cs mt_146 (by decide +kernel : decode (mb_ 106) 14 = .ok (.invokestatic 113, 3)) tw_549 tw_550 tw_1 (by decide +kernel) (mh_ok rfl) (by decide) (by decide)
theorem ok_X11_move_17 : ok_S 106 17 (sf_if 1 22 20) := ok_if1 (by decide +kernel : decode (mb_ 106) 17 = .ok (.ifCond .ne 5, 3)) (by decide)
theorem ok_X11_move_20 : ok_S 106 20 (sf_push (0, (-1)) 21) := ok_iconst (by decide +kernel : decode (mb_ 106) 20 = .ok (.iconst (-1), 1)) ⟨by decide, by decide⟩
theorem ok_X11_move_21 : ok_S 106 21 (sf_ret 0) := ok_ret0 (by decide +kernel : decode (mb_ 106) 21 = .ok (.ireturn, 1)) rfl
theorem ok_X11_move_22 : ok_S 106 22 (sf_ld 2 3 23) := ok_aload_n (by decide +kernel : decode (mb_ 106) 22 = .ok (.aload_n 3, 1)) rfl
theorem ok_X11_move_23 : ok_S 106 23 (sf_gi 1 6 3 26) := ok_gi fd_1_3 (by decide +kernel : decode (mb_ 106) 23 = .ok (.getfield 148, 3)) tw_427 (Or.inl rfl) rfl
theorem ok_X11_move_26 : ok_S 106 26 (sf_st 0 4 28) := ok_istore (by decide +kernel : decode (mb_ 106) 26 = .ok (.istore 4, 2))
theorem ok_X11_move_28 : ok_S 106 28 (sf_ld 2 3 29) := ok_aload_n (by decide +kernel : decode (mb_ 106) 28 = .ok (.aload_n 3, 1)) rfl
theorem ok_X11_move_29 : ok_S 106 29 (sf_ld 0 2 30) := ok_iload_n (by decide +kernel : decode (mb_ 106) 29 = .ok (.iload_n 2, 1)) rfl
theorem ok_X11_move_30 : ok_S 106 30 (sf_pi 1 6 3 33) := ok_pi fd_1_3 (by decide +kernel : decode (mb_ 106) 30 = .ok (.putfield 148, 3)) tw_427 rfl (Or.inl ff_1_3) rfl
theorem ok_X11_move_33 : ok_S 106 33 (sf_ld 2 0 34) := ok_aload_n (by decide +kernel : decode (mb_ 106) 33 = .ok (.aload_n 0, 1)) rfl
theorem ok_X11_move_34 : ok_S 106 34 (sf_gr 7 7 3 37) := ok_gr fd_7_3 (by decide +kernel : decode (mb_ 106) 34 = .ok (.getfield 28, 3)) tw_209 (Or.inl rfl) rfl
theorem ok_X11_move_37 : ok_S 106 37 (sf_dup 38) := ok_dup (by decide +kernel : decode (mb_ 106) 37 = .ok (.dup, 1))
theorem ok_X11_move_38 : ok_S 106 38 (sf_gi 8 8 5 41) := ok_gi fd_8_5 (by decide +kernel : decode (mb_ 106) 38 = .ok (.getfield 160, 3)) tw_64 (Or.inl rfl) rfl
theorem ok_X11_move_41 : ok_S 106 41 (sf_push (0, 1) 42) := ok_iconst (by decide +kernel : decode (mb_ 106) 41 = .ok (.iconst 1, 1)) ⟨by decide, by decide⟩
theorem ok_X11_move_42 : ok_S 106 42 (sf_i2 mx_add 43) := ok_iadd (by decide +kernel : decode (mb_ 106) 42 = .ok (.iadd, 1))
theorem ok_X11_move_43 : ok_S 106 43 (sf_pi 8 8 5 46) := ok_pi fd_8_5 (by decide +kernel : decode (mb_ 106) 43 = .ok (.putfield 160, 3)) tw_64 rfl (Or.inl ff_8_5) rfl
theorem ok_X11_move_46 : ok_S 106 46 (sf_ld 0 4 48) := ok_iload (by decide +kernel : decode (mb_ 106) 46 = .ok (.iload 4, 2))
theorem ok_X11_move_48 : ok_S 106 48 (sf_ret 0) := ok_ret0 (by decide +kernel : decode (mb_ 106) 48 = .ok (.ireturn, 1)) rfl
theorem ok_X11_move (pc : Nat) : ok_S 106 pc (cd_X11_move pc) :=
  (ok_bf (ok_bf (ok_bf (ok_bf (ok_bf (ok_lf pc ok_X11_move_48) (ok_lf pc ok_X11_move_46)) (ok_bf (ok_lf pc ok_X11_move_43) (ok_lf pc ok_X11_move_42))) (ok_bf (ok_bf (ok_lf pc ok_X11_move_41) (ok_lf pc ok_X11_move_38)) (ok_lf pc ok_X11_move_37))) (ok_bf (ok_bf (ok_bf (ok_lf pc ok_X11_move_34) (ok_lf pc ok_X11_move_33)) (ok_bf (ok_lf pc ok_X11_move_30) (ok_lf pc ok_X11_move_29))) (ok_bf (ok_bf (ok_lf pc ok_X11_move_28) (ok_lf pc ok_X11_move_26)) (ok_lf pc ok_X11_move_23)))) (ok_bf (ok_bf (ok_bf (ok_bf (ok_lf pc ok_X11_move_22) (ok_lf pc ok_X11_move_21)) (ok_bf (ok_lf pc ok_X11_move_20) (ok_lf pc ok_X11_move_17))) (ok_bf (ok_bf (ok_lf pc ok_X11_move_14) (ok_lf pc ok_X11_move_13)) (ok_lf pc ok_X11_move_10))) (ok_bf (ok_bf (ok_bf (ok_lf pc ok_X11_move_9) (ok_lf pc ok_X11_move_8)) (ok_lf pc ok_X11_move_5)) (ok_bf (ok_bf (ok_lf pc ok_X11_move_4) (ok_lf pc ok_X11_move_1)) (ok_lf pc ok_X11_move_0)))))
theorem mo_X11_move (pc : Nat) : mo_S (cd_X11_move pc) :=
  (mo_bf (mo_bf (mo_bf (mo_bf (mo_bf (mo_bf mo_ret mo_no) (mo_bf mo_ld mo_no)) (mo_bf (mo_bf mo_pi mo_no) (mo_bf mo_i2 mo_no))) (mo_bf (mo_bf (mo_bf mo_push mo_no) (mo_bf mo_gi mo_no)) (mo_bf mo_dup mo_no))) (mo_bf (mo_bf (mo_bf (mo_bf mo_gr mo_no) (mo_bf mo_ld mo_no)) (mo_bf (mo_bf mo_pi mo_no) (mo_bf mo_ld mo_no))) (mo_bf (mo_bf (mo_bf mo_ld mo_no) (mo_bf mo_st mo_no)) (mo_bf mo_gi mo_no)))) (mo_bf (mo_bf (mo_bf (mo_bf (mo_bf mo_ld mo_no) (mo_bf mo_ret mo_no)) (mo_bf (mo_bf mo_push mo_no) (mo_bf mo_if mo_no))) (mo_bf (mo_bf (mo_bf mo_cs mo_no) (mo_bf mo_ld mo_no)) (mo_bf mo_nul mo_no))) (mo_bf (mo_bf (mo_bf (mo_bf mo_ld mo_no) (mo_bf mo_st mo_no)) (mo_bf mo_cv mo_no)) (mo_bf (mo_bf (mo_bf mo_ld mo_no) (mo_bf mo_gr mo_no)) (mo_bf mo_ld mo_no)))))
theorem ok_X11_worth_0 : ok_S 107 0 (sf_ld 2 0 1) := ok_aload_n (by decide +kernel : decode (mb_ 107) 0 = .ok (.aload_n 0, 1)) rfl
theorem ok_X11_worth_1 : ok_S 107 1 (sf_gr 7 7 3 4) := ok_gr fd_7_3 (by decide +kernel : decode (mb_ 107) 1 = .ok (.getfield 28, 3)) tw_209 (Or.inl rfl) rfl
theorem ok_X11_worth_4 : ok_S 107 4 (sf_ld 0 1 5) := ok_iload_n (by decide +kernel : decode (mb_ 107) 4 = .ok (.iload_n 1, 1)) rfl
theorem ok_X11_worth_5 : ok_S 107 5 (sf_cv 8 [2, 0] 90 8) := ok_cv mt_90 cl_8 (by decide +kernel : decode (mb_ 107) 5 = .ok (.invokevirtual 138, 3)) tw_573 tw_514 tw_515 tw_3 rfl (by decide +kernel) (mh_ok rfl) (by decide) (by decide)
theorem ok_X11_worth_8 : ok_S 107 8 (sf_st 2 3 9) := ok_astore_n (by decide +kernel : decode (mb_ 107) 8 = .ok (.astore_n 3, 1)) rfl
theorem ok_X11_worth_9 : ok_S 107 9 (sf_ld 2 3 10) := ok_aload_n (by decide +kernel : decode (mb_ 107) 9 = .ok (.aload_n 3, 1)) rfl
theorem ok_X11_worth_10 : ok_S 107 10 (sf_nul 20 13) := ok_nul (by decide +kernel : decode (mb_ 107) 10 = .ok (.ifnull 10, 3)) (by decide)
theorem ok_X11_worth_13 : ok_S 107 13 (sf_ld 0 2 14) := ok_iload_n (by decide +kernel : decode (mb_ 107) 13 = .ok (.iload_n 2, 1)) rfl
theorem ok_X11_worth_14 : ok_S 107 14 (sf_cs [0] 147 17) := ok_cs mt_147 (by decide +kernel : decode (mb_ 107) 14 = .ok (.invokestatic 117, 3)) tw_552 tw_553 tw_1 (by decide +kernel) (mh_ok rfl) (by decide) (by decide)
theorem ok_X11_worth_17 : ok_S 107 17 (sf_if 1 26 20) := ok_if1 (by decide +kernel : decode (mb_ 107) 17 = .ok (.ifCond .ne 9, 3)) (by decide)
theorem ok_X11_worth_20 : ok_S 107 20 (sf_push (1, (-1000000000000)) 23) := ok_ldc2 (by decide +kernel : decode (mb_ 107) 20 = .ok (.ldc2_w 163, 3)) ⟨by decide, by decide⟩ tw_597
theorem ok_X11_worth_23 : ok_S 107 23 (sf_go 32) := ok_goto (by decide +kernel : decode (mb_ 107) 23 = .ok (.goto 9, 3)) (by decide)
theorem ok_X11_worth_26 : ok_S 107 26 (sf_ld 2 3 27) := ok_aload_n (by decide +kernel : decode (mb_ 107) 26 = .ok (.aload_n 3, 1)) rfl
theorem ok_X11_worth_27 : ok_S 107 27 (sf_ld 0 2 28) := ok_iload_n (by decide +kernel : decode (mb_ 107) 27 = .ok (.iload_n 2, 1)) rfl
theorem ok_X11_worth_28 : ok_S 107 28 (sf_cu [(1, 43), (2, 56), (3, 3), (4, 3), (5, 81), (6, 9)] [2, 0] 31) := ok_cu (x := ⟨"RoomNumbers$Note", "worthBy", "(I)I"⟩) (ow := "RoomNumbers$Note") ⟨tw_598, tw_601, tw_599, ⟨_, _, _, tw_632⟩, mh_ok rfl, (by decide +kernel)⟩ (List.forall_mem_cons.mpr ⟨⟨"RoomNumbers$Note", cl_1, mt_43, tw_600, tw_599, tw_14, by decide, by decide⟩, (List.forall_mem_cons.mpr ⟨⟨"RoomNumbers$Strokes", cl_2, mt_56, tw_628, tw_625, tw_15, by decide, by decide⟩, (List.forall_mem_cons.mpr ⟨⟨"RoomNumbers$Broken", cl_3, mt_3, tw_602, tw_603, tw_16, by decide, by decide⟩, (List.forall_mem_cons.mpr ⟨⟨"RoomNumbers$Left", cl_4, mt_3, tw_627, tw_603, tw_16, by decide, by decide⟩, (List.forall_mem_cons.mpr ⟨⟨"RoomNumbers$Turned", cl_5, mt_81, tw_629, tw_630, tw_18, by decide, by decide⟩, (List.forall_mem_cons.mpr ⟨⟨"RoomNumbers$Debt", cl_6, mt_9, tw_621, tw_622, tw_19, by decide, by decide⟩, (fun _ h => absurd h List.not_mem_nil)⟩)⟩)⟩)⟩)⟩)⟩) (by decide +kernel : decode (mb_ 107) 28 = .ok (.invokevirtual 165, 3)) rfl
theorem ok_X11_worth_31 : ok_S 107 31 (sf_i2l 32) := ok_i2l (by decide +kernel : decode (mb_ 107) 31 = .ok (.i2l, 1))
theorem ok_X11_worth_32 : ok_S 107 32 (sf_ret 1) := ok_ret1 (by decide +kernel : decode (mb_ 107) 32 = .ok (.lreturn, 1)) rfl
theorem ok_X11_worth (pc : Nat) : ok_S 107 pc (cd_X11_worth pc) :=
  (ok_bf (ok_bf (ok_bf (ok_bf (ok_bf (ok_lf pc ok_X11_worth_32) (ok_lf pc ok_X11_worth_31)) (ok_lf pc ok_X11_worth_28)) (ok_bf (ok_lf pc ok_X11_worth_27) (ok_lf pc ok_X11_worth_26))) (ok_bf (ok_bf (ok_lf pc ok_X11_worth_23) (ok_lf pc ok_X11_worth_20)) (ok_bf (ok_lf pc ok_X11_worth_17) (ok_lf pc ok_X11_worth_14)))) (ok_bf (ok_bf (ok_bf (ok_lf pc ok_X11_worth_13) (ok_lf pc ok_X11_worth_10)) (ok_bf (ok_lf pc ok_X11_worth_9) (ok_lf pc ok_X11_worth_8))) (ok_bf (ok_bf (ok_lf pc ok_X11_worth_5) (ok_lf pc ok_X11_worth_4)) (ok_bf (ok_lf pc ok_X11_worth_1) (ok_lf pc ok_X11_worth_0)))))
theorem mo_X11_worth (pc : Nat) : mo_S (cd_X11_worth pc) :=
  (mo_bf (mo_bf (mo_bf (mo_bf (mo_bf (mo_bf mo_ret mo_no) (mo_bf mo_i2l mo_no)) (mo_bf mo_cu mo_no)) (mo_bf (mo_bf mo_ld mo_no) (mo_bf mo_ld mo_no))) (mo_bf (mo_bf (mo_bf mo_go mo_no) (mo_bf mo_push mo_no)) (mo_bf (mo_bf mo_if mo_no) (mo_bf mo_cs mo_no)))) (mo_bf (mo_bf (mo_bf (mo_bf mo_ld mo_no) (mo_bf mo_nul mo_no)) (mo_bf (mo_bf mo_ld mo_no) (mo_bf mo_st mo_no))) (mo_bf (mo_bf (mo_bf mo_cv mo_no) (mo_bf mo_ld mo_no)) (mo_bf (mo_bf mo_gr mo_no) (mo_bf mo_ld mo_no)))))
theorem ok_X11_can_0 : ok_S 108 0 (sf_ld 2 0 1) := ok_aload_n (by decide +kernel : decode (mb_ 108) 0 = .ok (.aload_n 0, 1)) rfl
theorem ok_X11_can_1 : ok_S 108 1 (sf_gr 7 7 3 4) := ok_gr fd_7_3 (by decide +kernel : decode (mb_ 108) 1 = .ok (.getfield 28, 3)) tw_209 (Or.inl rfl) rfl
theorem ok_X11_can_4 : ok_S 108 4 (sf_ld 0 1 5) := ok_iload_n (by decide +kernel : decode (mb_ 108) 4 = .ok (.iload_n 1, 1)) rfl
theorem ok_X11_can_5 : ok_S 108 5 (sf_cv 8 [2, 0] 90 8) := ok_cv mt_90 cl_8 (by decide +kernel : decode (mb_ 108) 5 = .ok (.invokevirtual 138, 3)) tw_573 tw_514 tw_515 tw_3 rfl (by decide +kernel) (mh_ok rfl) (by decide) (by decide)
theorem ok_X11_can_8 : ok_S 108 8 (sf_st 2 2 9) := ok_astore_n (by decide +kernel : decode (mb_ 108) 8 = .ok (.astore_n 2, 1)) rfl
theorem ok_X11_can_9 : ok_S 108 9 (sf_ld 2 2 10) := ok_aload_n (by decide +kernel : decode (mb_ 108) 9 = .ok (.aload_n 2, 1)) rfl
theorem ok_X11_can_10 : ok_S 108 10 (sf_nul 13 17) := ok_nnul (by decide +kernel : decode (mb_ 108) 10 = .ok (.ifnonnull 7, 3)) (by decide)
theorem ok_X11_can_13 : ok_S 108 13 (sf_push (0, (-1)) 14) := ok_iconst (by decide +kernel : decode (mb_ 108) 13 = .ok (.iconst (-1), 1)) ⟨by decide, by decide⟩
theorem ok_X11_can_14 : ok_S 108 14 (sf_go 21) := ok_goto (by decide +kernel : decode (mb_ 108) 14 = .ok (.goto 7, 3)) (by decide)
theorem ok_X11_can_17 : ok_S 108 17 (sf_ld 2 2 18) := ok_aload_n (by decide +kernel : decode (mb_ 108) 17 = .ok (.aload_n 2, 1)) rfl
theorem ok_X11_can_18 : ok_S 108 18 (sf_ci 1 6 [2] 45 21) := ok_cu1 (x := ⟨"RoomNumbers$Note", "basesItCanBeIn", "()I"⟩) (ow := "RoomNumbers$Note") ⟨tw_638, tw_641, tw_639, ⟨_, _, _, tw_647⟩, mh_ok rfl, (by decide +kernel)⟩ (by
    intro t h1 h2
    rcases (by omega : t = 1 ∨ t = 2 ∨ t = 3 ∨ t = 4 ∨ t = 5 ∨ t = 6) with e | e | e | e | e | e <;> subst e
    · exact ⟨"RoomNumbers$Note", cl_1, mt_45, tw_640, tw_639, tw_14, by decide, by decide⟩
    · exact ⟨"RoomNumbers$Strokes", cl_2, mt_45, tw_645, tw_639, tw_14, by decide, by decide⟩
    · exact ⟨"RoomNumbers$Broken", cl_3, mt_45, tw_642, tw_639, tw_14, by decide, by decide⟩
    · exact ⟨"RoomNumbers$Left", cl_4, mt_45, tw_644, tw_639, tw_14, by decide, by decide⟩
    · exact ⟨"RoomNumbers$Turned", cl_5, mt_45, tw_646, tw_639, tw_14, by decide, by decide⟩
    · exact ⟨"RoomNumbers$Debt", cl_6, mt_45, tw_643, tw_639, tw_14, by decide, by decide⟩) mt_45 (by decide) (by decide +kernel : decode (mb_ 108) 18 = .ok (.invokevirtual 168, 3)) rfl
theorem ok_X11_can_21 : ok_S 108 21 (sf_ret 0) := ok_ret0 (by decide +kernel : decode (mb_ 108) 21 = .ok (.ireturn, 1)) rfl
theorem ok_X11_can (pc : Nat) : ok_S 108 pc (cd_X11_can pc) :=
  (ok_bf (ok_bf (ok_bf (ok_bf (ok_lf pc ok_X11_can_21) (ok_lf pc ok_X11_can_18)) (ok_lf pc ok_X11_can_17)) (ok_bf (ok_bf (ok_lf pc ok_X11_can_14) (ok_lf pc ok_X11_can_13)) (ok_lf pc ok_X11_can_10))) (ok_bf (ok_bf (ok_bf (ok_lf pc ok_X11_can_9) (ok_lf pc ok_X11_can_8)) (ok_lf pc ok_X11_can_5)) (ok_bf (ok_bf (ok_lf pc ok_X11_can_4) (ok_lf pc ok_X11_can_1)) (ok_lf pc ok_X11_can_0))))
theorem mo_X11_can (pc : Nat) : mo_S (cd_X11_can pc) :=
  (mo_bf (mo_bf (mo_bf (mo_bf (mo_bf mo_ret mo_no) (mo_bf mo_ci mo_no)) (mo_bf mo_ld mo_no)) (mo_bf (mo_bf (mo_bf mo_go mo_no) (mo_bf mo_push mo_no)) (mo_bf mo_nul mo_no))) (mo_bf (mo_bf (mo_bf (mo_bf mo_ld mo_no) (mo_bf mo_st mo_no)) (mo_bf mo_cv mo_no)) (mo_bf (mo_bf (mo_bf mo_ld mo_no) (mo_bf mo_gr mo_no)) (mo_bf mo_ld mo_no))))
theorem ok_X11_line_0 : ok_S 109 0 (sf_ld 0 1 1) := ok_iload_n (by decide +kernel : decode (mb_ 109) 0 = .ok (.iload_n 1, 1)) rfl
theorem ok_X11_line_1 : ok_S 109 1 (sf_push (0, 0) 2) := ok_iconst (by decide +kernel : decode (mb_ 109) 1 = .ok (.iconst 0, 1)) ⟨by decide, by decide⟩
theorem ok_X11_line_2 : ok_S 109 2 (sf_push (0, 3) 3) := ok_iconst (by decide +kernel : decode (mb_ 109) 2 = .ok (.iconst 3, 1)) ⟨by decide, by decide⟩
theorem ok_X11_line_3 : ok_S 109 3 (sf_cs [0, 0, 0] 145 6) := ok_cs mt_145 (by decide +kernel : decode (mb_ 109) 3 = .ok (.invokestatic 92, 3)) tw_262 tw_263 tw_1 (by decide +kernel) (mh_ok rfl) (by decide) (by decide)
theorem ok_X11_line_6 : ok_S 109 6 (sf_if 0 20 9) := ok_if0 (by decide +kernel : decode (mb_ 109) 6 = .ok (.ifCond .eq 14, 3)) (by decide)
theorem ok_X11_line_9 : ok_S 109 9 (sf_ld 2 0 10) := ok_aload_n (by decide +kernel : decode (mb_ 109) 9 = .ok (.aload_n 0, 1)) rfl
theorem ok_X11_line_10 : ok_S 109 10 (sf_gr 7 7 3 13) := ok_gr fd_7_3 (by decide +kernel : decode (mb_ 109) 10 = .ok (.getfield 28, 3)) tw_209 (Or.inl rfl) rfl
theorem ok_X11_line_13 : ok_S 109 13 (sf_ld 0 2 14) := ok_iload_n (by decide +kernel : decode (mb_ 109) 13 = .ok (.iload_n 2, 1)) rfl
theorem ok_X11_line_14 : ok_S 109 14 (sf_cv 8 [2, 0] 90 17) := ok_cv mt_90 cl_8 (by decide +kernel : decode (mb_ 109) 14 = .ok (.invokevirtual 138, 3)) tw_573 tw_514 tw_515 tw_3 rfl (by decide +kernel) (mh_ok rfl) (by decide) (by decide)
theorem ok_X11_line_17 : ok_S 109 17 (sf_nul 20 22) := ok_nnul (by decide +kernel : decode (mb_ 109) 17 = .ok (.ifnonnull 5, 3)) (by decide)
theorem ok_X11_line_20 : ok_S 109 20 (sf_push (0, (-1)) 21) := ok_iconst (by decide +kernel : decode (mb_ 109) 20 = .ok (.iconst (-1), 1)) ⟨by decide, by decide⟩
theorem ok_X11_line_21 : ok_S 109 21 (sf_ret 0) := ok_ret0 (by decide +kernel : decode (mb_ 109) 21 = .ok (.ireturn, 1)) rfl
theorem ok_X11_line_22 : ok_S 109 22 (sf_ld 0 1 23) := ok_iload_n (by decide +kernel : decode (mb_ 109) 22 = .ok (.iload_n 1, 1)) rfl
theorem ok_X11_line_23 : ok_S 109 23 (sf_push (0, 3) 24) := ok_iconst (by decide +kernel : decode (mb_ 109) 23 = .ok (.iconst 3, 1)) ⟨by decide, by decide⟩
theorem ok_X11_line_24 : ok_S 109 24 (sf_ic 0 40 27) := ok_ic0 (by decide +kernel : decode (mb_ 109) 24 = .ok (.if_icmp .eq 16, 3)) (by decide)
theorem ok_X11_line_27 : ok_S 109 27 (sf_ld 2 0 28) := ok_aload_n (by decide +kernel : decode (mb_ 109) 27 = .ok (.aload_n 0, 1)) rfl
theorem ok_X11_line_28 : ok_S 109 28 (sf_gr 7 7 3 31) := ok_gr fd_7_3 (by decide +kernel : decode (mb_ 109) 28 = .ok (.getfield 28, 3)) tw_209 (Or.inl rfl) rfl
theorem ok_X11_line_31 : ok_S 109 31 (sf_ld 0 3 32) := ok_iload_n (by decide +kernel : decode (mb_ 109) 31 = .ok (.iload_n 3, 1)) rfl
theorem ok_X11_line_32 : ok_S 109 32 (sf_cv 8 [2, 0] 90 35) := ok_cv mt_90 cl_8 (by decide +kernel : decode (mb_ 109) 32 = .ok (.invokevirtual 138, 3)) tw_573 tw_514 tw_515 tw_3 rfl (by decide +kernel) (mh_ok rfl) (by decide) (by decide)
theorem ok_X11_line_35 : ok_S 109 35 (sf_nul 38 40) := ok_nnul (by decide +kernel : decode (mb_ 109) 35 = .ok (.ifnonnull 5, 3)) (by decide)
theorem ok_X11_line_38 : ok_S 109 38 (sf_push (0, (-1)) 39) := ok_iconst (by decide +kernel : decode (mb_ 109) 38 = .ok (.iconst (-1), 1)) ⟨by decide, by decide⟩
theorem ok_X11_line_39 : ok_S 109 39 (sf_ret 0) := ok_ret0 (by decide +kernel : decode (mb_ 109) 39 = .ok (.ireturn, 1)) rfl
theorem ok_X11_line_40 : ok_S 109 40 (sf_ld 0 1 41) := ok_iload_n (by decide +kernel : decode (mb_ 109) 40 = .ok (.iload_n 1, 1)) rfl
theorem ok_X11_line_41 : ok_S 109 41 (sf_push (0, 2) 42) := ok_iconst (by decide +kernel : decode (mb_ 109) 41 = .ok (.iconst 2, 1)) ⟨by decide, by decide⟩
theorem ok_X11_line_42 : ok_S 109 42 (sf_ic 1 59 45) := ok_ic1 (by decide +kernel : decode (mb_ 109) 42 = .ok (.if_icmp .ne 17, 3)) (by decide)
theorem ok_X11_line_45 : ok_S 109 45 (sf_ld 2 0 46) := ok_aload_n (by decide +kernel : decode (mb_ 109) 45 = .ok (.aload_n 0, 1)) rfl
theorem ok_X11_line_46 : ok_S 109 46 (sf_gr 7 7 3 49) := ok_gr fd_7_3 (by decide +kernel : decode (mb_ 109) 46 = .ok (.getfield 28, 3)) tw_209 (Or.inl rfl) rfl
theorem ok_X11_line_49 : ok_S 109 49 (sf_ld 0 4 51) := ok_iload (by decide +kernel : decode (mb_ 109) 49 = .ok (.iload 4, 2))
theorem ok_X11_line_51 : ok_S 109 51 (sf_cv 8 [2, 0] 90 54) := ok_cv mt_90 cl_8 (by decide +kernel : decode (mb_ 109) 51 = .ok (.invokevirtual 138, 3)) tw_573 tw_514 tw_515 tw_3 rfl (by decide +kernel) (mh_ok rfl) (by decide) (by decide)
theorem ok_X11_line_54 : ok_S 109 54 (sf_nul 57 59) := ok_nnul (by decide +kernel : decode (mb_ 109) 54 = .ok (.ifnonnull 5, 3)) (by decide)
theorem ok_X11_line_57 : ok_S 109 57 (sf_push (0, (-1)) 58) := ok_iconst (by decide +kernel : decode (mb_ 109) 57 = .ok (.iconst (-1), 1)) ⟨by decide, by decide⟩
theorem ok_X11_line_58 : ok_S 109 58 (sf_ret 0) := ok_ret0 (by decide +kernel : decode (mb_ 109) 58 = .ok (.ireturn, 1)) rfl
theorem ok_X11_line_59 : ok_S 109 59 (sf_ld 0 1 60) := ok_iload_n (by decide +kernel : decode (mb_ 109) 59 = .ok (.iload_n 1, 1)) rfl
theorem ok_X11_line_60 : ok_S 109 60 (sf_push (0, 3) 61) := ok_iconst (by decide +kernel : decode (mb_ 109) 60 = .ok (.iconst 3, 1)) ⟨by decide, by decide⟩
theorem ok_X11_line_61 : ok_S 109 61 (sf_ic 1 77 64) := ok_ic1 (by decide +kernel : decode (mb_ 109) 61 = .ok (.if_icmp .ne 16, 3)) (by decide)
theorem ok_X11_line_64 : ok_S 109 64 (sf_ld 0 4 66) := ok_iload (by decide +kernel : decode (mb_ 109) 64 = .ok (.iload 4, 2))
theorem ok_X11_line_66 : ok_S 109 66 (sf_push (0, 1) 67) := ok_iconst (by decide +kernel : decode (mb_ 109) 66 = .ok (.iconst 1, 1)) ⟨by decide, by decide⟩
theorem ok_X11_line_67 : ok_S 109 67 (sf_push (0, 99) 69) := ok_bipush (by decide +kernel : decode (mb_ 109) 67 = .ok (.bipush 99, 2)) ⟨by decide, by decide⟩ (by decide +kernel)
theorem ok_X11_line_69 : ok_S 109 69 (sf_cs [0, 0, 0] 145 72) := ok_cs mt_145 (by decide +kernel : decode (mb_ 109) 69 = .ok (.invokestatic 92, 3)) tw_262 tw_263 tw_1 (by decide +kernel) (mh_ok rfl) (by decide) (by decide)
theorem ok_X11_line_72 : ok_S 109 72 (sf_if 1 77 75) := ok_if1 (by decide +kernel : decode (mb_ 109) 72 = .ok (.ifCond .ne 5, 3)) (by decide)
theorem ok_X11_line_75 : ok_S 109 75 (sf_push (0, (-1)) 76) := ok_iconst (by decide +kernel : decode (mb_ 109) 75 = .ok (.iconst (-1), 1)) ⟨by decide, by decide⟩
theorem ok_X11_line_76 : ok_S 109 76 (sf_ret 0) := ok_ret0 (by decide +kernel : decode (mb_ 109) 76 = .ok (.ireturn, 1)) rfl
theorem ok_X11_line_77 : ok_S 109 77 (sf_ld 2 0 78) := ok_aload_n (by decide +kernel : decode (mb_ 109) 77 = .ok (.aload_n 0, 1)) rfl
theorem ok_X11_line_78 : ok_S 109 78 (sf_gr 7 7 3 81) := ok_gr fd_7_3 (by decide +kernel : decode (mb_ 109) 78 = .ok (.getfield 28, 3)) tw_209 (Or.inl rfl) rfl
theorem ok_X11_line_81 : ok_S 109 81 (sf_gi 8 8 4 84) := ok_gi fd_8_4 (by decide +kernel : decode (mb_ 109) 81 = .ok (.getfield 171, 3)) tw_61 (Or.inl rfl) rfl
theorem ok_X11_line_84 : ok_S 109 84 (sf_push (0, 6) 86) := ok_bipush (by decide +kernel : decode (mb_ 109) 84 = .ok (.bipush 6, 2)) ⟨by decide, by decide⟩ (by decide +kernel)
theorem ok_X11_line_86 : ok_S 109 86 (sf_ic 2 92 89) := ok_ic2 (by decide +kernel : decode (mb_ 109) 86 = .ok (.if_icmp .lt 6, 3)) (by decide)
theorem ok_X11_line_89 : ok_S 109 89 (sf_push (0, (-2)) 91) := ok_bipush (by decide +kernel : decode (mb_ 109) 89 = .ok (.bipush (-2), 2)) ⟨by decide, by decide⟩ (by decide +kernel)
theorem ok_X11_line_91 : ok_S 109 91 (sf_ret 0) := ok_ret0 (by decide +kernel : decode (mb_ 109) 91 = .ok (.ireturn, 1)) rfl
theorem ok_X11_line_92 : ok_S 109 92 (sf_ld 2 0 93) := ok_aload_n (by decide +kernel : decode (mb_ 109) 92 = .ok (.aload_n 0, 1)) rfl
theorem ok_X11_line_93 : ok_S 109 93 (sf_gr 7 7 3 96) := ok_gr fd_7_3 (by decide +kernel : decode (mb_ 109) 93 = .ok (.getfield 28, 3)) tw_209 (Or.inl rfl) rfl
theorem ok_X11_line_96 : ok_S 109 96 (sf_ld 0 1 97) := ok_iload_n (by decide +kernel : decode (mb_ 109) 96 = .ok (.iload_n 1, 1)) rfl
theorem ok_X11_line_97 : ok_S 109 97 (sf_ld 0 2 98) := ok_iload_n (by decide +kernel : decode (mb_ 109) 97 = .ok (.iload_n 2, 1)) rfl
theorem ok_X11_line_98 : ok_S 109 98 (sf_ld 0 3 99) := ok_iload_n (by decide +kernel : decode (mb_ 109) 98 = .ok (.iload_n 3, 1)) rfl
theorem ok_X11_line_99 : ok_S 109 99 (sf_ld 0 4 101) := ok_iload (by decide +kernel : decode (mb_ 109) 99 = .ok (.iload 4, 2))
theorem ok_X11_line_101 : ok_S 109 101 (sf_cv 8 [2, 0, 0, 0, 0] 92 104) := ok_cv mt_92 cl_8 (by decide +kernel : decode (mb_ 109) 101 = .ok (.invokevirtual 174, 3)) tw_674 tw_495 tw_496 tw_3 rfl (by decide +kernel) (mh_ok rfl) (by decide) (by decide)
theorem ok_X11_line_104 : ok_S 109 104 (sf_ret 0) := ok_ret0 (by decide +kernel : decode (mb_ 109) 104 = .ok (.ireturn, 1)) rfl
theorem ok_X11_line (pc : Nat) : ok_S 109 pc (cd_X11_line pc) :=
  (ok_bf (ok_bf (ok_bf (ok_bf (ok_bf (ok_bf (ok_lf pc ok_X11_line_104) (ok_lf pc ok_X11_line_101)) (ok_bf (ok_lf pc ok_X11_line_99) (ok_lf pc ok_X11_line_98))) (ok_bf (ok_bf (ok_lf pc ok_X11_line_97) (ok_lf pc ok_X11_line_96)) (ok_bf (ok_lf pc ok_X11_line_93) (ok_lf pc ok_X11_line_92)))) (ok_bf (ok_bf (ok_bf (ok_lf pc ok_X11_line_91) (ok_lf pc ok_X11_line_89)) (ok_bf (ok_lf pc ok_X11_line_86) (ok_lf pc ok_X11_line_84))) (ok_bf (ok_bf (ok_lf pc ok_X11_line_81) (ok_lf pc ok_X11_line_78)) (ok_lf pc ok_X11_line_77)))) (ok_bf (ok_bf (ok_bf (ok_bf (ok_lf pc ok_X11_line_76) (ok_lf pc ok_X11_line_75)) (ok_bf (ok_lf pc ok_X11_line_72) (ok_lf pc ok_X11_line_69))) (ok_bf (ok_bf (ok_lf pc ok_X11_line_67) (ok_lf pc ok_X11_line_66)) (ok_lf pc ok_X11_line_64))) (ok_bf (ok_bf (ok_bf (ok_lf pc ok_X11_line_61) (ok_lf pc ok_X11_line_60)) (ok_bf (ok_lf pc ok_X11_line_59) (ok_lf pc ok_X11_line_58))) (ok_bf (ok_bf (ok_lf pc ok_X11_line_57) (ok_lf pc ok_X11_line_54)) (ok_lf pc ok_X11_line_51))))) (ok_bf (ok_bf (ok_bf (ok_bf (ok_bf (ok_lf pc ok_X11_line_49) (ok_lf pc ok_X11_line_46)) (ok_bf (ok_lf pc ok_X11_line_45) (ok_lf pc ok_X11_line_42))) (ok_bf (ok_bf (ok_lf pc ok_X11_line_41) (ok_lf pc ok_X11_line_40)) (ok_lf pc ok_X11_line_39))) (ok_bf (ok_bf (ok_bf (ok_lf pc ok_X11_line_38) (ok_lf pc ok_X11_line_35)) (ok_bf (ok_lf pc ok_X11_line_32) (ok_lf pc ok_X11_line_31))) (ok_bf (ok_bf (ok_lf pc ok_X11_line_28) (ok_lf pc ok_X11_line_27)) (ok_lf pc ok_X11_line_24)))) (ok_bf (ok_bf (ok_bf (ok_bf (ok_lf pc ok_X11_line_23) (ok_lf pc ok_X11_line_22)) (ok_bf (ok_lf pc ok_X11_line_21) (ok_lf pc ok_X11_line_20))) (ok_bf (ok_bf (ok_lf pc ok_X11_line_17) (ok_lf pc ok_X11_line_14)) (ok_lf pc ok_X11_line_13))) (ok_bf (ok_bf (ok_bf (ok_lf pc ok_X11_line_10) (ok_lf pc ok_X11_line_9)) (ok_bf (ok_lf pc ok_X11_line_6) (ok_lf pc ok_X11_line_3))) (ok_bf (ok_bf (ok_lf pc ok_X11_line_2) (ok_lf pc ok_X11_line_1)) (ok_lf pc ok_X11_line_0))))))
theorem mo_X11_line (pc : Nat) : mo_S (cd_X11_line pc) :=
  (mo_bf (mo_bf (mo_bf (mo_bf (mo_bf (mo_bf (mo_bf mo_ret mo_no) (mo_bf mo_cv mo_no)) (mo_bf (mo_bf mo_ld mo_no) (mo_bf mo_ld mo_no))) (mo_bf (mo_bf (mo_bf mo_ld mo_no) (mo_bf mo_ld mo_no)) (mo_bf (mo_bf mo_gr mo_no) (mo_bf mo_ld mo_no)))) (mo_bf (mo_bf (mo_bf (mo_bf mo_ret mo_no) (mo_bf mo_push mo_no)) (mo_bf (mo_bf mo_ic mo_no) (mo_bf mo_push mo_no))) (mo_bf (mo_bf (mo_bf mo_gi mo_no) (mo_bf mo_gr mo_no)) (mo_bf mo_ld mo_no)))) (mo_bf (mo_bf (mo_bf (mo_bf (mo_bf mo_ret mo_no) (mo_bf mo_push mo_no)) (mo_bf (mo_bf mo_if mo_no) (mo_bf mo_cs mo_no))) (mo_bf (mo_bf (mo_bf mo_push mo_no) (mo_bf mo_push mo_no)) (mo_bf mo_ld mo_no))) (mo_bf (mo_bf (mo_bf (mo_bf mo_ic mo_no) (mo_bf mo_push mo_no)) (mo_bf (mo_bf mo_ld mo_no) (mo_bf mo_ret mo_no))) (mo_bf (mo_bf (mo_bf mo_push mo_no) (mo_bf mo_nul mo_no)) (mo_bf mo_cv mo_no))))) (mo_bf (mo_bf (mo_bf (mo_bf (mo_bf (mo_bf mo_ld mo_no) (mo_bf mo_gr mo_no)) (mo_bf (mo_bf mo_ld mo_no) (mo_bf mo_ic mo_no))) (mo_bf (mo_bf (mo_bf mo_push mo_no) (mo_bf mo_ld mo_no)) (mo_bf mo_ret mo_no))) (mo_bf (mo_bf (mo_bf (mo_bf mo_push mo_no) (mo_bf mo_nul mo_no)) (mo_bf (mo_bf mo_cv mo_no) (mo_bf mo_ld mo_no))) (mo_bf (mo_bf (mo_bf mo_gr mo_no) (mo_bf mo_ld mo_no)) (mo_bf mo_ic mo_no)))) (mo_bf (mo_bf (mo_bf (mo_bf (mo_bf mo_push mo_no) (mo_bf mo_ld mo_no)) (mo_bf (mo_bf mo_ret mo_no) (mo_bf mo_push mo_no))) (mo_bf (mo_bf (mo_bf mo_nul mo_no) (mo_bf mo_cv mo_no)) (mo_bf mo_ld mo_no))) (mo_bf (mo_bf (mo_bf (mo_bf mo_gr mo_no) (mo_bf mo_ld mo_no)) (mo_bf (mo_bf mo_if mo_no) (mo_bf mo_cs mo_no))) (mo_bf (mo_bf (mo_bf mo_push mo_no) (mo_bf mo_push mo_no)) (mo_bf mo_ld mo_no))))))
theorem ok_X11_lineOf_0 : ok_S 110 0 (sf_ld 0 1 1) := ok_iload_n (by decide +kernel : decode (mb_ 110) 0 = .ok (.iload_n 1, 1)) rfl
theorem ok_X11_lineOf_1 : ok_S 110 1 (sf_push (0, 0) 2) := ok_iconst (by decide +kernel : decode (mb_ 110) 1 = .ok (.iconst 0, 1)) ⟨by decide, by decide⟩
theorem ok_X11_lineOf_2 : ok_S 110 2 (sf_ld 2 0 3) := ok_aload_n (by decide +kernel : decode (mb_ 110) 2 = .ok (.aload_n 0, 1)) rfl
theorem ok_X11_lineOf_3 : ok_S 110 3 (sf_gr 7 7 3 6) := ok_gr fd_7_3 (by decide +kernel : decode (mb_ 110) 3 = .ok (.getfield 28, 3)) tw_209 (Or.inl rfl) rfl
theorem ok_X11_lineOf_6 : ok_S 110 6 (sf_gi 8 8 4 9) := ok_gi fd_8_4 (by decide +kernel : decode (mb_ 110) 6 = .ok (.getfield 171, 3)) tw_61 (Or.inl rfl) rfl
theorem ok_X11_lineOf_9 : ok_S 110 9 (sf_push (0, 1) 10) := ok_iconst (by decide +kernel : decode (mb_ 110) 9 = .ok (.iconst 1, 1)) ⟨by decide, by decide⟩
theorem ok_X11_lineOf_10 : ok_S 110 10 (sf_i2 mx_sub 11) := ok_isub (by decide +kernel : decode (mb_ 110) 10 = .ok (.isub, 1))
theorem ok_X11_lineOf_11 : ok_S 110 11 (sf_cs [0, 0, 0] 145 14) := ok_cs mt_145 (by decide +kernel : decode (mb_ 110) 11 = .ok (.invokestatic 92, 3)) tw_262 tw_263 tw_1 (by decide +kernel) (mh_ok rfl) (by decide) (by decide)
theorem ok_X11_lineOf_14 : ok_S 110 14 (sf_if 0 26 17) := ok_if0 (by decide +kernel : decode (mb_ 110) 14 = .ok (.ifCond .eq 12, 3)) (by decide)
theorem ok_X11_lineOf_17 : ok_S 110 17 (sf_ld 0 2 18) := ok_iload_n (by decide +kernel : decode (mb_ 110) 17 = .ok (.iload_n 2, 1)) rfl
theorem ok_X11_lineOf_18 : ok_S 110 18 (sf_push (0, 0) 19) := ok_iconst (by decide +kernel : decode (mb_ 110) 18 = .ok (.iconst 0, 1)) ⟨by decide, by decide⟩
theorem ok_X11_lineOf_19 : ok_S 110 19 (sf_push (0, 3) 20) := ok_iconst (by decide +kernel : decode (mb_ 110) 19 = .ok (.iconst 3, 1)) ⟨by decide, by decide⟩
theorem ok_X11_lineOf_20 : ok_S 110 20 (sf_cs [0, 0, 0] 145 23) := ok_cs mt_145 (by decide +kernel : decode (mb_ 110) 20 = .ok (.invokestatic 92, 3)) tw_262 tw_263 tw_1 (by decide +kernel) (mh_ok rfl) (by decide) (by decide)
theorem ok_X11_lineOf_23 : ok_S 110 23 (sf_if 1 28 26) := ok_if1 (by decide +kernel : decode (mb_ 110) 23 = .ok (.ifCond .ne 5, 3)) (by decide)
theorem ok_X11_lineOf_26 : ok_S 110 26 (sf_push (0, (-1)) 27) := ok_iconst (by decide +kernel : decode (mb_ 110) 26 = .ok (.iconst (-1), 1)) ⟨by decide, by decide⟩
theorem ok_X11_lineOf_27 : ok_S 110 27 (sf_ret 0) := ok_ret0 (by decide +kernel : decode (mb_ 110) 27 = .ok (.ireturn, 1)) rfl
theorem ok_X11_lineOf_28 : ok_S 110 28 (sf_ld 2 0 29) := ok_aload_n (by decide +kernel : decode (mb_ 110) 28 = .ok (.aload_n 0, 1)) rfl
theorem ok_X11_lineOf_29 : ok_S 110 29 (sf_gr 7 7 3 32) := ok_gr fd_7_3 (by decide +kernel : decode (mb_ 110) 29 = .ok (.getfield 28, 3)) tw_209 (Or.inl rfl) rfl
theorem ok_X11_lineOf_32 : ok_S 110 32 (sf_gr 8 8 2 35) := ok_gr fd_8_2 (by decide +kernel : decode (mb_ 110) 32 = .ok (.getfield 178, 3)) tw_52 (Or.inl rfl) rfl
theorem ok_X11_lineOf_35 : ok_S 110 35 (sf_ld 0 1 36) := ok_iload_n (by decide +kernel : decode (mb_ 110) 35 = .ok (.iload_n 1, 1)) rfl
theorem ok_X11_lineOf_36 : ok_S 110 36 (sf_push (0, 4) 37) := ok_iconst (by decide +kernel : decode (mb_ 110) 36 = .ok (.iconst 4, 1)) ⟨by decide, by decide⟩
theorem ok_X11_lineOf_37 : ok_S 110 37 (sf_i2 mx_mul 38) := ok_imul (by decide +kernel : decode (mb_ 110) 37 = .ok (.imul, 1))
theorem ok_X11_lineOf_38 : ok_S 110 38 (sf_ld 0 2 39) := ok_iload_n (by decide +kernel : decode (mb_ 110) 38 = .ok (.iload_n 2, 1)) rfl
theorem ok_X11_lineOf_39 : ok_S 110 39 (sf_i2 mx_add 40) := ok_iadd (by decide +kernel : decode (mb_ 110) 39 = .ok (.iadd, 1))
theorem ok_X11_lineOf_40 : ok_S 110 40 (sf_iald 41) := ok_iald (by decide +kernel : decode (mb_ 110) 40 = .ok (.iaload, 1))
theorem ok_X11_lineOf_41 : ok_S 110 41 (sf_ret 0) := ok_ret0 (by decide +kernel : decode (mb_ 110) 41 = .ok (.ireturn, 1)) rfl
theorem ok_X11_lineOf (pc : Nat) : ok_S 110 pc (cd_X11_lineOf pc) :=
  (ok_bf (ok_bf (ok_bf (ok_bf (ok_bf (ok_lf pc ok_X11_lineOf_41) (ok_lf pc ok_X11_lineOf_40)) (ok_bf (ok_lf pc ok_X11_lineOf_39) (ok_lf pc ok_X11_lineOf_38))) (ok_bf (ok_bf (ok_lf pc ok_X11_lineOf_37) (ok_lf pc ok_X11_lineOf_36)) (ok_lf pc ok_X11_lineOf_35))) (ok_bf (ok_bf (ok_bf (ok_lf pc ok_X11_lineOf_32) (ok_lf pc ok_X11_lineOf_29)) (ok_lf pc ok_X11_lineOf_28)) (ok_bf (ok_bf (ok_lf pc ok_X11_lineOf_27) (ok_lf pc ok_X11_lineOf_26)) (ok_lf pc ok_X11_lineOf_23)))) (ok_bf (ok_bf (ok_bf (ok_bf (ok_lf pc ok_X11_lineOf_20) (ok_lf pc ok_X11_lineOf_19)) (ok_bf (ok_lf pc ok_X11_lineOf_18) (ok_lf pc ok_X11_lineOf_17))) (ok_bf (ok_bf (ok_lf pc ok_X11_lineOf_14) (ok_lf pc ok_X11_lineOf_11)) (ok_lf pc ok_X11_lineOf_10))) (ok_bf (ok_bf (ok_bf (ok_lf pc ok_X11_lineOf_9) (ok_lf pc ok_X11_lineOf_6)) (ok_lf pc ok_X11_lineOf_3)) (ok_bf (ok_bf (ok_lf pc ok_X11_lineOf_2) (ok_lf pc ok_X11_lineOf_1)) (ok_lf pc ok_X11_lineOf_0)))))
theorem mo_X11_lineOf (pc : Nat) : mo_S (cd_X11_lineOf pc) :=
  (mo_bf (mo_bf (mo_bf (mo_bf (mo_bf (mo_bf mo_ret mo_no) (mo_bf mo_iald mo_no)) (mo_bf (mo_bf mo_i2 mo_no) (mo_bf mo_ld mo_no))) (mo_bf (mo_bf (mo_bf mo_i2 mo_no) (mo_bf mo_push mo_no)) (mo_bf mo_ld mo_no))) (mo_bf (mo_bf (mo_bf (mo_bf mo_gr mo_no) (mo_bf mo_gr mo_no)) (mo_bf mo_ld mo_no)) (mo_bf (mo_bf (mo_bf mo_ret mo_no) (mo_bf mo_push mo_no)) (mo_bf mo_if mo_no)))) (mo_bf (mo_bf (mo_bf (mo_bf (mo_bf mo_cs mo_no) (mo_bf mo_push mo_no)) (mo_bf (mo_bf mo_push mo_no) (mo_bf mo_ld mo_no))) (mo_bf (mo_bf (mo_bf mo_if mo_no) (mo_bf mo_cs mo_no)) (mo_bf mo_i2 mo_no))) (mo_bf (mo_bf (mo_bf (mo_bf mo_push mo_no) (mo_bf mo_gi mo_no)) (mo_bf mo_gr mo_no)) (mo_bf (mo_bf (mo_bf mo_ld mo_no) (mo_bf mo_push mo_no)) (mo_bf mo_ld mo_no)))))
theorem ok_X11_strike_0 : ok_S 111 0 (sf_ld 0 1 1) := ok_iload_n (by decide +kernel : decode (mb_ 111) 0 = .ok (.iload_n 1, 1)) rfl
theorem ok_X11_strike_1 : ok_S 111 1 (sf_push (0, 0) 2) := ok_iconst (by decide +kernel : decode (mb_ 111) 1 = .ok (.iconst 0, 1)) ⟨by decide, by decide⟩
theorem ok_X11_strike_2 : ok_S 111 2 (sf_ld 2 0 3) := ok_aload_n (by decide +kernel : decode (mb_ 111) 2 = .ok (.aload_n 0, 1)) rfl
theorem ok_X11_strike_3 : ok_S 111 3 (sf_gr 7 7 3 6) := ok_gr fd_7_3 (by decide +kernel : decode (mb_ 111) 3 = .ok (.getfield 28, 3)) tw_209 (Or.inl rfl) rfl
theorem ok_X11_strike_6 : ok_S 111 6 (sf_gi 8 8 4 9) := ok_gi fd_8_4 (by decide +kernel : decode (mb_ 111) 6 = .ok (.getfield 171, 3)) tw_61 (Or.inl rfl) rfl
theorem ok_X11_strike_9 : ok_S 111 9 (sf_push (0, 1) 10) := ok_iconst (by decide +kernel : decode (mb_ 111) 9 = .ok (.iconst 1, 1)) ⟨by decide, by decide⟩
theorem ok_X11_strike_10 : ok_S 111 10 (sf_i2 mx_sub 11) := ok_isub (by decide +kernel : decode (mb_ 111) 10 = .ok (.isub, 1))
theorem ok_X11_strike_11 : ok_S 111 11 (sf_cs [0, 0, 0] 145 14) := ok_cs mt_145 (by decide +kernel : decode (mb_ 111) 11 = .ok (.invokestatic 92, 3)) tw_262 tw_263 tw_1 (by decide +kernel) (mh_ok rfl) (by decide) (by decide)
theorem ok_X11_strike_14 : ok_S 111 14 (sf_if 1 19 17) := ok_if1 (by decide +kernel : decode (mb_ 111) 14 = .ok (.ifCond .ne 5, 3)) (by decide)
theorem ok_X11_strike_17 : ok_S 111 17 (sf_push (0, (-1)) 18) := ok_iconst (by decide +kernel : decode (mb_ 111) 17 = .ok (.iconst (-1), 1)) ⟨by decide, by decide⟩
theorem ok_X11_strike_18 : ok_S 111 18 (sf_ret 0) := ok_ret0 (by decide +kernel : decode (mb_ 111) 18 = .ok (.ireturn, 1)) rfl
theorem ok_X11_strike_19 : ok_S 111 19 (sf_ld 2 0 20) := ok_aload_n (by decide +kernel : decode (mb_ 111) 19 = .ok (.aload_n 0, 1)) rfl
theorem ok_X11_strike_20 : ok_S 111 20 (sf_gr 7 7 3 23) := ok_gr fd_7_3 (by decide +kernel : decode (mb_ 111) 20 = .ok (.getfield 28, 3)) tw_209 (Or.inl rfl) rfl
theorem ok_X11_strike_23 : ok_S 111 23 (sf_ld 0 1 24) := ok_iload_n (by decide +kernel : decode (mb_ 111) 23 = .ok (.iload_n 1, 1)) rfl
theorem ok_X11_strike_24 : ok_S 111 24 (sf_cv 8 [2, 0] 93 27) := ok_cv mt_93 cl_8 (by decide +kernel : decode (mb_ 111) 24 = .ok (.invokevirtual 181, 3)) tw_683 tw_684 tw_685 tw_3 rfl (by decide +kernel) (mh_ok rfl) (by decide) (by decide)
theorem ok_X11_strike_27 : ok_S 111 27 (sf_ret 0) := ok_ret0 (by decide +kernel : decode (mb_ 111) 27 = .ok (.ireturn, 1)) rfl
theorem ok_X11_strike (pc : Nat) : ok_S 111 pc (cd_X11_strike pc) :=
  (ok_bf (ok_bf (ok_bf (ok_bf (ok_lf pc ok_X11_strike_27) (ok_lf pc ok_X11_strike_24)) (ok_bf (ok_lf pc ok_X11_strike_23) (ok_lf pc ok_X11_strike_20))) (ok_bf (ok_bf (ok_lf pc ok_X11_strike_19) (ok_lf pc ok_X11_strike_18)) (ok_bf (ok_lf pc ok_X11_strike_17) (ok_lf pc ok_X11_strike_14)))) (ok_bf (ok_bf (ok_bf (ok_lf pc ok_X11_strike_11) (ok_lf pc ok_X11_strike_10)) (ok_bf (ok_lf pc ok_X11_strike_9) (ok_lf pc ok_X11_strike_6))) (ok_bf (ok_bf (ok_lf pc ok_X11_strike_3) (ok_lf pc ok_X11_strike_2)) (ok_bf (ok_lf pc ok_X11_strike_1) (ok_lf pc ok_X11_strike_0)))))
theorem mo_X11_strike (pc : Nat) : mo_S (cd_X11_strike pc) :=
  (mo_bf (mo_bf (mo_bf (mo_bf (mo_bf mo_ret mo_no) (mo_bf mo_cv mo_no)) (mo_bf (mo_bf mo_ld mo_no) (mo_bf mo_gr mo_no))) (mo_bf (mo_bf (mo_bf mo_ld mo_no) (mo_bf mo_ret mo_no)) (mo_bf (mo_bf mo_push mo_no) (mo_bf mo_if mo_no)))) (mo_bf (mo_bf (mo_bf (mo_bf mo_cs mo_no) (mo_bf mo_i2 mo_no)) (mo_bf (mo_bf mo_push mo_no) (mo_bf mo_gi mo_no))) (mo_bf (mo_bf (mo_bf mo_gr mo_no) (mo_bf mo_ld mo_no)) (mo_bf (mo_bf mo_push mo_no) (mo_bf mo_ld mo_no)))))
theorem ok_X11_worlds_0 : ok_S 112 0 (sf_ld 2 0 1) := ok_aload_n (by decide +kernel : decode (mb_ 112) 0 = .ok (.aload_n 0, 1)) rfl
theorem ok_X11_worlds_1 : ok_S 112 1 (sf_gr 7 7 2 4) := ok_gr fd_7_2 (by decide +kernel : decode (mb_ 112) 1 = .ok (.getfield 20, 3)) tw_208 (Or.inl rfl) rfl
theorem ok_X11_worlds_4 : ok_S 112 4 (sf_cv 9 [2] 13 7) := ok_cv mt_13 cl_9 (by decide +kernel : decode (mb_ 112) 4 = .ok (.invokevirtual 184, 3)) tw_691 tw_692 tw_693 tw_2 rfl (by decide +kernel) (mh_ok rfl) (by decide) (by decide)
theorem ok_X11_worlds_7 : ok_S 112 7 (sf_ret 0) := ok_ret0 (by decide +kernel : decode (mb_ 112) 7 = .ok (.ireturn, 1)) rfl
theorem ok_X11_worlds (pc : Nat) : ok_S 112 pc (cd_X11_worlds pc) :=
  (ok_bf (ok_bf (ok_lf pc ok_X11_worlds_7) (ok_lf pc ok_X11_worlds_4)) (ok_bf (ok_lf pc ok_X11_worlds_1) (ok_lf pc ok_X11_worlds_0)))
theorem mo_X11_worlds (pc : Nat) : mo_S (cd_X11_worlds pc) :=
  (mo_bf (mo_bf (mo_bf mo_ret mo_no) (mo_bf mo_cv mo_no)) (mo_bf (mo_bf mo_gr mo_no) (mo_bf mo_ld mo_no)))
theorem ok_X11_world_0 : ok_S 113 0 (sf_ld 0 2 1) := ok_iload_n (by decide +kernel : decode (mb_ 113) 0 = .ok (.iload_n 2, 1)) rfl
theorem ok_X11_world_1 : ok_S 113 1 (sf_cs [0] 146 4) := ok_cs mt_146 (by decide +kernel : decode (mb_ 113) 1 = .ok (.invokestatic 113, 3)) tw_549 tw_550 tw_1 (by decide +kernel) (mh_ok rfl) (by decide) (by decide)
theorem ok_X11_world_4 : ok_S 113 4 (sf_if 1 9 7) := ok_if1 (by decide +kernel : decode (mb_ 113) 4 = .ok (.ifCond .ne 5, 3)) (by decide)
theorem ok_X11_world_7 : ok_S 113 7 (sf_push (0, (-1)) 8) := ok_iconst (by decide +kernel : decode (mb_ 113) 7 = .ok (.iconst (-1), 1)) ⟨by decide, by decide⟩
theorem ok_X11_world_8 : ok_S 113 8 (sf_ret 0) := ok_ret0 (by decide +kernel : decode (mb_ 113) 8 = .ok (.ireturn, 1)) rfl
theorem ok_X11_world_9 : ok_S 113 9 (sf_ld 2 0 10) := ok_aload_n (by decide +kernel : decode (mb_ 113) 9 = .ok (.aload_n 0, 1)) rfl
theorem ok_X11_world_10 : ok_S 113 10 (sf_gr 7 7 2 13) := ok_gr fd_7_2 (by decide +kernel : decode (mb_ 113) 10 = .ok (.getfield 20, 3)) tw_208 (Or.inl rfl) rfl
theorem ok_X11_world_13 : ok_S 113 13 (sf_ld 0 1 14) := ok_iload_n (by decide +kernel : decode (mb_ 113) 13 = .ok (.iload_n 1, 1)) rfl
theorem ok_X11_world_14 : ok_S 113 14 (sf_cv 9 [2, 0] 15 17) := ok_cv mt_15 cl_9 (by decide +kernel : decode (mb_ 113) 14 = .ok (.invokevirtual 187, 3)) tw_761 tw_762 tw_763 tw_2 rfl (by decide +kernel) (mh_ok rfl) (by decide) (by decide)
theorem ok_X11_world_17 : ok_S 113 17 (sf_if 0 32 20) := ok_if0 (by decide +kernel : decode (mb_ 113) 17 = .ok (.ifCond .eq 15, 3)) (by decide)
theorem ok_X11_world_20 : ok_S 113 20 (sf_ld 2 0 21) := ok_aload_n (by decide +kernel : decode (mb_ 113) 20 = .ok (.aload_n 0, 1)) rfl
theorem ok_X11_world_21 : ok_S 113 21 (sf_gr 7 7 2 24) := ok_gr fd_7_2 (by decide +kernel : decode (mb_ 113) 21 = .ok (.getfield 20, 3)) tw_208 (Or.inl rfl) rfl
theorem ok_X11_world_24 : ok_S 113 24 (sf_gr 9 9 1 27) := ok_gr fd_9_1 (by decide +kernel : decode (mb_ 113) 24 = .ok (.getfield 190, 3)) tw_85 (Or.inl rfl) rfl
theorem ok_X11_world_27 : ok_S 113 27 (sf_ld 0 2 28) := ok_iload_n (by decide +kernel : decode (mb_ 113) 27 = .ok (.iload_n 2, 1)) rfl
theorem ok_X11_world_28 : ok_S 113 28 (sf_iald 29) := ok_iald (by decide +kernel : decode (mb_ 113) 28 = .ok (.iaload, 1))
theorem ok_X11_world_29 : ok_S 113 29 (sf_go 34) := ok_goto (by decide +kernel : decode (mb_ 113) 29 = .ok (.goto 5, 3)) (by decide)
theorem ok_X11_world_32 : ok_S 113 32 (sf_push (0, (-3)) 34) := ok_bipush (by decide +kernel : decode (mb_ 113) 32 = .ok (.bipush (-3), 2)) ⟨by decide, by decide⟩ (by decide +kernel)
theorem ok_X11_world_34 : ok_S 113 34 (sf_ret 0) := ok_ret0 (by decide +kernel : decode (mb_ 113) 34 = .ok (.ireturn, 1)) rfl
theorem ok_X11_world (pc : Nat) : ok_S 113 pc (cd_X11_world pc) :=
  (ok_bf (ok_bf (ok_bf (ok_bf (ok_bf (ok_lf pc ok_X11_world_34) (ok_lf pc ok_X11_world_32)) (ok_lf pc ok_X11_world_29)) (ok_bf (ok_lf pc ok_X11_world_28) (ok_lf pc ok_X11_world_27))) (ok_bf (ok_bf (ok_lf pc ok_X11_world_24) (ok_lf pc ok_X11_world_21)) (ok_bf (ok_lf pc ok_X11_world_20) (ok_lf pc ok_X11_world_17)))) (ok_bf (ok_bf (ok_bf (ok_bf (ok_lf pc ok_X11_world_14) (ok_lf pc ok_X11_world_13)) (ok_lf pc ok_X11_world_10)) (ok_bf (ok_lf pc ok_X11_world_9) (ok_lf pc ok_X11_world_8))) (ok_bf (ok_bf (ok_lf pc ok_X11_world_7) (ok_lf pc ok_X11_world_4)) (ok_bf (ok_lf pc ok_X11_world_1) (ok_lf pc ok_X11_world_0)))))
theorem mo_X11_world (pc : Nat) : mo_S (cd_X11_world pc) :=
  (mo_bf (mo_bf (mo_bf (mo_bf (mo_bf (mo_bf mo_ret mo_no) (mo_bf mo_push mo_no)) (mo_bf mo_go mo_no)) (mo_bf (mo_bf mo_iald mo_no) (mo_bf mo_ld mo_no))) (mo_bf (mo_bf (mo_bf mo_gr mo_no) (mo_bf mo_gr mo_no)) (mo_bf (mo_bf mo_ld mo_no) (mo_bf mo_if mo_no)))) (mo_bf (mo_bf (mo_bf (mo_bf (mo_bf mo_cv mo_no) (mo_bf mo_ld mo_no)) (mo_bf mo_gr mo_no)) (mo_bf (mo_bf mo_ld mo_no) (mo_bf mo_ret mo_no))) (mo_bf (mo_bf (mo_bf mo_push mo_no) (mo_bf mo_if mo_no)) (mo_bf (mo_bf mo_cs mo_no) (mo_bf mo_ld mo_no)))))
theorem ok_X11_may_0 : ok_S 114 0 (sf_ld 0 1 1) := ok_iload_n (by decide +kernel : decode (mb_ 114) 0 = .ok (.iload_n 1, 1)) rfl
theorem ok_X11_may_1 : ok_S 114 1 (sf_cs [0] 146 4) := ok_cs mt_146 (by decide +kernel : decode (mb_ 114) 1 = .ok (.invokestatic 113, 3)) tw_549 tw_550 tw_1 (by decide +kernel) (mh_ok rfl) (by decide) (by decide)
theorem ok_X11_may_4 : ok_S 114 4 (sf_if 0 18 7) := ok_if0 (by decide +kernel : decode (mb_ 114) 4 = .ok (.ifCond .eq 14, 3)) (by decide)
theorem ok_X11_may_7 : ok_S 114 7 (sf_ld 2 0 8) := ok_aload_n (by decide +kernel : decode (mb_ 114) 7 = .ok (.aload_n 0, 1)) rfl
theorem ok_X11_may_8 : ok_S 114 8 (sf_gr 7 7 2 11) := ok_gr fd_7_2 (by decide +kernel : decode (mb_ 114) 8 = .ok (.getfield 20, 3)) tw_208 (Or.inl rfl) rfl
theorem ok_X11_may_11 : ok_S 114 11 (sf_ld 0 1 12) := ok_iload_n (by decide +kernel : decode (mb_ 114) 11 = .ok (.iload_n 1, 1)) rfl
theorem ok_X11_may_12 : ok_S 114 12 (sf_cv 9 [2, 0] 14 15) := ok_cv mt_14 cl_9 (by decide +kernel : decode (mb_ 114) 12 = .ok (.invokevirtual 193, 3)) tw_772 tw_773 tw_774 tw_2 rfl (by decide +kernel) (mh_ok rfl) (by decide) (by decide)
theorem ok_X11_may_15 : ok_S 114 15 (sf_go 19) := ok_goto (by decide +kernel : decode (mb_ 114) 15 = .ok (.goto 4, 3)) (by decide)
theorem ok_X11_may_18 : ok_S 114 18 (sf_push (0, (-1)) 19) := ok_iconst (by decide +kernel : decode (mb_ 114) 18 = .ok (.iconst (-1), 1)) ⟨by decide, by decide⟩
theorem ok_X11_may_19 : ok_S 114 19 (sf_ret 0) := ok_ret0 (by decide +kernel : decode (mb_ 114) 19 = .ok (.ireturn, 1)) rfl
theorem ok_X11_may (pc : Nat) : ok_S 114 pc (cd_X11_may pc) :=
  (ok_bf (ok_bf (ok_bf (ok_bf (ok_lf pc ok_X11_may_19) (ok_lf pc ok_X11_may_18)) (ok_lf pc ok_X11_may_15)) (ok_bf (ok_lf pc ok_X11_may_12) (ok_lf pc ok_X11_may_11))) (ok_bf (ok_bf (ok_bf (ok_lf pc ok_X11_may_8) (ok_lf pc ok_X11_may_7)) (ok_lf pc ok_X11_may_4)) (ok_bf (ok_lf pc ok_X11_may_1) (ok_lf pc ok_X11_may_0))))
theorem mo_X11_may (pc : Nat) : mo_S (cd_X11_may pc) :=
  (mo_bf (mo_bf (mo_bf (mo_bf (mo_bf mo_ret mo_no) (mo_bf mo_push mo_no)) (mo_bf mo_go mo_no)) (mo_bf (mo_bf mo_cv mo_no) (mo_bf mo_ld mo_no))) (mo_bf (mo_bf (mo_bf (mo_bf mo_gr mo_no) (mo_bf mo_ld mo_no)) (mo_bf mo_if mo_no)) (mo_bf (mo_bf mo_cs mo_no) (mo_bf mo_ld mo_no))))
theorem ok_X11_sure_0 : ok_S 115 0 (sf_ld 0 1 1) := ok_iload_n (by decide +kernel : decode (mb_ 115) 0 = .ok (.iload_n 1, 1)) rfl
theorem ok_X11_sure_1 : ok_S 115 1 (sf_cs [0] 146 4) := ok_cs mt_146 (by decide +kernel : decode (mb_ 115) 1 = .ok (.invokestatic 113, 3)) tw_549 tw_550 tw_1 (by decide +kernel) (mh_ok rfl) (by decide) (by decide)
theorem ok_X11_sure_4 : ok_S 115 4 (sf_if 1 9 7) := ok_if1 (by decide +kernel : decode (mb_ 115) 4 = .ok (.ifCond .ne 5, 3)) (by decide)
theorem ok_X11_sure_7 : ok_S 115 7 (sf_push (0, (-1)) 8) := ok_iconst (by decide +kernel : decode (mb_ 115) 7 = .ok (.iconst (-1), 1)) ⟨by decide, by decide⟩
theorem ok_X11_sure_8 : ok_S 115 8 (sf_ret 0) := ok_ret0 (by decide +kernel : decode (mb_ 115) 8 = .ok (.ireturn, 1)) rfl
theorem ok_X11_sure_9 : ok_S 115 9 (sf_ld 2 0 10) := ok_aload_n (by decide +kernel : decode (mb_ 115) 9 = .ok (.aload_n 0, 1)) rfl
theorem ok_X11_sure_10 : ok_S 115 10 (sf_gr 7 7 2 13) := ok_gr fd_7_2 (by decide +kernel : decode (mb_ 115) 10 = .ok (.getfield 20, 3)) tw_208 (Or.inl rfl) rfl
theorem ok_X11_sure_13 : ok_S 115 13 (sf_ld 0 1 14) := ok_iload_n (by decide +kernel : decode (mb_ 115) 13 = .ok (.iload_n 1, 1)) rfl
theorem ok_X11_sure_14 : ok_S 115 14 (sf_cv 9 [2, 0] 14 17) := ok_cv mt_14 cl_9 (by decide +kernel : decode (mb_ 115) 14 = .ok (.invokevirtual 193, 3)) tw_772 tw_773 tw_774 tw_2 rfl (by decide +kernel) (mh_ok rfl) (by decide) (by decide)
theorem ok_X11_sure_17 : ok_S 115 17 (sf_st 0 2 18) := ok_istore_n (by decide +kernel : decode (mb_ 115) 17 = .ok (.istore_n 2, 1)) rfl
theorem ok_X11_sure_18 : ok_S 115 18 (sf_ld 0 2 19) := ok_iload_n (by decide +kernel : decode (mb_ 115) 18 = .ok (.iload_n 2, 1)) rfl
theorem ok_X11_sure_19 : ok_S 115 19 (sf_cs [0] 248 22) := ok_cs mt_248 (by decide +kernel : decode (mb_ 115) 19 = .ok (.invokestatic 196, 3)) tw_780 tw_752 tw_20 (by decide +kernel) (mh_ok rfl) (by decide) (by decide)
theorem ok_X11_sure_22 : ok_S 115 22 (sf_push (0, 1) 23) := ok_iconst (by decide +kernel : decode (mb_ 115) 22 = .ok (.iconst 1, 1)) ⟨by decide, by decide⟩
theorem ok_X11_sure_23 : ok_S 115 23 (sf_ic 1 34 26) := ok_ic1 (by decide +kernel : decode (mb_ 115) 23 = .ok (.if_icmp .ne 11, 3)) (by decide)
theorem ok_X11_sure_26 : ok_S 115 26 (sf_ld 0 2 27) := ok_iload_n (by decide +kernel : decode (mb_ 115) 26 = .ok (.iload_n 2, 1)) rfl
theorem ok_X11_sure_27 : ok_S 115 27 (sf_push (0, 0) 28) := ok_iconst (by decide +kernel : decode (mb_ 115) 27 = .ok (.iconst 0, 1)) ⟨by decide, by decide⟩
theorem ok_X11_sure_28 : ok_S 115 28 (sf_cs [0, 0] 151 31) := ok_cs mt_151 (by decide +kernel : decode (mb_ 115) 28 = .ok (.invokestatic 201, 3)) tw_781 tw_766 tw_1 (by decide +kernel) (mh_ok rfl) (by decide) (by decide)
theorem ok_X11_sure_31 : ok_S 115 31 (sf_go 36) := ok_goto (by decide +kernel : decode (mb_ 115) 31 = .ok (.goto 5, 3)) (by decide)
theorem ok_X11_sure_34 : ok_S 115 34 (sf_push (0, (-3)) 36) := ok_bipush (by decide +kernel : decode (mb_ 115) 34 = .ok (.bipush (-3), 2)) ⟨by decide, by decide⟩ (by decide +kernel)
theorem ok_X11_sure_36 : ok_S 115 36 (sf_ret 0) := ok_ret0 (by decide +kernel : decode (mb_ 115) 36 = .ok (.ireturn, 1)) rfl
theorem ok_X11_sure (pc : Nat) : ok_S 115 pc (cd_X11_sure pc) :=
  (ok_bf (ok_bf (ok_bf (ok_bf (ok_bf (ok_lf pc ok_X11_sure_36) (ok_lf pc ok_X11_sure_34)) (ok_lf pc ok_X11_sure_31)) (ok_bf (ok_lf pc ok_X11_sure_28) (ok_lf pc ok_X11_sure_27))) (ok_bf (ok_bf (ok_bf (ok_lf pc ok_X11_sure_26) (ok_lf pc ok_X11_sure_23)) (ok_lf pc ok_X11_sure_22)) (ok_bf (ok_lf pc ok_X11_sure_19) (ok_lf pc ok_X11_sure_18)))) (ok_bf (ok_bf (ok_bf (ok_bf (ok_lf pc ok_X11_sure_17) (ok_lf pc ok_X11_sure_14)) (ok_lf pc ok_X11_sure_13)) (ok_bf (ok_lf pc ok_X11_sure_10) (ok_lf pc ok_X11_sure_9))) (ok_bf (ok_bf (ok_bf (ok_lf pc ok_X11_sure_8) (ok_lf pc ok_X11_sure_7)) (ok_lf pc ok_X11_sure_4)) (ok_bf (ok_lf pc ok_X11_sure_1) (ok_lf pc ok_X11_sure_0)))))
theorem mo_X11_sure (pc : Nat) : mo_S (cd_X11_sure pc) :=
  (mo_bf (mo_bf (mo_bf (mo_bf (mo_bf (mo_bf mo_ret mo_no) (mo_bf mo_push mo_no)) (mo_bf mo_go mo_no)) (mo_bf (mo_bf mo_cs mo_no) (mo_bf mo_push mo_no))) (mo_bf (mo_bf (mo_bf (mo_bf mo_ld mo_no) (mo_bf mo_ic mo_no)) (mo_bf mo_push mo_no)) (mo_bf (mo_bf mo_cs mo_no) (mo_bf mo_ld mo_no)))) (mo_bf (mo_bf (mo_bf (mo_bf (mo_bf mo_st mo_no) (mo_bf mo_cv mo_no)) (mo_bf mo_ld mo_no)) (mo_bf (mo_bf mo_gr mo_no) (mo_bf mo_ld mo_no))) (mo_bf (mo_bf (mo_bf (mo_bf mo_ret mo_no) (mo_bf mo_push mo_no)) (mo_bf mo_if mo_no)) (mo_bf (mo_bf mo_cs mo_no) (mo_bf mo_ld mo_no)))))
theorem ok_X11_holds_0 : ok_S 116 0 (sf_ld 0 1 1) := ok_iload_n (by decide +kernel : decode (mb_ 116) 0 = .ok (.iload_n 1, 1)) rfl
theorem ok_X11_holds_1 : ok_S 116 1 (sf_push (0, 0) 2) := ok_iconst (by decide +kernel : decode (mb_ 116) 1 = .ok (.iconst 0, 1)) ⟨by decide, by decide⟩
theorem ok_X11_holds_2 : ok_S 116 2 (sf_ld 2 0 3) := ok_aload_n (by decide +kernel : decode (mb_ 116) 2 = .ok (.aload_n 0, 1)) rfl
theorem ok_X11_holds_3 : ok_S 116 3 (sf_gr 7 7 3 6) := ok_gr fd_7_3 (by decide +kernel : decode (mb_ 116) 3 = .ok (.getfield 28, 3)) tw_209 (Or.inl rfl) rfl
theorem ok_X11_holds_6 : ok_S 116 6 (sf_gi 8 8 4 9) := ok_gi fd_8_4 (by decide +kernel : decode (mb_ 116) 6 = .ok (.getfield 171, 3)) tw_61 (Or.inl rfl) rfl
theorem ok_X11_holds_9 : ok_S 116 9 (sf_push (0, 1) 10) := ok_iconst (by decide +kernel : decode (mb_ 116) 9 = .ok (.iconst 1, 1)) ⟨by decide, by decide⟩
theorem ok_X11_holds_10 : ok_S 116 10 (sf_i2 mx_sub 11) := ok_isub (by decide +kernel : decode (mb_ 116) 10 = .ok (.isub, 1))
theorem ok_X11_holds_11 : ok_S 116 11 (sf_cs [0, 0, 0] 145 14) := ok_cs mt_145 (by decide +kernel : decode (mb_ 116) 11 = .ok (.invokestatic 92, 3)) tw_262 tw_263 tw_1 (by decide +kernel) (mh_ok rfl) (by decide) (by decide)
theorem ok_X11_holds_14 : ok_S 116 14 (sf_if 0 39 17) := ok_if0 (by decide +kernel : decode (mb_ 116) 14 = .ok (.ifCond .eq 25, 3)) (by decide)
theorem ok_X11_holds_17 : ok_S 116 17 (sf_ld 0 2 18) := ok_iload_n (by decide +kernel : decode (mb_ 116) 17 = .ok (.iload_n 2, 1)) rfl
theorem ok_X11_holds_18 : ok_S 116 18 (sf_cs [0] 147 21) := ok_cs mt_147 (by decide +kernel : decode (mb_ 116) 18 = .ok (.invokestatic 117, 3)) tw_552 tw_553 tw_1 (by decide +kernel) (mh_ok rfl) (by decide) (by decide)
theorem ok_X11_holds_21 : ok_S 116 21 (sf_if 0 39 24) := ok_if0 (by decide +kernel : decode (mb_ 116) 21 = .ok (.ifCond .eq 18, 3)) (by decide)
theorem ok_X11_holds_24 : ok_S 116 24 (sf_ld 0 3 25) := ok_iload_n (by decide +kernel : decode (mb_ 116) 24 = .ok (.iload_n 3, 1)) rfl
theorem ok_X11_holds_25 : ok_S 116 25 (sf_cs [0] 147 28) := ok_cs mt_147 (by decide +kernel : decode (mb_ 116) 25 = .ok (.invokestatic 117, 3)) tw_552 tw_553 tw_1 (by decide +kernel) (mh_ok rfl) (by decide) (by decide)
theorem ok_X11_holds_28 : ok_S 116 28 (sf_if 0 39 31) := ok_if0 (by decide +kernel : decode (mb_ 116) 28 = .ok (.ifCond .eq 11, 3)) (by decide)
theorem ok_X11_holds_31 : ok_S 116 31 (sf_ld 0 4 33) := ok_iload (by decide +kernel : decode (mb_ 116) 31 = .ok (.iload 4, 2))
theorem ok_X11_holds_33 : ok_S 116 33 (sf_cs [0] 147 36) := ok_cs mt_147 (by decide +kernel : decode (mb_ 116) 33 = .ok (.invokestatic 117, 3)) tw_552 tw_553 tw_1 (by decide +kernel) (mh_ok rfl) (by decide) (by decide)
theorem ok_X11_holds_36 : ok_S 116 36 (sf_if 1 41 39) := ok_if1 (by decide +kernel : decode (mb_ 116) 36 = .ok (.ifCond .ne 5, 3)) (by decide)
theorem ok_X11_holds_39 : ok_S 116 39 (sf_push (0, (-1)) 40) := ok_iconst (by decide +kernel : decode (mb_ 116) 39 = .ok (.iconst (-1), 1)) ⟨by decide, by decide⟩
theorem ok_X11_holds_40 : ok_S 116 40 (sf_ret 0) := ok_ret0 (by decide +kernel : decode (mb_ 116) 40 = .ok (.ireturn, 1)) rfl
theorem ok_X11_holds_41 : ok_S 116 41 (sf_ld 2 0 42) := ok_aload_n (by decide +kernel : decode (mb_ 116) 41 = .ok (.aload_n 0, 1)) rfl
theorem ok_X11_holds_42 : ok_S 116 42 (sf_gr 7 7 11 45) := ok_gr fd_7_11 (by decide +kernel : decode (mb_ 116) 42 = .ok (.getfield 61, 3)) tw_217 (Or.inl rfl) rfl
theorem ok_X11_holds_45 : ok_S 116 45 (sf_push (0, 0) 46) := ok_iconst (by decide +kernel : decode (mb_ 116) 45 = .ok (.iconst 0, 1)) ⟨by decide, by decide⟩
theorem ok_X11_holds_46 : ok_S 116 46 (sf_ld 0 2 47) := ok_iload_n (by decide +kernel : decode (mb_ 116) 46 = .ok (.iload_n 2, 1)) rfl
theorem ok_X11_holds_47 : ok_S 116 47 (sf_iast 48) := ok_iast (by decide +kernel : decode (mb_ 116) 47 = .ok (.iastore, 1))
theorem ok_X11_holds_48 : ok_S 116 48 (sf_ld 2 0 49) := ok_aload_n (by decide +kernel : decode (mb_ 116) 48 = .ok (.aload_n 0, 1)) rfl
theorem ok_X11_holds_49 : ok_S 116 49 (sf_gr 7 7 11 52) := ok_gr fd_7_11 (by decide +kernel : decode (mb_ 116) 49 = .ok (.getfield 61, 3)) tw_217 (Or.inl rfl) rfl
theorem ok_X11_holds_52 : ok_S 116 52 (sf_push (0, 1) 53) := ok_iconst (by decide +kernel : decode (mb_ 116) 52 = .ok (.iconst 1, 1)) ⟨by decide, by decide⟩
theorem ok_X11_holds_53 : ok_S 116 53 (sf_ld 0 3 54) := ok_iload_n (by decide +kernel : decode (mb_ 116) 53 = .ok (.iload_n 3, 1)) rfl
theorem ok_X11_holds_54 : ok_S 116 54 (sf_iast 55) := ok_iast (by decide +kernel : decode (mb_ 116) 54 = .ok (.iastore, 1))
theorem ok_X11_holds_55 : ok_S 116 55 (sf_ld 2 0 56) := ok_aload_n (by decide +kernel : decode (mb_ 116) 55 = .ok (.aload_n 0, 1)) rfl
theorem ok_X11_holds_56 : ok_S 116 56 (sf_gr 7 7 11 59) := ok_gr fd_7_11 (by decide +kernel : decode (mb_ 116) 56 = .ok (.getfield 61, 3)) tw_217 (Or.inl rfl) rfl
theorem ok_X11_holds_59 : ok_S 116 59 (sf_push (0, 2) 60) := ok_iconst (by decide +kernel : decode (mb_ 116) 59 = .ok (.iconst 2, 1)) ⟨by decide, by decide⟩
theorem ok_X11_holds_60 : ok_S 116 60 (sf_ld 0 4 62) := ok_iload (by decide +kernel : decode (mb_ 116) 60 = .ok (.iload 4, 2))
theorem ok_X11_holds_62 : ok_S 116 62 (sf_iast 63) := ok_iast (by decide +kernel : decode (mb_ 116) 62 = .ok (.iastore, 1))
theorem ok_X11_holds_63 : ok_S 116 63 (sf_ld 2 0 64) := ok_aload_n (by decide +kernel : decode (mb_ 116) 63 = .ok (.aload_n 0, 1)) rfl
theorem ok_X11_holds_64 : ok_S 116 64 (sf_gr 7 7 3 67) := ok_gr fd_7_3 (by decide +kernel : decode (mb_ 116) 64 = .ok (.getfield 28, 3)) tw_209 (Or.inl rfl) rfl
theorem ok_X11_holds_67 : ok_S 116 67 (sf_ld 0 1 68) := ok_iload_n (by decide +kernel : decode (mb_ 116) 67 = .ok (.iload_n 1, 1)) rfl
theorem ok_X11_holds_68 : ok_S 116 68 (sf_ld 2 0 69) := ok_aload_n (by decide +kernel : decode (mb_ 116) 68 = .ok (.aload_n 0, 1)) rfl
theorem ok_X11_holds_69 : ok_S 116 69 (sf_gr 7 7 11 72) := ok_gr fd_7_11 (by decide +kernel : decode (mb_ 116) 69 = .ok (.getfield 61, 3)) tw_217 (Or.inl rfl) rfl
theorem ok_X11_holds_72 : ok_S 116 72 (sf_cv 8 [2, 0, 2] 94 75) := ok_cv mt_94 cl_8 (by decide +kernel : decode (mb_ 116) 72 = .ok (.invokevirtual 205, 3)) tw_786 tw_787 tw_788 tw_3 rfl (by decide +kernel) (mh_ok rfl) (by decide) (by decide)
theorem ok_X11_holds_75 : ok_S 116 75 (sf_if 0 82 78) := ok_if0 (by decide +kernel : decode (mb_ 116) 75 = .ok (.ifCond .eq 7, 3)) (by decide)
theorem ok_X11_holds_78 : ok_S 116 78 (sf_push (0, 1) 79) := ok_iconst (by decide +kernel : decode (mb_ 116) 78 = .ok (.iconst 1, 1)) ⟨by decide, by decide⟩
theorem ok_X11_holds_79 : ok_S 116 79 (sf_go 83) := ok_goto (by decide +kernel : decode (mb_ 116) 79 = .ok (.goto 4, 3)) (by decide)
theorem ok_X11_holds_82 : ok_S 116 82 (sf_push (0, 0) 83) := ok_iconst (by decide +kernel : decode (mb_ 116) 82 = .ok (.iconst 0, 1)) ⟨by decide, by decide⟩
theorem ok_X11_holds_83 : ok_S 116 83 (sf_ret 0) := ok_ret0 (by decide +kernel : decode (mb_ 116) 83 = .ok (.ireturn, 1)) rfl
theorem ok_X11_holds (pc : Nat) : ok_S 116 pc (cd_X11_holds pc) :=
  (ok_bf (ok_bf (ok_bf (ok_bf (ok_bf (ok_bf (ok_lf pc ok_X11_holds_83) (ok_lf pc ok_X11_holds_82)) (ok_lf pc ok_X11_holds_79)) (ok_bf (ok_bf (ok_lf pc ok_X11_holds_78) (ok_lf pc ok_X11_holds_75)) (ok_lf pc ok_X11_holds_72))) (ok_bf (ok_bf (ok_bf (ok_lf pc ok_X11_holds_69) (ok_lf pc ok_X11_holds_68)) (ok_lf pc ok_X11_holds_67)) (ok_bf (ok_bf (ok_lf pc ok_X11_holds_64) (ok_lf pc ok_X11_holds_63)) (ok_lf pc ok_X11_holds_62)))) (ok_bf (ok_bf (ok_bf (ok_bf (ok_lf pc ok_X11_holds_60) (ok_lf pc ok_X11_holds_59)) (ok_lf pc ok_X11_holds_56)) (ok_bf (ok_bf (ok_lf pc ok_X11_holds_55) (ok_lf pc ok_X11_holds_54)) (ok_lf pc ok_X11_holds_53))) (ok_bf (ok_bf (ok_bf (ok_lf pc ok_X11_holds_52) (ok_lf pc ok_X11_holds_49)) (ok_lf pc ok_X11_holds_48)) (ok_bf (ok_lf pc ok_X11_holds_47) (ok_lf pc ok_X11_holds_46))))) (ok_bf (ok_bf (ok_bf (ok_bf (ok_bf (ok_lf pc ok_X11_holds_45) (ok_lf pc ok_X11_holds_42)) (ok_lf pc ok_X11_holds_41)) (ok_bf (ok_bf (ok_lf pc ok_X11_holds_40) (ok_lf pc ok_X11_holds_39)) (ok_lf pc ok_X11_holds_36))) (ok_bf (ok_bf (ok_bf (ok_lf pc ok_X11_holds_33) (ok_lf pc ok_X11_holds_31)) (ok_lf pc ok_X11_holds_28)) (ok_bf (ok_bf (ok_lf pc ok_X11_holds_25) (ok_lf pc ok_X11_holds_24)) (ok_lf pc ok_X11_holds_21)))) (ok_bf (ok_bf (ok_bf (ok_bf (ok_lf pc ok_X11_holds_18) (ok_lf pc ok_X11_holds_17)) (ok_lf pc ok_X11_holds_14)) (ok_bf (ok_bf (ok_lf pc ok_X11_holds_11) (ok_lf pc ok_X11_holds_10)) (ok_lf pc ok_X11_holds_9))) (ok_bf (ok_bf (ok_bf (ok_lf pc ok_X11_holds_6) (ok_lf pc ok_X11_holds_3)) (ok_lf pc ok_X11_holds_2)) (ok_bf (ok_lf pc ok_X11_holds_1) (ok_lf pc ok_X11_holds_0))))))
theorem mo_X11_holds (pc : Nat) : mo_S (cd_X11_holds pc) :=
  (mo_bf (mo_bf (mo_bf (mo_bf (mo_bf (mo_bf (mo_bf mo_ret mo_no) (mo_bf mo_push mo_no)) (mo_bf mo_go mo_no)) (mo_bf (mo_bf (mo_bf mo_push mo_no) (mo_bf mo_if mo_no)) (mo_bf mo_cv mo_no))) (mo_bf (mo_bf (mo_bf (mo_bf mo_gr mo_no) (mo_bf mo_ld mo_no)) (mo_bf mo_ld mo_no)) (mo_bf (mo_bf (mo_bf mo_gr mo_no) (mo_bf mo_ld mo_no)) (mo_bf mo_iast mo_no)))) (mo_bf (mo_bf (mo_bf (mo_bf (mo_bf mo_ld mo_no) (mo_bf mo_push mo_no)) (mo_bf mo_gr mo_no)) (mo_bf (mo_bf (mo_bf mo_ld mo_no) (mo_bf mo_iast mo_no)) (mo_bf mo_ld mo_no))) (mo_bf (mo_bf (mo_bf (mo_bf mo_push mo_no) (mo_bf mo_gr mo_no)) (mo_bf mo_ld mo_no)) (mo_bf (mo_bf mo_iast mo_no) (mo_bf mo_ld mo_no))))) (mo_bf (mo_bf (mo_bf (mo_bf (mo_bf (mo_bf mo_push mo_no) (mo_bf mo_gr mo_no)) (mo_bf mo_ld mo_no)) (mo_bf (mo_bf (mo_bf mo_ret mo_no) (mo_bf mo_push mo_no)) (mo_bf mo_if mo_no))) (mo_bf (mo_bf (mo_bf (mo_bf mo_cs mo_no) (mo_bf mo_ld mo_no)) (mo_bf mo_if mo_no)) (mo_bf (mo_bf (mo_bf mo_cs mo_no) (mo_bf mo_ld mo_no)) (mo_bf mo_if mo_no)))) (mo_bf (mo_bf (mo_bf (mo_bf (mo_bf mo_cs mo_no) (mo_bf mo_ld mo_no)) (mo_bf mo_if mo_no)) (mo_bf (mo_bf (mo_bf mo_cs mo_no) (mo_bf mo_i2 mo_no)) (mo_bf mo_push mo_no))) (mo_bf (mo_bf (mo_bf (mo_bf mo_gi mo_no) (mo_bf mo_gr mo_no)) (mo_bf mo_ld mo_no)) (mo_bf (mo_bf mo_push mo_no) (mo_bf mo_ld mo_no))))))
theorem ok_X11_proof_0 : ok_S 117 0 (sf_ld 2 0 1) := ok_aload_n (by decide +kernel : decode (mb_ 117) 0 = .ok (.aload_n 0, 1)) rfl
theorem ok_X11_proof_1 : ok_S 117 1 (sf_gr 7 7 2 4) := ok_gr fd_7_2 (by decide +kernel : decode (mb_ 117) 1 = .ok (.getfield 20, 3)) tw_208 (Or.inl rfl) rfl
theorem ok_X11_proof_4 : ok_S 117 4 (sf_cv 9 [2] 13 7) := ok_cv mt_13 cl_9 (by decide +kernel : decode (mb_ 117) 4 = .ok (.invokevirtual 184, 3)) tw_691 tw_692 tw_693 tw_2 rfl (by decide +kernel) (mh_ok rfl) (by decide) (by decide)
theorem ok_X11_proof_7 : ok_S 117 7 (sf_if 5 15 10) := ok_if5 (by decide +kernel : decode (mb_ 117) 7 = .ok (.ifCond .le 8, 3)) (by decide)
theorem ok_X11_proof_10 : ok_S 117 10 (sf_push (0, (-3)) 12) := ok_bipush (by decide +kernel : decode (mb_ 117) 10 = .ok (.bipush (-3), 2)) ⟨by decide, by decide⟩ (by decide +kernel)
theorem ok_X11_proof_12 : ok_S 117 12 (sf_go 22) := ok_goto (by decide +kernel : decode (mb_ 117) 12 = .ok (.goto 10, 3)) (by decide)
theorem ok_X11_proof_15 : ok_S 117 15 (sf_ld 2 0 16) := ok_aload_n (by decide +kernel : decode (mb_ 117) 15 = .ok (.aload_n 0, 1)) rfl
theorem ok_X11_proof_16 : ok_S 117 16 (sf_gr 7 7 2 19) := ok_gr fd_7_2 (by decide +kernel : decode (mb_ 117) 16 = .ok (.getfield 20, 3)) tw_208 (Or.inl rfl) rfl
theorem ok_X11_proof_19 : ok_S 117 19 (sf_cv 9 [2] 16 22) := ok_cv mt_16 cl_9 (by decide +kernel : decode (mb_ 117) 19 = .ok (.invokevirtual 209, 3)) tw_800 tw_801 tw_802 tw_2 rfl (by decide +kernel) (mh_ok rfl) (by decide) (by decide)
theorem ok_X11_proof_22 : ok_S 117 22 (sf_ret 0) := ok_ret0 (by decide +kernel : decode (mb_ 117) 22 = .ok (.ireturn, 1)) rfl
theorem ok_X11_proof (pc : Nat) : ok_S 117 pc (cd_X11_proof pc) :=
  (ok_bf (ok_bf (ok_bf (ok_bf (ok_lf pc ok_X11_proof_22) (ok_lf pc ok_X11_proof_19)) (ok_lf pc ok_X11_proof_16)) (ok_bf (ok_lf pc ok_X11_proof_15) (ok_lf pc ok_X11_proof_12))) (ok_bf (ok_bf (ok_bf (ok_lf pc ok_X11_proof_10) (ok_lf pc ok_X11_proof_7)) (ok_lf pc ok_X11_proof_4)) (ok_bf (ok_lf pc ok_X11_proof_1) (ok_lf pc ok_X11_proof_0))))
theorem mo_X11_proof (pc : Nat) : mo_S (cd_X11_proof pc) :=
  (mo_bf (mo_bf (mo_bf (mo_bf (mo_bf mo_ret mo_no) (mo_bf mo_cv mo_no)) (mo_bf mo_gr mo_no)) (mo_bf (mo_bf mo_ld mo_no) (mo_bf mo_go mo_no))) (mo_bf (mo_bf (mo_bf (mo_bf mo_push mo_no) (mo_bf mo_if mo_no)) (mo_bf mo_cv mo_no)) (mo_bf (mo_bf mo_gr mo_no) (mo_bf mo_ld mo_no))))
theorem ok_X11_mended_0 : ok_S 118 0 (sf_ld 0 1 1) := ok_iload_n (by decide +kernel : decode (mb_ 118) 0 = .ok (.iload_n 1, 1)) rfl
theorem ok_X11_mended_1 : ok_S 118 1 (sf_push (0, 0) 2) := ok_iconst (by decide +kernel : decode (mb_ 118) 1 = .ok (.iconst 0, 1)) ⟨by decide, by decide⟩
theorem ok_X11_mended_2 : ok_S 118 2 (sf_push (0, 2) 3) := ok_iconst (by decide +kernel : decode (mb_ 118) 2 = .ok (.iconst 2, 1)) ⟨by decide, by decide⟩
theorem ok_X11_mended_3 : ok_S 118 3 (sf_cs [0, 0, 0] 145 6) := ok_cs mt_145 (by decide +kernel : decode (mb_ 118) 3 = .ok (.invokestatic 92, 3)) tw_262 tw_263 tw_1 (by decide +kernel) (mh_ok rfl) (by decide) (by decide)
theorem ok_X11_mended_6 : ok_S 118 6 (sf_if 1 11 9) := ok_if1 (by decide +kernel : decode (mb_ 118) 6 = .ok (.ifCond .ne 5, 3)) (by decide)
theorem ok_X11_mended_9 : ok_S 118 9 (sf_push (0, (-1)) 10) := ok_iconst (by decide +kernel : decode (mb_ 118) 9 = .ok (.iconst (-1), 1)) ⟨by decide, by decide⟩
theorem ok_X11_mended_10 : ok_S 118 10 (sf_ret 0) := ok_ret0 (by decide +kernel : decode (mb_ 118) 10 = .ok (.ireturn, 1)) rfl
theorem ok_X11_mended_11 : ok_S 118 11 (sf_ld 2 0 12) := ok_aload_n (by decide +kernel : decode (mb_ 118) 11 = .ok (.aload_n 0, 1)) rfl
theorem ok_X11_mended_12 : ok_S 118 12 (sf_gr 7 7 2 15) := ok_gr fd_7_2 (by decide +kernel : decode (mb_ 118) 12 = .ok (.getfield 20, 3)) tw_208 (Or.inl rfl) rfl
theorem ok_X11_mended_15 : ok_S 118 15 (sf_cv 9 [2] 13 18) := ok_cv mt_13 cl_9 (by decide +kernel : decode (mb_ 118) 15 = .ok (.invokevirtual 184, 3)) tw_691 tw_692 tw_693 tw_2 rfl (by decide +kernel) (mh_ok rfl) (by decide) (by decide)
theorem ok_X11_mended_18 : ok_S 118 18 (sf_if 5 24 21) := ok_if5 (by decide +kernel : decode (mb_ 118) 18 = .ok (.ifCond .le 6, 3)) (by decide)
theorem ok_X11_mended_21 : ok_S 118 21 (sf_push (0, (-4)) 23) := ok_bipush (by decide +kernel : decode (mb_ 118) 21 = .ok (.bipush (-4), 2)) ⟨by decide, by decide⟩ (by decide +kernel)
theorem ok_X11_mended_23 : ok_S 118 23 (sf_ret 0) := ok_ret0 (by decide +kernel : decode (mb_ 118) 23 = .ok (.ireturn, 1)) rfl
theorem ok_X11_mended_24 : ok_S 118 24 (sf_ld 2 0 25) := ok_aload_n (by decide +kernel : decode (mb_ 118) 24 = .ok (.aload_n 0, 1)) rfl
theorem ok_X11_mended_25 : ok_S 118 25 (sf_gr 7 7 2 28) := ok_gr fd_7_2 (by decide +kernel : decode (mb_ 118) 25 = .ok (.getfield 20, 3)) tw_208 (Or.inl rfl) rfl
theorem ok_X11_mended_28 : ok_S 118 28 (sf_cv 9 [2] 18 31) := ok_cv mt_18 cl_9 (by decide +kernel : decode (mb_ 118) 28 = .ok (.invokevirtual 212, 3)) tw_816 tw_817 tw_818 tw_2 rfl (by decide +kernel) (mh_ok rfl) (by decide) (by decide)
theorem ok_X11_mended_31 : ok_S 118 31 (sf_if 1 37 34) := ok_if1 (by decide +kernel : decode (mb_ 118) 31 = .ok (.ifCond .ne 6, 3)) (by decide)
theorem ok_X11_mended_34 : ok_S 118 34 (sf_push (0, (-3)) 36) := ok_bipush (by decide +kernel : decode (mb_ 118) 34 = .ok (.bipush (-3), 2)) ⟨by decide, by decide⟩ (by decide +kernel)
theorem ok_X11_mended_36 : ok_S 118 36 (sf_ret 0) := ok_ret0 (by decide +kernel : decode (mb_ 118) 36 = .ok (.ireturn, 1)) rfl
theorem ok_X11_mended_37 : ok_S 118 37 (sf_ld 0 1 38) := ok_iload_n (by decide +kernel : decode (mb_ 118) 37 = .ok (.iload_n 1, 1)) rfl
theorem ok_X11_mended_38 : ok_S 118 38 (sf_sw [(0, 64), (1, 72)] 80) := ok_lsw (by decide +kernel : decode (mb_ 118) 38 = .ok (.lookupswitch 42 #[(0, 26), (1, 34)], 26)) (by decide) (by decide) (by decide) (by decide)
theorem ok_X11_mended_64 : ok_S 118 64 (sf_ld 2 0 65) := ok_aload_n (by decide +kernel : decode (mb_ 118) 64 = .ok (.aload_n 0, 1)) rfl
theorem ok_X11_mended_65 : ok_S 118 65 (sf_gr 7 7 2 68) := ok_gr fd_7_2 (by decide +kernel : decode (mb_ 118) 65 = .ok (.getfield 20, 3)) tw_208 (Or.inl rfl) rfl
theorem ok_X11_mended_68 : ok_S 118 68 (sf_gi 9 9 2 71) := ok_gi fd_9_2 (by decide +kernel : decode (mb_ 118) 68 = .ok (.getfield 216, 3)) tw_87 (Or.inl rfl) rfl
theorem ok_X11_mended_71 : ok_S 118 71 (sf_ret 0) := ok_ret0 (by decide +kernel : decode (mb_ 118) 71 = .ok (.ireturn, 1)) rfl
theorem ok_X11_mended_72 : ok_S 118 72 (sf_ld 2 0 73) := ok_aload_n (by decide +kernel : decode (mb_ 118) 72 = .ok (.aload_n 0, 1)) rfl
theorem ok_X11_mended_73 : ok_S 118 73 (sf_gr 7 7 2 76) := ok_gr fd_7_2 (by decide +kernel : decode (mb_ 118) 73 = .ok (.getfield 20, 3)) tw_208 (Or.inl rfl) rfl
theorem ok_X11_mended_76 : ok_S 118 76 (sf_gi 9 9 3 79) := ok_gi fd_9_3 (by decide +kernel : decode (mb_ 118) 76 = .ok (.getfield 219, 3)) tw_89 (Or.inl rfl) rfl
theorem ok_X11_mended_79 : ok_S 118 79 (sf_ret 0) := ok_ret0 (by decide +kernel : decode (mb_ 118) 79 = .ok (.ireturn, 1)) rfl
theorem ok_X11_mended_80 : ok_S 118 80 (sf_ld 2 0 81) := ok_aload_n (by decide +kernel : decode (mb_ 118) 80 = .ok (.aload_n 0, 1)) rfl
theorem ok_X11_mended_81 : ok_S 118 81 (sf_gr 7 7 2 84) := ok_gr fd_7_2 (by decide +kernel : decode (mb_ 118) 81 = .ok (.getfield 20, 3)) tw_208 (Or.inl rfl) rfl
theorem ok_X11_mended_84 : ok_S 118 84 (sf_gi 9 9 4 87) := ok_gi fd_9_4 (by decide +kernel : decode (mb_ 118) 84 = .ok (.getfield 222, 3)) tw_91 (Or.inl rfl) rfl
theorem ok_X11_mended_87 : ok_S 118 87 (sf_ret 0) := ok_ret0 (by decide +kernel : decode (mb_ 118) 87 = .ok (.ireturn, 1)) rfl
theorem ok_X11_mended (pc : Nat) : ok_S 118 pc (cd_X11_mended pc) :=
  (ok_bf (ok_bf (ok_bf (ok_bf (ok_bf (ok_bf (ok_lf pc ok_X11_mended_87) (ok_lf pc ok_X11_mended_84)) (ok_lf pc ok_X11_mended_81)) (ok_bf (ok_lf pc ok_X11_mended_80) (ok_lf pc ok_X11_mended_79))) (ok_bf (ok_bf (ok_lf pc ok_X11_mended_76) (ok_lf pc ok_X11_mended_73)) (ok_bf (ok_lf pc ok_X11_mended_72) (ok_lf pc ok_X11_mended_71)))) (ok_bf (ok_bf (ok_bf (ok_lf pc ok_X11_mended_68) (ok_lf pc ok_X11_mended_65)) (ok_bf (ok_lf pc ok_X11_mended_64) (ok_lf pc ok_X11_mended_38))) (ok_bf (ok_bf (ok_lf pc ok_X11_mended_37) (ok_lf pc ok_X11_mended_36)) (ok_bf (ok_lf pc ok_X11_mended_34) (ok_lf pc ok_X11_mended_31))))) (ok_bf (ok_bf (ok_bf (ok_bf (ok_lf pc ok_X11_mended_28) (ok_lf pc ok_X11_mended_25)) (ok_bf (ok_lf pc ok_X11_mended_24) (ok_lf pc ok_X11_mended_23))) (ok_bf (ok_bf (ok_lf pc ok_X11_mended_21) (ok_lf pc ok_X11_mended_18)) (ok_bf (ok_lf pc ok_X11_mended_15) (ok_lf pc ok_X11_mended_12)))) (ok_bf (ok_bf (ok_bf (ok_lf pc ok_X11_mended_11) (ok_lf pc ok_X11_mended_10)) (ok_bf (ok_lf pc ok_X11_mended_9) (ok_lf pc ok_X11_mended_6))) (ok_bf (ok_bf (ok_lf pc ok_X11_mended_3) (ok_lf pc ok_X11_mended_2)) (ok_bf (ok_lf pc ok_X11_mended_1) (ok_lf pc ok_X11_mended_0))))))
theorem mo_X11_mended (pc : Nat) : mo_S (cd_X11_mended pc) :=
  (mo_bf (mo_bf (mo_bf (mo_bf (mo_bf (mo_bf (mo_bf mo_ret mo_no) (mo_bf mo_gi mo_no)) (mo_bf mo_gr mo_no)) (mo_bf (mo_bf mo_ld mo_no) (mo_bf mo_ret mo_no))) (mo_bf (mo_bf (mo_bf mo_gi mo_no) (mo_bf mo_gr mo_no)) (mo_bf (mo_bf mo_ld mo_no) (mo_bf mo_ret mo_no)))) (mo_bf (mo_bf (mo_bf (mo_bf mo_gi mo_no) (mo_bf mo_gr mo_no)) (mo_bf (mo_bf mo_ld mo_no) (mo_bf mo_sw mo_no))) (mo_bf (mo_bf (mo_bf mo_ld mo_no) (mo_bf mo_ret mo_no)) (mo_bf (mo_bf mo_push mo_no) (mo_bf mo_if mo_no))))) (mo_bf (mo_bf (mo_bf (mo_bf (mo_bf mo_cv mo_no) (mo_bf mo_gr mo_no)) (mo_bf (mo_bf mo_ld mo_no) (mo_bf mo_ret mo_no))) (mo_bf (mo_bf (mo_bf mo_push mo_no) (mo_bf mo_if mo_no)) (mo_bf (mo_bf mo_cv mo_no) (mo_bf mo_gr mo_no)))) (mo_bf (mo_bf (mo_bf (mo_bf mo_ld mo_no) (mo_bf mo_ret mo_no)) (mo_bf (mo_bf mo_push mo_no) (mo_bf mo_if mo_no))) (mo_bf (mo_bf (mo_bf mo_cs mo_no) (mo_bf mo_push mo_no)) (mo_bf (mo_bf mo_push mo_no) (mo_bf mo_ld mo_no))))))
theorem ok_X11_which_0 : ok_S 119 0 (sf_ld 2 0 1) := ok_aload_n (by decide +kernel : decode (mb_ 119) 0 = .ok (.aload_n 0, 1)) rfl
theorem ok_X11_which_1 : ok_S 119 1 (sf_gr 7 7 3 4) := ok_gr fd_7_3 (by decide +kernel : decode (mb_ 119) 1 = .ok (.getfield 28, 3)) tw_209 (Or.inl rfl) rfl
theorem ok_X11_which_4 : ok_S 119 4 (sf_ld 0 1 5) := ok_iload_n (by decide +kernel : decode (mb_ 119) 4 = .ok (.iload_n 1, 1)) rfl
theorem ok_X11_which_5 : ok_S 119 5 (sf_cv 8 [2, 0] 90 8) := ok_cv mt_90 cl_8 (by decide +kernel : decode (mb_ 119) 5 = .ok (.invokevirtual 138, 3)) tw_573 tw_514 tw_515 tw_3 rfl (by decide +kernel) (mh_ok rfl) (by decide) (by decide)
theorem ok_X11_which_8 : ok_S 119 8 (sf_nul 11 15) := ok_nnul (by decide +kernel : decode (mb_ 119) 8 = .ok (.ifnonnull 7, 3)) (by decide)
theorem ok_X11_which_11 : ok_S 119 11 (sf_push (0, (-1)) 12) := ok_iconst (by decide +kernel : decode (mb_ 119) 11 = .ok (.iconst (-1), 1)) ⟨by decide, by decide⟩
theorem ok_X11_which_12 : ok_S 119 12 (sf_go 23) := ok_goto (by decide +kernel : decode (mb_ 119) 12 = .ok (.goto 11, 3)) (by decide)
theorem ok_X11_which_15 : ok_S 119 15 (sf_ld 2 0 16) := ok_aload_n (by decide +kernel : decode (mb_ 119) 15 = .ok (.aload_n 0, 1)) rfl
theorem ok_X11_which_16 : ok_S 119 16 (sf_gr 7 7 2 19) := ok_gr fd_7_2 (by decide +kernel : decode (mb_ 119) 16 = .ok (.getfield 20, 3)) tw_208 (Or.inl rfl) rfl
theorem ok_X11_which_19 : ok_S 119 19 (sf_ld 0 1 20) := ok_iload_n (by decide +kernel : decode (mb_ 119) 19 = .ok (.iload_n 1, 1)) rfl
theorem ok_X11_which_20 : ok_S 119 20 (sf_cv 9 [2, 0] 17 23) := ok_cv mt_17 cl_9 (by decide +kernel : decode (mb_ 119) 20 = .ok (.invokevirtual 225, 3)) tw_841 tw_842 tw_843 tw_2 rfl (by decide +kernel) (mh_ok rfl) (by decide) (by decide)
theorem ok_X11_which_23 : ok_S 119 23 (sf_ret 0) := ok_ret0 (by decide +kernel : decode (mb_ 119) 23 = .ok (.ireturn, 1)) rfl
theorem ok_X11_which (pc : Nat) : ok_S 119 pc (cd_X11_which pc) :=
  (ok_bf (ok_bf (ok_bf (ok_bf (ok_lf pc ok_X11_which_23) (ok_lf pc ok_X11_which_20)) (ok_lf pc ok_X11_which_19)) (ok_bf (ok_bf (ok_lf pc ok_X11_which_16) (ok_lf pc ok_X11_which_15)) (ok_lf pc ok_X11_which_12))) (ok_bf (ok_bf (ok_bf (ok_lf pc ok_X11_which_11) (ok_lf pc ok_X11_which_8)) (ok_lf pc ok_X11_which_5)) (ok_bf (ok_bf (ok_lf pc ok_X11_which_4) (ok_lf pc ok_X11_which_1)) (ok_lf pc ok_X11_which_0))))
theorem mo_X11_which (pc : Nat) : mo_S (cd_X11_which pc) :=
  (mo_bf (mo_bf (mo_bf (mo_bf (mo_bf mo_ret mo_no) (mo_bf mo_cv mo_no)) (mo_bf mo_ld mo_no)) (mo_bf (mo_bf (mo_bf mo_gr mo_no) (mo_bf mo_ld mo_no)) (mo_bf mo_go mo_no))) (mo_bf (mo_bf (mo_bf (mo_bf mo_push mo_no) (mo_bf mo_nul mo_no)) (mo_bf mo_cv mo_no)) (mo_bf (mo_bf (mo_bf mo_ld mo_no) (mo_bf mo_gr mo_no)) (mo_bf mo_ld mo_no))))
theorem ok_X11_gain_0 : ok_S 120 0 (sf_ld 2 0 1) := ok_aload_n (by decide +kernel : decode (mb_ 120) 0 = .ok (.aload_n 0, 1)) rfl
theorem ok_X11_gain_1 : ok_S 120 1 (sf_gr 7 7 3 4) := ok_gr fd_7_3 (by decide +kernel : decode (mb_ 120) 1 = .ok (.getfield 28, 3)) tw_209 (Or.inl rfl) rfl
theorem ok_X11_gain_4 : ok_S 120 4 (sf_ld 0 1 5) := ok_iload_n (by decide +kernel : decode (mb_ 120) 4 = .ok (.iload_n 1, 1)) rfl
theorem ok_X11_gain_5 : ok_S 120 5 (sf_cv 8 [2, 0] 90 8) := ok_cv mt_90 cl_8 (by decide +kernel : decode (mb_ 120) 5 = .ok (.invokevirtual 138, 3)) tw_573 tw_514 tw_515 tw_3 rfl (by decide +kernel) (mh_ok rfl) (by decide) (by decide)
theorem ok_X11_gain_8 : ok_S 120 8 (sf_st 2 4 10) := ok_astore (by decide +kernel : decode (mb_ 120) 8 = .ok (.astore 4, 2))
theorem ok_X11_gain_10 : ok_S 120 10 (sf_ld 2 4 12) := ok_aload (by decide +kernel : decode (mb_ 120) 10 = .ok (.aload 4, 2))
theorem ok_X11_gain_12 : ok_S 120 12 (sf_nul 29 15) := ok_nul (by decide +kernel : decode (mb_ 120) 12 = .ok (.ifnull 17, 3)) (by decide)
theorem ok_X11_gain_15 : ok_S 120 15 (sf_ld 0 2 16) := ok_iload_n (by decide +kernel : decode (mb_ 120) 15 = .ok (.iload_n 2, 1)) rfl
theorem ok_X11_gain_16 : ok_S 120 16 (sf_cs [0] 147 19) := ok_cs mt_147 (by decide +kernel : decode (mb_ 120) 16 = .ok (.invokestatic 117, 3)) tw_552 tw_553 tw_1 (by decide +kernel) (mh_ok rfl) (by decide) (by decide)
theorem ok_X11_gain_19 : ok_S 120 19 (sf_if 0 29 22) := ok_if0 (by decide +kernel : decode (mb_ 120) 19 = .ok (.ifCond .eq 10, 3)) (by decide)
theorem ok_X11_gain_22 : ok_S 120 22 (sf_ld 0 3 23) := ok_iload_n (by decide +kernel : decode (mb_ 120) 22 = .ok (.iload_n 3, 1)) rfl
theorem ok_X11_gain_23 : ok_S 120 23 (sf_cs [0] 147 26) := ok_cs mt_147 (by decide +kernel : decode (mb_ 120) 23 = .ok (.invokestatic 117, 3)) tw_552 tw_553 tw_1 (by decide +kernel) (mh_ok rfl) (by decide) (by decide)
theorem ok_X11_gain_26 : ok_S 120 26 (sf_if 1 33 29) := ok_if1 (by decide +kernel : decode (mb_ 120) 26 = .ok (.ifCond .ne 7, 3)) (by decide)
theorem ok_X11_gain_29 : ok_S 120 29 (sf_push (1, (-1000000000000)) 32) := ok_ldc2 (by decide +kernel : decode (mb_ 120) 29 = .ok (.ldc2_w 163, 3)) ⟨by decide, by decide⟩ tw_597
theorem ok_X11_gain_32 : ok_S 120 32 (sf_ret 1) := ok_ret1 (by decide +kernel : decode (mb_ 120) 32 = .ok (.lreturn, 1)) rfl
theorem ok_X11_gain_33 : ok_S 120 33 (sf_ld 2 4 35) := ok_aload (by decide +kernel : decode (mb_ 120) 33 = .ok (.aload 4, 2))
theorem ok_X11_gain_35 : ok_S 120 35 (sf_ld 0 3 36) := ok_iload_n (by decide +kernel : decode (mb_ 120) 35 = .ok (.iload_n 3, 1)) rfl
theorem ok_X11_gain_36 : ok_S 120 36 (sf_cu [(1, 43), (2, 56), (3, 3), (4, 3), (5, 81), (6, 9)] [2, 0] 39) := ok_cu (x := ⟨"RoomNumbers$Note", "worthBy", "(I)I"⟩) (ow := "RoomNumbers$Note") ⟨tw_598, tw_601, tw_599, ⟨_, _, _, tw_632⟩, mh_ok rfl, (by decide +kernel)⟩ (List.forall_mem_cons.mpr ⟨⟨"RoomNumbers$Note", cl_1, mt_43, tw_600, tw_599, tw_14, by decide, by decide⟩, (List.forall_mem_cons.mpr ⟨⟨"RoomNumbers$Strokes", cl_2, mt_56, tw_628, tw_625, tw_15, by decide, by decide⟩, (List.forall_mem_cons.mpr ⟨⟨"RoomNumbers$Broken", cl_3, mt_3, tw_602, tw_603, tw_16, by decide, by decide⟩, (List.forall_mem_cons.mpr ⟨⟨"RoomNumbers$Left", cl_4, mt_3, tw_627, tw_603, tw_16, by decide, by decide⟩, (List.forall_mem_cons.mpr ⟨⟨"RoomNumbers$Turned", cl_5, mt_81, tw_629, tw_630, tw_18, by decide, by decide⟩, (List.forall_mem_cons.mpr ⟨⟨"RoomNumbers$Debt", cl_6, mt_9, tw_621, tw_622, tw_19, by decide, by decide⟩, (fun _ h => absurd h List.not_mem_nil)⟩)⟩)⟩)⟩)⟩)⟩) (by decide +kernel : decode (mb_ 120) 36 = .ok (.invokevirtual 165, 3)) rfl
theorem ok_X11_gain_39 : ok_S 120 39 (sf_ld 2 4 41) := ok_aload (by decide +kernel : decode (mb_ 120) 39 = .ok (.aload 4, 2))
theorem ok_X11_gain_41 : ok_S 120 41 (sf_ld 0 2 42) := ok_iload_n (by decide +kernel : decode (mb_ 120) 41 = .ok (.iload_n 2, 1)) rfl
theorem ok_X11_gain_42 : ok_S 120 42 (sf_cu [(1, 43), (2, 56), (3, 3), (4, 3), (5, 81), (6, 9)] [2, 0] 45) := ok_cu (x := ⟨"RoomNumbers$Note", "worthBy", "(I)I"⟩) (ow := "RoomNumbers$Note") ⟨tw_598, tw_601, tw_599, ⟨_, _, _, tw_632⟩, mh_ok rfl, (by decide +kernel)⟩ (List.forall_mem_cons.mpr ⟨⟨"RoomNumbers$Note", cl_1, mt_43, tw_600, tw_599, tw_14, by decide, by decide⟩, (List.forall_mem_cons.mpr ⟨⟨"RoomNumbers$Strokes", cl_2, mt_56, tw_628, tw_625, tw_15, by decide, by decide⟩, (List.forall_mem_cons.mpr ⟨⟨"RoomNumbers$Broken", cl_3, mt_3, tw_602, tw_603, tw_16, by decide, by decide⟩, (List.forall_mem_cons.mpr ⟨⟨"RoomNumbers$Left", cl_4, mt_3, tw_627, tw_603, tw_16, by decide, by decide⟩, (List.forall_mem_cons.mpr ⟨⟨"RoomNumbers$Turned", cl_5, mt_81, tw_629, tw_630, tw_18, by decide, by decide⟩, (List.forall_mem_cons.mpr ⟨⟨"RoomNumbers$Debt", cl_6, mt_9, tw_621, tw_622, tw_19, by decide, by decide⟩, (fun _ h => absurd h List.not_mem_nil)⟩)⟩)⟩)⟩)⟩)⟩) (by decide +kernel : decode (mb_ 120) 42 = .ok (.invokevirtual 165, 3)) rfl
theorem ok_X11_gain_45 : ok_S 120 45 (sf_i2 mx_sub 46) := ok_isub (by decide +kernel : decode (mb_ 120) 45 = .ok (.isub, 1))
theorem ok_X11_gain_46 : ok_S 120 46 (sf_i2l 47) := ok_i2l (by decide +kernel : decode (mb_ 120) 46 = .ok (.i2l, 1))
theorem ok_X11_gain_47 : ok_S 120 47 (sf_ret 1) := ok_ret1 (by decide +kernel : decode (mb_ 120) 47 = .ok (.lreturn, 1)) rfl
theorem ok_X11_gain (pc : Nat) : ok_S 120 pc (cd_X11_gain pc) :=
  (ok_bf (ok_bf (ok_bf (ok_bf (ok_bf (ok_lf pc ok_X11_gain_47) (ok_lf pc ok_X11_gain_46)) (ok_lf pc ok_X11_gain_45)) (ok_bf (ok_bf (ok_lf pc ok_X11_gain_42) (ok_lf pc ok_X11_gain_41)) (ok_lf pc ok_X11_gain_39))) (ok_bf (ok_bf (ok_bf (ok_lf pc ok_X11_gain_36) (ok_lf pc ok_X11_gain_35)) (ok_lf pc ok_X11_gain_33)) (ok_bf (ok_bf (ok_lf pc ok_X11_gain_32) (ok_lf pc ok_X11_gain_29)) (ok_lf pc ok_X11_gain_26)))) (ok_bf (ok_bf (ok_bf (ok_bf (ok_lf pc ok_X11_gain_23) (ok_lf pc ok_X11_gain_22)) (ok_lf pc ok_X11_gain_19)) (ok_bf (ok_bf (ok_lf pc ok_X11_gain_16) (ok_lf pc ok_X11_gain_15)) (ok_lf pc ok_X11_gain_12))) (ok_bf (ok_bf (ok_bf (ok_lf pc ok_X11_gain_10) (ok_lf pc ok_X11_gain_8)) (ok_lf pc ok_X11_gain_5)) (ok_bf (ok_bf (ok_lf pc ok_X11_gain_4) (ok_lf pc ok_X11_gain_1)) (ok_lf pc ok_X11_gain_0)))))
theorem mo_X11_gain (pc : Nat) : mo_S (cd_X11_gain pc) :=
  (mo_bf (mo_bf (mo_bf (mo_bf (mo_bf (mo_bf mo_ret mo_no) (mo_bf mo_i2l mo_no)) (mo_bf mo_i2 mo_no)) (mo_bf (mo_bf (mo_bf mo_cu mo_no) (mo_bf mo_ld mo_no)) (mo_bf mo_ld mo_no))) (mo_bf (mo_bf (mo_bf (mo_bf mo_cu mo_no) (mo_bf mo_ld mo_no)) (mo_bf mo_ld mo_no)) (mo_bf (mo_bf (mo_bf mo_ret mo_no) (mo_bf mo_push mo_no)) (mo_bf mo_if mo_no)))) (mo_bf (mo_bf (mo_bf (mo_bf (mo_bf mo_cs mo_no) (mo_bf mo_ld mo_no)) (mo_bf mo_if mo_no)) (mo_bf (mo_bf (mo_bf mo_cs mo_no) (mo_bf mo_ld mo_no)) (mo_bf mo_nul mo_no))) (mo_bf (mo_bf (mo_bf (mo_bf mo_ld mo_no) (mo_bf mo_st mo_no)) (mo_bf mo_cv mo_no)) (mo_bf (mo_bf (mo_bf mo_ld mo_no) (mo_bf mo_gr mo_no)) (mo_bf mo_ld mo_no)))))
theorem ok_X11_written_0 : ok_S 121 0 (sf_ld 0 1 1) := ok_iload_n (by decide +kernel : decode (mb_ 121) 0 = .ok (.iload_n 1, 1)) rfl
theorem ok_X11_written_1 : ok_S 121 1 (sf_push (0, 0) 2) := ok_iconst (by decide +kernel : decode (mb_ 121) 1 = .ok (.iconst 0, 1)) ⟨by decide, by decide⟩
theorem ok_X11_written_2 : ok_S 121 2 (sf_push (0, 9999) 5) := ok_sipush (by decide +kernel : decode (mb_ 121) 2 = .ok (.sipush 9999, 3)) ⟨by decide, by decide⟩ (by decide +kernel)
theorem ok_X11_written_5 : ok_S 121 5 (sf_cs [0, 0, 0] 145 8) := ok_cs mt_145 (by decide +kernel : decode (mb_ 121) 5 = .ok (.invokestatic 92, 3)) tw_262 tw_263 tw_1 (by decide +kernel) (mh_ok rfl) (by decide) (by decide)
theorem ok_X11_written_8 : ok_S 121 8 (sf_if 0 23 11) := ok_if0 (by decide +kernel : decode (mb_ 121) 8 = .ok (.ifCond .eq 15, 3)) (by decide)
theorem ok_X11_written_11 : ok_S 121 11 (sf_ld 0 2 12) := ok_iload_n (by decide +kernel : decode (mb_ 121) 11 = .ok (.iload_n 2, 1)) rfl
theorem ok_X11_written_12 : ok_S 121 12 (sf_cs [0] 147 15) := ok_cs mt_147 (by decide +kernel : decode (mb_ 121) 12 = .ok (.invokestatic 117, 3)) tw_552 tw_553 tw_1 (by decide +kernel) (mh_ok rfl) (by decide) (by decide)
theorem ok_X11_written_15 : ok_S 121 15 (sf_if 0 23 18) := ok_if0 (by decide +kernel : decode (mb_ 121) 15 = .ok (.ifCond .eq 8, 3)) (by decide)
theorem ok_X11_written_18 : ok_S 121 18 (sf_ld 0 3 19) := ok_iload_n (by decide +kernel : decode (mb_ 121) 18 = .ok (.iload_n 3, 1)) rfl
theorem ok_X11_written_19 : ok_S 121 19 (sf_push (0, (-1)) 20) := ok_iconst (by decide +kernel : decode (mb_ 121) 19 = .ok (.iconst (-1), 1)) ⟨by decide, by decide⟩
theorem ok_X11_written_20 : ok_S 121 20 (sf_ic 3 25 23) := ok_ic3 (by decide +kernel : decode (mb_ 121) 20 = .ok (.if_icmp .ge 5, 3)) (by decide)
theorem ok_X11_written_23 : ok_S 121 23 (sf_push (0, (-1)) 24) := ok_iconst (by decide +kernel : decode (mb_ 121) 23 = .ok (.iconst (-1), 1)) ⟨by decide, by decide⟩
theorem ok_X11_written_24 : ok_S 121 24 (sf_ret 0) := ok_ret0 (by decide +kernel : decode (mb_ 121) 24 = .ok (.ireturn, 1)) rfl
theorem ok_X11_written_25 : ok_S 121 25 (sf_ld 0 1 26) := ok_iload_n (by decide +kernel : decode (mb_ 121) 25 = .ok (.iload_n 1, 1)) rfl
theorem ok_X11_written_26 : ok_S 121 26 (sf_ld 0 2 27) := ok_iload_n (by decide +kernel : decode (mb_ 121) 26 = .ok (.iload_n 2, 1)) rfl
theorem ok_X11_written_27 : ok_S 121 27 (sf_cs [0, 0] 152 30) := ok_cs mt_152 (by decide +kernel : decode (mb_ 121) 27 = .ok (.invokestatic 228, 3)) tw_853 tw_854 tw_1 (by decide +kernel) (mh_ok rfl) (by decide) (by decide)
theorem ok_X11_written_30 : ok_S 121 30 (sf_st 0 4 32) := ok_istore (by decide +kernel : decode (mb_ 121) 30 = .ok (.istore 4, 2))
theorem ok_X11_written_32 : ok_S 121 32 (sf_ld 0 3 33) := ok_iload_n (by decide +kernel : decode (mb_ 121) 32 = .ok (.iload_n 3, 1)) rfl
theorem ok_X11_written_33 : ok_S 121 33 (sf_push (0, (-1)) 34) := ok_iconst (by decide +kernel : decode (mb_ 121) 33 = .ok (.iconst (-1), 1)) ⟨by decide, by decide⟩
theorem ok_X11_written_34 : ok_S 121 34 (sf_ic 1 40 37) := ok_ic1 (by decide +kernel : decode (mb_ 121) 34 = .ok (.if_icmp .ne 6, 3)) (by decide)
theorem ok_X11_written_37 : ok_S 121 37 (sf_ld 0 4 39) := ok_iload (by decide +kernel : decode (mb_ 121) 37 = .ok (.iload 4, 2))
theorem ok_X11_written_39 : ok_S 121 39 (sf_ret 0) := ok_ret0 (by decide +kernel : decode (mb_ 121) 39 = .ok (.ireturn, 1)) rfl
theorem ok_X11_written_40 : ok_S 121 40 (sf_ld 0 3 41) := ok_iload_n (by decide +kernel : decode (mb_ 121) 40 = .ok (.iload_n 3, 1)) rfl
theorem ok_X11_written_41 : ok_S 121 41 (sf_ld 0 4 43) := ok_iload (by decide +kernel : decode (mb_ 121) 41 = .ok (.iload 4, 2))
theorem ok_X11_written_43 : ok_S 121 43 (sf_ic 2 49 46) := ok_ic2 (by decide +kernel : decode (mb_ 121) 43 = .ok (.if_icmp .lt 6, 3)) (by decide)
theorem ok_X11_written_46 : ok_S 121 46 (sf_push (0, (-3)) 48) := ok_bipush (by decide +kernel : decode (mb_ 121) 46 = .ok (.bipush (-3), 2)) ⟨by decide, by decide⟩ (by decide +kernel)
theorem ok_X11_written_48 : ok_S 121 48 (sf_ret 0) := ok_ret0 (by decide +kernel : decode (mb_ 121) 48 = .ok (.ireturn, 1)) rfl
theorem ok_X11_written_49 : ok_S 121 49 (sf_ld 0 1 50) := ok_iload_n (by decide +kernel : decode (mb_ 121) 49 = .ok (.iload_n 1, 1)) rfl
theorem ok_X11_written_50 : ok_S 121 50 (sf_st 0 5 52) := ok_istore (by decide +kernel : decode (mb_ 121) 50 = .ok (.istore 5, 2))
theorem ok_X11_written_52 : ok_S 121 52 (sf_ld 0 4 54) := ok_iload (by decide +kernel : decode (mb_ 121) 52 = .ok (.iload 4, 2))
theorem ok_X11_written_54 : ok_S 121 54 (sf_push (0, 1) 55) := ok_iconst (by decide +kernel : decode (mb_ 121) 54 = .ok (.iconst 1, 1)) ⟨by decide, by decide⟩
theorem ok_X11_written_55 : ok_S 121 55 (sf_i2 mx_sub 56) := ok_isub (by decide +kernel : decode (mb_ 121) 55 = .ok (.isub, 1))
theorem ok_X11_written_56 : ok_S 121 56 (sf_st 0 6 58) := ok_istore (by decide +kernel : decode (mb_ 121) 56 = .ok (.istore 6, 2))
theorem ok_X11_written_58 : ok_S 121 58 (sf_ld 0 6 60) := ok_iload (by decide +kernel : decode (mb_ 121) 58 = .ok (.iload 6, 2))
theorem ok_X11_written_60 : ok_S 121 60 (sf_ld 0 3 61) := ok_iload_n (by decide +kernel : decode (mb_ 121) 60 = .ok (.iload_n 3, 1)) rfl
theorem ok_X11_written_61 : ok_S 121 61 (sf_ic 5 76 64) := ok_ic5 (by decide +kernel : decode (mb_ 121) 61 = .ok (.if_icmp .le 15, 3)) (by decide)
theorem ok_X11_written_64 : ok_S 121 64 (sf_ld 0 5 66) := ok_iload (by decide +kernel : decode (mb_ 121) 64 = .ok (.iload 5, 2))
theorem ok_X11_written_66 : ok_S 121 66 (sf_ld 0 2 67) := ok_iload_n (by decide +kernel : decode (mb_ 121) 66 = .ok (.iload_n 2, 1)) rfl
theorem ok_X11_written_67 : ok_S 121 67 (sf_i2d mx_div 68) := ok_idiv (by decide +kernel : decode (mb_ 121) 67 = .ok (.idiv, 1))
theorem ok_X11_written_68 : ok_S 121 68 (sf_st 0 5 70) := ok_istore (by decide +kernel : decode (mb_ 121) 68 = .ok (.istore 5, 2))
theorem ok_X11_written_70 : ok_S 121 70 (sf_inc 6 (-1) 73) := ok_iinc (by decide +kernel : decode (mb_ 121) 70 = .ok (.iinc 6 (-1), 3))
theorem ok_X11_written_73 : ok_S 121 73 (sf_go 58) := ok_goto (by decide +kernel : decode (mb_ 121) 73 = .ok (.goto (-15), 3)) (by decide)
theorem ok_X11_written_76 : ok_S 121 76 (sf_ld 0 5 78) := ok_iload (by decide +kernel : decode (mb_ 121) 76 = .ok (.iload 5, 2))
theorem ok_X11_written_78 : ok_S 121 78 (sf_ld 0 2 79) := ok_iload_n (by decide +kernel : decode (mb_ 121) 78 = .ok (.iload_n 2, 1)) rfl
theorem ok_X11_written_79 : ok_S 121 79 (sf_i2d mx_rem 80) := ok_irem (by decide +kernel : decode (mb_ 121) 79 = .ok (.irem, 1))
theorem ok_X11_written_80 : ok_S 121 80 (sf_ret 0) := ok_ret0 (by decide +kernel : decode (mb_ 121) 80 = .ok (.ireturn, 1)) rfl
theorem ok_X11_written (pc : Nat) : ok_S 121 pc (cd_X11_written pc) :=
  (ok_bf (ok_bf (ok_bf (ok_bf (ok_bf (ok_bf (ok_lf pc ok_X11_written_80) (ok_lf pc ok_X11_written_79)) (ok_lf pc ok_X11_written_78)) (ok_bf (ok_bf (ok_lf pc ok_X11_written_76) (ok_lf pc ok_X11_written_73)) (ok_lf pc ok_X11_written_70))) (ok_bf (ok_bf (ok_bf (ok_lf pc ok_X11_written_68) (ok_lf pc ok_X11_written_67)) (ok_lf pc ok_X11_written_66)) (ok_bf (ok_bf (ok_lf pc ok_X11_written_64) (ok_lf pc ok_X11_written_61)) (ok_lf pc ok_X11_written_60)))) (ok_bf (ok_bf (ok_bf (ok_bf (ok_lf pc ok_X11_written_58) (ok_lf pc ok_X11_written_56)) (ok_lf pc ok_X11_written_55)) (ok_bf (ok_bf (ok_lf pc ok_X11_written_54) (ok_lf pc ok_X11_written_52)) (ok_lf pc ok_X11_written_50))) (ok_bf (ok_bf (ok_bf (ok_lf pc ok_X11_written_49) (ok_lf pc ok_X11_written_48)) (ok_lf pc ok_X11_written_46)) (ok_bf (ok_lf pc ok_X11_written_43) (ok_lf pc ok_X11_written_41))))) (ok_bf (ok_bf (ok_bf (ok_bf (ok_bf (ok_lf pc ok_X11_written_40) (ok_lf pc ok_X11_written_39)) (ok_lf pc ok_X11_written_37)) (ok_bf (ok_bf (ok_lf pc ok_X11_written_34) (ok_lf pc ok_X11_written_33)) (ok_lf pc ok_X11_written_32))) (ok_bf (ok_bf (ok_bf (ok_lf pc ok_X11_written_30) (ok_lf pc ok_X11_written_27)) (ok_lf pc ok_X11_written_26)) (ok_bf (ok_bf (ok_lf pc ok_X11_written_25) (ok_lf pc ok_X11_written_24)) (ok_lf pc ok_X11_written_23)))) (ok_bf (ok_bf (ok_bf (ok_bf (ok_lf pc ok_X11_written_20) (ok_lf pc ok_X11_written_19)) (ok_lf pc ok_X11_written_18)) (ok_bf (ok_bf (ok_lf pc ok_X11_written_15) (ok_lf pc ok_X11_written_12)) (ok_lf pc ok_X11_written_11))) (ok_bf (ok_bf (ok_bf (ok_lf pc ok_X11_written_8) (ok_lf pc ok_X11_written_5)) (ok_lf pc ok_X11_written_2)) (ok_bf (ok_lf pc ok_X11_written_1) (ok_lf pc ok_X11_written_0))))))
theorem mo_X11_written (pc : Nat) : mo_S (cd_X11_written pc) :=
  (mo_bf (mo_bf (mo_bf (mo_bf (mo_bf (mo_bf (mo_bf mo_ret mo_no) (mo_bf mo_i2d mo_no)) (mo_bf mo_ld mo_no)) (mo_bf (mo_bf (mo_bf mo_ld mo_no) (mo_bf mo_go mo_no)) (mo_bf mo_inc mo_no))) (mo_bf (mo_bf (mo_bf (mo_bf mo_st mo_no) (mo_bf mo_i2d mo_no)) (mo_bf mo_ld mo_no)) (mo_bf (mo_bf (mo_bf mo_ld mo_no) (mo_bf mo_ic mo_no)) (mo_bf mo_ld mo_no)))) (mo_bf (mo_bf (mo_bf (mo_bf (mo_bf mo_ld mo_no) (mo_bf mo_st mo_no)) (mo_bf mo_i2 mo_no)) (mo_bf (mo_bf (mo_bf mo_push mo_no) (mo_bf mo_ld mo_no)) (mo_bf mo_st mo_no))) (mo_bf (mo_bf (mo_bf (mo_bf mo_ld mo_no) (mo_bf mo_ret mo_no)) (mo_bf mo_push mo_no)) (mo_bf (mo_bf mo_ic mo_no) (mo_bf mo_ld mo_no))))) (mo_bf (mo_bf (mo_bf (mo_bf (mo_bf (mo_bf mo_ld mo_no) (mo_bf mo_ret mo_no)) (mo_bf mo_ld mo_no)) (mo_bf (mo_bf (mo_bf mo_ic mo_no) (mo_bf mo_push mo_no)) (mo_bf mo_ld mo_no))) (mo_bf (mo_bf (mo_bf (mo_bf mo_st mo_no) (mo_bf mo_cs mo_no)) (mo_bf mo_ld mo_no)) (mo_bf (mo_bf (mo_bf mo_ld mo_no) (mo_bf mo_ret mo_no)) (mo_bf mo_push mo_no)))) (mo_bf (mo_bf (mo_bf (mo_bf (mo_bf mo_ic mo_no) (mo_bf mo_push mo_no)) (mo_bf mo_ld mo_no)) (mo_bf (mo_bf (mo_bf mo_if mo_no) (mo_bf mo_cs mo_no)) (mo_bf mo_ld mo_no))) (mo_bf (mo_bf (mo_bf (mo_bf mo_if mo_no) (mo_bf mo_cs mo_no)) (mo_bf mo_push mo_no)) (mo_bf (mo_bf mo_push mo_no) (mo_bf mo_ld mo_no))))))
theorem ok_X11_alike_0 : ok_S 122 0 (sf_ld 0 1 1) := ok_iload_n (by decide +kernel : decode (mb_ 122) 0 = .ok (.iload_n 1, 1)) rfl
theorem ok_X11_alike_1 : ok_S 122 1 (sf_cs [0] 150 4) := ok_cs mt_150 (by decide +kernel : decode (mb_ 122) 1 = .ok (.invokestatic 231, 3)) tw_860 tw_861 tw_1 (by decide +kernel) (mh_ok rfl) (by decide) (by decide)
theorem ok_X11_alike_4 : ok_S 122 4 (sf_if 0 18 7) := ok_if0 (by decide +kernel : decode (mb_ 122) 4 = .ok (.ifCond .eq 14, 3)) (by decide)
theorem ok_X11_alike_7 : ok_S 122 7 (sf_ld 0 2 8) := ok_iload_n (by decide +kernel : decode (mb_ 122) 7 = .ok (.iload_n 2, 1)) rfl
theorem ok_X11_alike_8 : ok_S 122 8 (sf_push (0, 0) 9) := ok_iconst (by decide +kernel : decode (mb_ 122) 8 = .ok (.iconst 0, 1)) ⟨by decide, by decide⟩
theorem ok_X11_alike_9 : ok_S 122 9 (sf_push (0, 9999) 12) := ok_sipush (by decide +kernel : decode (mb_ 122) 9 = .ok (.sipush 9999, 3)) ⟨by decide, by decide⟩ (by decide +kernel)
theorem ok_X11_alike_12 : ok_S 122 12 (sf_cs [0, 0, 0] 145 15) := ok_cs mt_145 (by decide +kernel : decode (mb_ 122) 12 = .ok (.invokestatic 92, 3)) tw_262 tw_263 tw_1 (by decide +kernel) (mh_ok rfl) (by decide) (by decide)
theorem ok_X11_alike_15 : ok_S 122 15 (sf_if 1 20 18) := ok_if1 (by decide +kernel : decode (mb_ 122) 15 = .ok (.ifCond .ne 5, 3)) (by decide)
theorem ok_X11_alike_18 : ok_S 122 18 (sf_push (0, (-1)) 19) := ok_iconst (by decide +kernel : decode (mb_ 122) 18 = .ok (.iconst (-1), 1)) ⟨by decide, by decide⟩
theorem ok_X11_alike_19 : ok_S 122 19 (sf_ret 0) := ok_ret0 (by decide +kernel : decode (mb_ 122) 19 = .ok (.ireturn, 1)) rfl
theorem ok_X11_alike_20 : ok_S 122 20 (sf_ld 0 1 21) := ok_iload_n (by decide +kernel : decode (mb_ 122) 20 = .ok (.iload_n 1, 1)) rfl
theorem ok_X11_alike_21 : ok_S 122 21 (sf_cs [0] 248 24) := ok_cs mt_248 (by decide +kernel : decode (mb_ 122) 21 = .ok (.invokestatic 196, 3)) tw_780 tw_752 tw_20 (by decide +kernel) (mh_ok rfl) (by decide) (by decide)
theorem ok_X11_alike_24 : ok_S 122 24 (sf_push (0, 1) 25) := ok_iconst (by decide +kernel : decode (mb_ 122) 24 = .ok (.iconst 1, 1)) ⟨by decide, by decide⟩
theorem ok_X11_alike_25 : ok_S 122 25 (sf_ic 1 32 28) := ok_ic1 (by decide +kernel : decode (mb_ 122) 25 = .ok (.if_icmp .ne 7, 3)) (by decide)
theorem ok_X11_alike_28 : ok_S 122 28 (sf_push (0, 1) 29) := ok_iconst (by decide +kernel : decode (mb_ 122) 28 = .ok (.iconst 1, 1)) ⟨by decide, by decide⟩
theorem ok_X11_alike_29 : ok_S 122 29 (sf_go 33) := ok_goto (by decide +kernel : decode (mb_ 122) 29 = .ok (.goto 4, 3)) (by decide)
theorem ok_X11_alike_32 : ok_S 122 32 (sf_push (0, 0) 33) := ok_iconst (by decide +kernel : decode (mb_ 122) 32 = .ok (.iconst 0, 1)) ⟨by decide, by decide⟩
theorem ok_X11_alike_33 : ok_S 122 33 (sf_st 0 3 34) := ok_istore_n (by decide +kernel : decode (mb_ 122) 33 = .ok (.istore_n 3, 1)) rfl
theorem ok_X11_alike_34 : ok_S 122 34 (sf_ld 0 3 35) := ok_iload_n (by decide +kernel : decode (mb_ 122) 34 = .ok (.iload_n 3, 1)) rfl
theorem ok_X11_alike_35 : ok_S 122 35 (sf_if 1 47 38) := ok_if1 (by decide +kernel : decode (mb_ 122) 35 = .ok (.ifCond .ne 12, 3)) (by decide)
theorem ok_X11_alike_38 : ok_S 122 38 (sf_ld 0 2 39) := ok_iload_n (by decide +kernel : decode (mb_ 122) 38 = .ok (.iload_n 2, 1)) rfl
theorem ok_X11_alike_39 : ok_S 122 39 (sf_ld 0 1 40) := ok_iload_n (by decide +kernel : decode (mb_ 122) 39 = .ok (.iload_n 1, 1)) rfl
theorem ok_X11_alike_40 : ok_S 122 40 (sf_push (0, 0) 41) := ok_iconst (by decide +kernel : decode (mb_ 122) 40 = .ok (.iconst 0, 1)) ⟨by decide, by decide⟩
theorem ok_X11_alike_41 : ok_S 122 41 (sf_cs [0, 0] 151 44) := ok_cs mt_151 (by decide +kernel : decode (mb_ 122) 41 = .ok (.invokestatic 201, 3)) tw_781 tw_766 tw_1 (by decide +kernel) (mh_ok rfl) (by decide) (by decide)
theorem ok_X11_alike_44 : ok_S 122 44 (sf_ic 3 51 47) := ok_ic3 (by decide +kernel : decode (mb_ 122) 44 = .ok (.if_icmp .ge 7, 3)) (by decide)
theorem ok_X11_alike_47 : ok_S 122 47 (sf_ld 0 2 48) := ok_iload_n (by decide +kernel : decode (mb_ 122) 47 = .ok (.iload_n 2, 1)) rfl
theorem ok_X11_alike_48 : ok_S 122 48 (sf_go 53) := ok_goto (by decide +kernel : decode (mb_ 122) 48 = .ok (.goto 5, 3)) (by decide)
theorem ok_X11_alike_51 : ok_S 122 51 (sf_push (0, (-3)) 53) := ok_bipush (by decide +kernel : decode (mb_ 122) 51 = .ok (.bipush (-3), 2)) ⟨by decide, by decide⟩ (by decide +kernel)
theorem ok_X11_alike_53 : ok_S 122 53 (sf_ret 0) := ok_ret0 (by decide +kernel : decode (mb_ 122) 53 = .ok (.ireturn, 1)) rfl
theorem ok_X11_alike (pc : Nat) : ok_S 122 pc (cd_X11_alike pc) :=
  (ok_bf (ok_bf (ok_bf (ok_bf (ok_bf (ok_lf pc ok_X11_alike_53) (ok_lf pc ok_X11_alike_51)) (ok_bf (ok_lf pc ok_X11_alike_48) (ok_lf pc ok_X11_alike_47))) (ok_bf (ok_bf (ok_lf pc ok_X11_alike_44) (ok_lf pc ok_X11_alike_41)) (ok_bf (ok_lf pc ok_X11_alike_40) (ok_lf pc ok_X11_alike_39)))) (ok_bf (ok_bf (ok_bf (ok_lf pc ok_X11_alike_38) (ok_lf pc ok_X11_alike_35)) (ok_bf (ok_lf pc ok_X11_alike_34) (ok_lf pc ok_X11_alike_33))) (ok_bf (ok_bf (ok_lf pc ok_X11_alike_32) (ok_lf pc ok_X11_alike_29)) (ok_lf pc ok_X11_alike_28)))) (ok_bf (ok_bf (ok_bf (ok_bf (ok_lf pc ok_X11_alike_25) (ok_lf pc ok_X11_alike_24)) (ok_bf (ok_lf pc ok_X11_alike_21) (ok_lf pc ok_X11_alike_20))) (ok_bf (ok_bf (ok_lf pc ok_X11_alike_19) (ok_lf pc ok_X11_alike_18)) (ok_lf pc ok_X11_alike_15))) (ok_bf (ok_bf (ok_bf (ok_lf pc ok_X11_alike_12) (ok_lf pc ok_X11_alike_9)) (ok_bf (ok_lf pc ok_X11_alike_8) (ok_lf pc ok_X11_alike_7))) (ok_bf (ok_bf (ok_lf pc ok_X11_alike_4) (ok_lf pc ok_X11_alike_1)) (ok_lf pc ok_X11_alike_0)))))
theorem mo_X11_alike (pc : Nat) : mo_S (cd_X11_alike pc) :=
  (mo_bf (mo_bf (mo_bf (mo_bf (mo_bf (mo_bf mo_ret mo_no) (mo_bf mo_push mo_no)) (mo_bf (mo_bf mo_go mo_no) (mo_bf mo_ld mo_no))) (mo_bf (mo_bf (mo_bf mo_ic mo_no) (mo_bf mo_cs mo_no)) (mo_bf (mo_bf mo_push mo_no) (mo_bf mo_ld mo_no)))) (mo_bf (mo_bf (mo_bf (mo_bf mo_ld mo_no) (mo_bf mo_if mo_no)) (mo_bf (mo_bf mo_ld mo_no) (mo_bf mo_st mo_no))) (mo_bf (mo_bf (mo_bf mo_push mo_no) (mo_bf mo_go mo_no)) (mo_bf mo_push mo_no)))) (mo_bf (mo_bf (mo_bf (mo_bf (mo_bf mo_ic mo_no) (mo_bf mo_push mo_no)) (mo_bf (mo_bf mo_cs mo_no) (mo_bf mo_ld mo_no))) (mo_bf (mo_bf (mo_bf mo_ret mo_no) (mo_bf mo_push mo_no)) (mo_bf mo_if mo_no))) (mo_bf (mo_bf (mo_bf (mo_bf mo_cs mo_no) (mo_bf mo_push mo_no)) (mo_bf (mo_bf mo_push mo_no) (mo_bf mo_ld mo_no))) (mo_bf (mo_bf (mo_bf mo_if mo_no) (mo_bf mo_cs mo_no)) (mo_bf mo_ld mo_no)))))
theorem ok_X11_shortest_0 : ok_S 123 0 (sf_ld 0 1 1) := ok_iload_n (by decide +kernel : decode (mb_ 123) 0 = .ok (.iload_n 1, 1)) rfl
theorem ok_X11_shortest_1 : ok_S 123 1 (sf_push (0, 0) 2) := ok_iconst (by decide +kernel : decode (mb_ 123) 1 = .ok (.iconst 0, 1)) ⟨by decide, by decide⟩
theorem ok_X11_shortest_2 : ok_S 123 2 (sf_push (0, 9999) 5) := ok_sipush (by decide +kernel : decode (mb_ 123) 2 = .ok (.sipush 9999, 3)) ⟨by decide, by decide⟩ (by decide +kernel)
theorem ok_X11_shortest_5 : ok_S 123 5 (sf_cs [0, 0, 0] 145 8) := ok_cs mt_145 (by decide +kernel : decode (mb_ 123) 5 = .ok (.invokestatic 92, 3)) tw_262 tw_263 tw_1 (by decide +kernel) (mh_ok rfl) (by decide) (by decide)
theorem ok_X11_shortest_8 : ok_S 123 8 (sf_if 0 18 11) := ok_if0 (by decide +kernel : decode (mb_ 123) 8 = .ok (.ifCond .eq 10, 3)) (by decide)
theorem ok_X11_shortest_11 : ok_S 123 11 (sf_ld 0 2 12) := ok_iload_n (by decide +kernel : decode (mb_ 123) 11 = .ok (.iload_n 2, 1)) rfl
theorem ok_X11_shortest_12 : ok_S 123 12 (sf_cs [0] 150 15) := ok_cs mt_150 (by decide +kernel : decode (mb_ 123) 12 = .ok (.invokestatic 231, 3)) tw_860 tw_861 tw_1 (by decide +kernel) (mh_ok rfl) (by decide) (by decide)
theorem ok_X11_shortest_15 : ok_S 123 15 (sf_if 1 20 18) := ok_if1 (by decide +kernel : decode (mb_ 123) 15 = .ok (.ifCond .ne 5, 3)) (by decide)
theorem ok_X11_shortest_18 : ok_S 123 18 (sf_push (0, (-1)) 19) := ok_iconst (by decide +kernel : decode (mb_ 123) 18 = .ok (.iconst (-1), 1)) ⟨by decide, by decide⟩
theorem ok_X11_shortest_19 : ok_S 123 19 (sf_ret 0) := ok_ret0 (by decide +kernel : decode (mb_ 123) 19 = .ok (.ireturn, 1)) rfl
theorem ok_X11_shortest_20 : ok_S 123 20 (sf_ld 0 2 21) := ok_iload_n (by decide +kernel : decode (mb_ 123) 20 = .ok (.iload_n 2, 1)) rfl
theorem ok_X11_shortest_21 : ok_S 123 21 (sf_push (0, 0) 22) := ok_iconst (by decide +kernel : decode (mb_ 123) 21 = .ok (.iconst 0, 1)) ⟨by decide, by decide⟩
theorem ok_X11_shortest_22 : ok_S 123 22 (sf_cs [0, 0] 151 25) := ok_cs mt_151 (by decide +kernel : decode (mb_ 123) 22 = .ok (.invokestatic 201, 3)) tw_781 tw_766 tw_1 (by decide +kernel) (mh_ok rfl) (by decide) (by decide)
theorem ok_X11_shortest_25 : ok_S 123 25 (sf_st 0 3 26) := ok_istore_n (by decide +kernel : decode (mb_ 123) 25 = .ok (.istore_n 3, 1)) rfl
theorem ok_X11_shortest_26 : ok_S 123 26 (sf_ld 0 3 27) := ok_iload_n (by decide +kernel : decode (mb_ 123) 26 = .ok (.iload_n 3, 1)) rfl
theorem ok_X11_shortest_27 : ok_S 123 27 (sf_st 0 4 29) := ok_istore (by decide +kernel : decode (mb_ 123) 27 = .ok (.istore 4, 2))
theorem ok_X11_shortest_29 : ok_S 123 29 (sf_ld 0 4 31) := ok_iload (by decide +kernel : decode (mb_ 123) 29 = .ok (.iload 4, 2))
theorem ok_X11_shortest_31 : ok_S 123 31 (sf_push (0, 16) 33) := ok_bipush (by decide +kernel : decode (mb_ 123) 31 = .ok (.bipush 16, 2)) ⟨by decide, by decide⟩ (by decide +kernel)
theorem ok_X11_shortest_33 : ok_S 123 33 (sf_ic 4 68 36) := ok_ic4 (by decide +kernel : decode (mb_ 123) 33 = .ok (.if_icmp .gt 35, 3)) (by decide)
theorem ok_X11_shortest_36 : ok_S 123 36 (sf_ld 0 2 37) := ok_iload_n (by decide +kernel : decode (mb_ 123) 36 = .ok (.iload_n 2, 1)) rfl
theorem ok_X11_shortest_37 : ok_S 123 37 (sf_ld 0 4 39) := ok_iload (by decide +kernel : decode (mb_ 123) 37 = .ok (.iload 4, 2))
theorem ok_X11_shortest_39 : ok_S 123 39 (sf_i2 mx_shr 40) := ok_ishr (by decide +kernel : decode (mb_ 123) 39 = .ok (.ishr, 1))
theorem ok_X11_shortest_40 : ok_S 123 40 (sf_push (0, 1) 41) := ok_iconst (by decide +kernel : decode (mb_ 123) 40 = .ok (.iconst 1, 1)) ⟨by decide, by decide⟩
theorem ok_X11_shortest_41 : ok_S 123 41 (sf_i2 mx_and 42) := ok_iand (by decide +kernel : decode (mb_ 123) 41 = .ok (.iand, 1))
theorem ok_X11_shortest_42 : ok_S 123 42 (sf_if 0 62 45) := ok_if0 (by decide +kernel : decode (mb_ 123) 42 = .ok (.ifCond .eq 20, 3)) (by decide)
theorem ok_X11_shortest_45 : ok_S 123 45 (sf_ld 0 1 46) := ok_iload_n (by decide +kernel : decode (mb_ 123) 45 = .ok (.iload_n 1, 1)) rfl
theorem ok_X11_shortest_46 : ok_S 123 46 (sf_ld 0 4 48) := ok_iload (by decide +kernel : decode (mb_ 123) 46 = .ok (.iload 4, 2))
theorem ok_X11_shortest_48 : ok_S 123 48 (sf_cs [0, 0] 152 51) := ok_cs mt_152 (by decide +kernel : decode (mb_ 123) 48 = .ok (.invokestatic 228, 3)) tw_853 tw_854 tw_1 (by decide +kernel) (mh_ok rfl) (by decide) (by decide)
theorem ok_X11_shortest_51 : ok_S 123 51 (sf_ld 0 1 52) := ok_iload_n (by decide +kernel : decode (mb_ 123) 51 = .ok (.iload_n 1, 1)) rfl
theorem ok_X11_shortest_52 : ok_S 123 52 (sf_ld 0 3 53) := ok_iload_n (by decide +kernel : decode (mb_ 123) 52 = .ok (.iload_n 3, 1)) rfl
theorem ok_X11_shortest_53 : ok_S 123 53 (sf_cs [0, 0] 152 56) := ok_cs mt_152 (by decide +kernel : decode (mb_ 123) 53 = .ok (.invokestatic 228, 3)) tw_853 tw_854 tw_1 (by decide +kernel) (mh_ok rfl) (by decide) (by decide)
theorem ok_X11_shortest_56 : ok_S 123 56 (sf_ic 3 62 59) := ok_ic3 (by decide +kernel : decode (mb_ 123) 56 = .ok (.if_icmp .ge 6, 3)) (by decide)
theorem ok_X11_shortest_59 : ok_S 123 59 (sf_ld 0 4 61) := ok_iload (by decide +kernel : decode (mb_ 123) 59 = .ok (.iload 4, 2))
theorem ok_X11_shortest_61 : ok_S 123 61 (sf_st 0 3 62) := ok_istore_n (by decide +kernel : decode (mb_ 123) 61 = .ok (.istore_n 3, 1)) rfl
theorem ok_X11_shortest_62 : ok_S 123 62 (sf_inc 4 1 65) := ok_iinc (by decide +kernel : decode (mb_ 123) 62 = .ok (.iinc 4 1, 3))
theorem ok_X11_shortest_65 : ok_S 123 65 (sf_go 29) := ok_goto (by decide +kernel : decode (mb_ 123) 65 = .ok (.goto (-36), 3)) (by decide)
theorem ok_X11_shortest_68 : ok_S 123 68 (sf_ld 0 3 69) := ok_iload_n (by decide +kernel : decode (mb_ 123) 68 = .ok (.iload_n 3, 1)) rfl
theorem ok_X11_shortest_69 : ok_S 123 69 (sf_ret 0) := ok_ret0 (by decide +kernel : decode (mb_ 123) 69 = .ok (.ireturn, 1)) rfl
theorem ok_X11_shortest (pc : Nat) : ok_S 123 pc (cd_X11_shortest pc) :=
  (ok_bf (ok_bf (ok_bf (ok_bf (ok_bf (ok_bf (ok_lf pc ok_X11_shortest_69) (ok_lf pc ok_X11_shortest_68)) (ok_lf pc ok_X11_shortest_65)) (ok_bf (ok_lf pc ok_X11_shortest_62) (ok_lf pc ok_X11_shortest_61))) (ok_bf (ok_bf (ok_bf (ok_lf pc ok_X11_shortest_59) (ok_lf pc ok_X11_shortest_56)) (ok_lf pc ok_X11_shortest_53)) (ok_bf (ok_lf pc ok_X11_shortest_52) (ok_lf pc ok_X11_shortest_51)))) (ok_bf (ok_bf (ok_bf (ok_bf (ok_lf pc ok_X11_shortest_48) (ok_lf pc ok_X11_shortest_46)) (ok_lf pc ok_X11_shortest_45)) (ok_bf (ok_lf pc ok_X11_shortest_42) (ok_lf pc ok_X11_shortest_41))) (ok_bf (ok_bf (ok_lf pc ok_X11_shortest_40) (ok_lf pc ok_X11_shortest_39)) (ok_bf (ok_lf pc ok_X11_shortest_37) (ok_lf pc ok_X11_shortest_36))))) (ok_bf (ok_bf (ok_bf (ok_bf (ok_bf (ok_lf pc ok_X11_shortest_33) (ok_lf pc ok_X11_shortest_31)) (ok_lf pc ok_X11_shortest_29)) (ok_bf (ok_lf pc ok_X11_shortest_27) (ok_lf pc ok_X11_shortest_26))) (ok_bf (ok_bf (ok_bf (ok_lf pc ok_X11_shortest_25) (ok_lf pc ok_X11_shortest_22)) (ok_lf pc ok_X11_shortest_21)) (ok_bf (ok_lf pc ok_X11_shortest_20) (ok_lf pc ok_X11_shortest_19)))) (ok_bf (ok_bf (ok_bf (ok_bf (ok_lf pc ok_X11_shortest_18) (ok_lf pc ok_X11_shortest_15)) (ok_lf pc ok_X11_shortest_12)) (ok_bf (ok_lf pc ok_X11_shortest_11) (ok_lf pc ok_X11_shortest_8))) (ok_bf (ok_bf (ok_lf pc ok_X11_shortest_5) (ok_lf pc ok_X11_shortest_2)) (ok_bf (ok_lf pc ok_X11_shortest_1) (ok_lf pc ok_X11_shortest_0))))))
theorem mo_X11_shortest (pc : Nat) : mo_S (cd_X11_shortest pc) :=
  (mo_bf (mo_bf (mo_bf (mo_bf (mo_bf (mo_bf (mo_bf mo_ret mo_no) (mo_bf mo_ld mo_no)) (mo_bf mo_go mo_no)) (mo_bf (mo_bf mo_inc mo_no) (mo_bf mo_st mo_no))) (mo_bf (mo_bf (mo_bf (mo_bf mo_ld mo_no) (mo_bf mo_ic mo_no)) (mo_bf mo_cs mo_no)) (mo_bf (mo_bf mo_ld mo_no) (mo_bf mo_ld mo_no)))) (mo_bf (mo_bf (mo_bf (mo_bf (mo_bf mo_cs mo_no) (mo_bf mo_ld mo_no)) (mo_bf mo_ld mo_no)) (mo_bf (mo_bf mo_if mo_no) (mo_bf mo_i2 mo_no))) (mo_bf (mo_bf (mo_bf mo_push mo_no) (mo_bf mo_i2 mo_no)) (mo_bf (mo_bf mo_ld mo_no) (mo_bf mo_ld mo_no))))) (mo_bf (mo_bf (mo_bf (mo_bf (mo_bf (mo_bf mo_ic mo_no) (mo_bf mo_push mo_no)) (mo_bf mo_ld mo_no)) (mo_bf (mo_bf mo_st mo_no) (mo_bf mo_ld mo_no))) (mo_bf (mo_bf (mo_bf (mo_bf mo_st mo_no) (mo_bf mo_cs mo_no)) (mo_bf mo_push mo_no)) (mo_bf (mo_bf mo_ld mo_no) (mo_bf mo_ret mo_no)))) (mo_bf (mo_bf (mo_bf (mo_bf (mo_bf mo_push mo_no) (mo_bf mo_if mo_no)) (mo_bf mo_cs mo_no)) (mo_bf (mo_bf mo_ld mo_no) (mo_bf mo_if mo_no))) (mo_bf (mo_bf (mo_bf mo_cs mo_no) (mo_bf mo_push mo_no)) (mo_bf (mo_bf mo_push mo_no) (mo_bf mo_ld mo_no))))))
theorem ok_X11_add_0 : ok_S 124 0 (sf_ld 2 0 1) := ok_aload_n (by decide +kernel : decode (mb_ 124) 0 = .ok (.aload_n 0, 1)) rfl
theorem ok_X11_add_1 : ok_S 124 1 (sf_gr 7 7 3 4) := ok_gr fd_7_3 (by decide +kernel : decode (mb_ 124) 1 = .ok (.getfield 28, 3)) tw_209 (Or.inl rfl) rfl
theorem ok_X11_add_4 : ok_S 124 4 (sf_ld 0 1 5) := ok_iload_n (by decide +kernel : decode (mb_ 124) 4 = .ok (.iload_n 1, 1)) rfl
theorem ok_X11_add_5 : ok_S 124 5 (sf_cv 8 [2, 0] 90 8) := ok_cv mt_90 cl_8 (by decide +kernel : decode (mb_ 124) 5 = .ok (.invokevirtual 138, 3)) tw_573 tw_514 tw_515 tw_3 rfl (by decide +kernel) (mh_ok rfl) (by decide) (by decide)
theorem ok_X11_add_8 : ok_S 124 8 (sf_st 2 3 9) := ok_astore_n (by decide +kernel : decode (mb_ 124) 8 = .ok (.astore_n 3, 1)) rfl
theorem ok_X11_add_9 : ok_S 124 9 (sf_ld 2 0 10) := ok_aload_n (by decide +kernel : decode (mb_ 124) 9 = .ok (.aload_n 0, 1)) rfl
theorem ok_X11_add_10 : ok_S 124 10 (sf_gr 7 7 3 13) := ok_gr fd_7_3 (by decide +kernel : decode (mb_ 124) 10 = .ok (.getfield 28, 3)) tw_209 (Or.inl rfl) rfl
theorem ok_X11_add_13 : ok_S 124 13 (sf_ld 0 2 14) := ok_iload_n (by decide +kernel : decode (mb_ 124) 13 = .ok (.iload_n 2, 1)) rfl
theorem ok_X11_add_14 : ok_S 124 14 (sf_cv 8 [2, 0] 90 17) := ok_cv mt_90 cl_8 (by decide +kernel : decode (mb_ 124) 14 = .ok (.invokevirtual 138, 3)) tw_573 tw_514 tw_515 tw_3 rfl (by decide +kernel) (mh_ok rfl) (by decide) (by decide)
theorem ok_X11_add_17 : ok_S 124 17 (sf_st 2 4 19) := ok_astore (by decide +kernel : decode (mb_ 124) 17 = .ok (.astore 4, 2))
theorem ok_X11_add_19 : ok_S 124 19 (sf_ld 2 3 20) := ok_aload_n (by decide +kernel : decode (mb_ 124) 19 = .ok (.aload_n 3, 1)) rfl
theorem ok_X11_add_20 : ok_S 124 20 (sf_nul 28 23) := ok_nul (by decide +kernel : decode (mb_ 124) 20 = .ok (.ifnull 8, 3)) (by decide)
theorem ok_X11_add_23 : ok_S 124 23 (sf_ld 2 4 25) := ok_aload (by decide +kernel : decode (mb_ 124) 23 = .ok (.aload 4, 2))
theorem ok_X11_add_25 : ok_S 124 25 (sf_nul 28 30) := ok_nnul (by decide +kernel : decode (mb_ 124) 25 = .ok (.ifnonnull 5, 3)) (by decide)
theorem ok_X11_add_28 : ok_S 124 28 (sf_push (0, (-1)) 29) := ok_iconst (by decide +kernel : decode (mb_ 124) 28 = .ok (.iconst (-1), 1)) ⟨by decide, by decide⟩
theorem ok_X11_add_29 : ok_S 124 29 (sf_ret 0) := ok_ret0 (by decide +kernel : decode (mb_ 124) 29 = .ok (.ireturn, 1)) rfl
theorem ok_X11_add_30 : ok_S 124 30 (sf_ld 2 3 31) := ok_aload_n (by decide +kernel : decode (mb_ 124) 30 = .ok (.aload_n 3, 1)) rfl
theorem ok_X11_add_31 : ok_S 124 31 (sf_cu [(1, 39), (2, 55), (3, 1), (4, 34), (5, 80), (6, 8)] [2] 34) := ok_cu (x := ⟨"RoomNumbers$Note", "kind", "()I"⟩) (ow := "RoomNumbers$Note") ⟨tw_574, tw_520, tw_518, ⟨_, _, _, tw_536⟩, mh_ok rfl, (by decide +kernel)⟩ (List.forall_mem_cons.mpr ⟨⟨"RoomNumbers$Note", cl_1, mt_39, tw_519, tw_518, tw_14, by decide, by decide⟩, (List.forall_mem_cons.mpr ⟨⟨"RoomNumbers$Strokes", cl_2, mt_55, tw_530, tw_531, tw_15, by decide, by decide⟩, (List.forall_mem_cons.mpr ⟨⟨"RoomNumbers$Broken", cl_3, mt_1, tw_521, tw_522, tw_16, by decide, by decide⟩, (List.forall_mem_cons.mpr ⟨⟨"RoomNumbers$Left", cl_4, mt_34, tw_527, tw_528, tw_17, by decide, by decide⟩, (List.forall_mem_cons.mpr ⟨⟨"RoomNumbers$Turned", cl_5, mt_80, tw_533, tw_534, tw_18, by decide, by decide⟩, (List.forall_mem_cons.mpr ⟨⟨"RoomNumbers$Debt", cl_6, mt_8, tw_524, tw_525, tw_19, by decide, by decide⟩, (fun _ h => absurd h List.not_mem_nil)⟩)⟩)⟩)⟩)⟩)⟩) (by decide +kernel : decode (mb_ 124) 31 = .ok (.invokevirtual 142, 3)) rfl
theorem ok_X11_add_34 : ok_S 124 34 (sf_if 1 45 37) := ok_if1 (by decide +kernel : decode (mb_ 124) 34 = .ok (.ifCond .ne 11, 3)) (by decide)
theorem ok_X11_add_37 : ok_S 124 37 (sf_ld 2 4 39) := ok_aload (by decide +kernel : decode (mb_ 124) 37 = .ok (.aload 4, 2))
theorem ok_X11_add_39 : ok_S 124 39 (sf_cu [(1, 39), (2, 55), (3, 1), (4, 34), (5, 80), (6, 8)] [2] 42) := ok_cu (x := ⟨"RoomNumbers$Note", "kind", "()I"⟩) (ow := "RoomNumbers$Note") ⟨tw_574, tw_520, tw_518, ⟨_, _, _, tw_536⟩, mh_ok rfl, (by decide +kernel)⟩ (List.forall_mem_cons.mpr ⟨⟨"RoomNumbers$Note", cl_1, mt_39, tw_519, tw_518, tw_14, by decide, by decide⟩, (List.forall_mem_cons.mpr ⟨⟨"RoomNumbers$Strokes", cl_2, mt_55, tw_530, tw_531, tw_15, by decide, by decide⟩, (List.forall_mem_cons.mpr ⟨⟨"RoomNumbers$Broken", cl_3, mt_1, tw_521, tw_522, tw_16, by decide, by decide⟩, (List.forall_mem_cons.mpr ⟨⟨"RoomNumbers$Left", cl_4, mt_34, tw_527, tw_528, tw_17, by decide, by decide⟩, (List.forall_mem_cons.mpr ⟨⟨"RoomNumbers$Turned", cl_5, mt_80, tw_533, tw_534, tw_18, by decide, by decide⟩, (List.forall_mem_cons.mpr ⟨⟨"RoomNumbers$Debt", cl_6, mt_8, tw_524, tw_525, tw_19, by decide, by decide⟩, (fun _ h => absurd h List.not_mem_nil)⟩)⟩)⟩)⟩)⟩)⟩) (by decide +kernel : decode (mb_ 124) 39 = .ok (.invokevirtual 142, 3)) rfl
theorem ok_X11_add_42 : ok_S 124 42 (sf_if 0 48 45) := ok_if0 (by decide +kernel : decode (mb_ 124) 42 = .ok (.ifCond .eq 6, 3)) (by decide)
theorem ok_X11_add_45 : ok_S 124 45 (sf_push (0, (-4)) 47) := ok_bipush (by decide +kernel : decode (mb_ 124) 45 = .ok (.bipush (-4), 2)) ⟨by decide, by decide⟩ (by decide +kernel)
theorem ok_X11_add_47 : ok_S 124 47 (sf_ret 0) := ok_ret0 (by decide +kernel : decode (mb_ 124) 47 = .ok (.ireturn, 1)) rfl
theorem ok_X11_add_48 : ok_S 124 48 (sf_ld 2 3 49) := ok_aload_n (by decide +kernel : decode (mb_ 124) 48 = .ok (.aload_n 3, 1)) rfl
theorem ok_X11_add_49 : ok_S 124 49 (sf_gr 1 6 2 52) := ok_gr fd_1_2 (by decide +kernel : decode (mb_ 124) 49 = .ok (.getfield 154, 3)) tw_423 (Or.inl rfl) rfl
theorem ok_X11_add_52 : ok_S 124 52 (sf_alen 53) := ok_alen (by decide +kernel : decode (mb_ 124) 52 = .ok (.arraylength, 1))
theorem ok_X11_add_53 : ok_S 124 53 (sf_ld 2 4 55) := ok_aload (by decide +kernel : decode (mb_ 124) 53 = .ok (.aload 4, 2))
theorem ok_X11_add_55 : ok_S 124 55 (sf_gr 1 6 2 58) := ok_gr fd_1_2 (by decide +kernel : decode (mb_ 124) 55 = .ok (.getfield 154, 3)) tw_423 (Or.inl rfl) rfl
theorem ok_X11_add_58 : ok_S 124 58 (sf_alen 59) := ok_alen (by decide +kernel : decode (mb_ 124) 58 = .ok (.arraylength, 1))
theorem ok_X11_add_59 : ok_S 124 59 (sf_m2 mx_max 62) := ok_mmax (by decide +kernel : decode (mb_ 124) 59 = .ok (.invokestatic 234, 3)) tw_872 tw_873 tw_8 tw_874
theorem ok_X11_add_62 : ok_S 124 62 (sf_st 0 5 64) := ok_istore (by decide +kernel : decode (mb_ 124) 62 = .ok (.istore 5, 2))
theorem ok_X11_add_64 : ok_S 124 64 (sf_ld 0 5 66) := ok_iload (by decide +kernel : decode (mb_ 124) 64 = .ok (.iload 5, 2))
theorem ok_X11_add_66 : ok_S 124 66 (sf_newa 20 68) := ok_newa rfl (Or.inl ⟨rfl, rfl⟩) (by decide +kernel : decode (mb_ 124) 66 = .ok (.newarray .int, 2)) tw_81
theorem ok_X11_add_68 : ok_S 124 68 (sf_st 2 6 70) := ok_astore (by decide +kernel : decode (mb_ 124) 68 = .ok (.astore 6, 2))
theorem ok_X11_add_70 : ok_S 124 70 (sf_push (0, 0) 71) := ok_iconst (by decide +kernel : decode (mb_ 124) 70 = .ok (.iconst 0, 1)) ⟨by decide, by decide⟩
theorem ok_X11_add_71 : ok_S 124 71 (sf_st 0 7 73) := ok_istore (by decide +kernel : decode (mb_ 124) 71 = .ok (.istore 7, 2))
theorem ok_X11_add_73 : ok_S 124 73 (sf_ld 0 7 75) := ok_iload (by decide +kernel : decode (mb_ 124) 73 = .ok (.iload 7, 2))
theorem ok_X11_add_75 : ok_S 124 75 (sf_ld 0 5 77) := ok_iload (by decide +kernel : decode (mb_ 124) 75 = .ok (.iload 5, 2))
theorem ok_X11_add_77 : ok_S 124 77 (sf_ic 3 129 80) := ok_ic3 (by decide +kernel : decode (mb_ 124) 77 = .ok (.if_icmp .ge 52, 3)) (by decide)
theorem ok_X11_add_80 : ok_S 124 80 (sf_ld 2 3 81) := ok_aload_n (by decide +kernel : decode (mb_ 124) 80 = .ok (.aload_n 3, 1)) rfl
theorem ok_X11_add_81 : ok_S 124 81 (sf_ld 0 5 83) := ok_iload (by decide +kernel : decode (mb_ 124) 81 = .ok (.iload 5, 2))
theorem ok_X11_add_83 : ok_S 124 83 (sf_push (0, 1) 84) := ok_iconst (by decide +kernel : decode (mb_ 124) 83 = .ok (.iconst 1, 1)) ⟨by decide, by decide⟩
theorem ok_X11_add_84 : ok_S 124 84 (sf_i2 mx_sub 85) := ok_isub (by decide +kernel : decode (mb_ 124) 84 = .ok (.isub, 1))
theorem ok_X11_add_85 : ok_S 124 85 (sf_ld 0 7 87) := ok_iload (by decide +kernel : decode (mb_ 124) 85 = .ok (.iload 7, 2))
theorem ok_X11_add_87 : ok_S 124 87 (sf_i2 mx_sub 88) := ok_isub (by decide +kernel : decode (mb_ 124) 87 = .ok (.isub, 1))
theorem ok_X11_add_88 : ok_S 124 88 (sf_ci 1 6 [2, 0] 41 91) := ok_cu1 (x := ⟨"RoomNumbers$Note", "markFromLast", "(I)I"⟩) (ow := "RoomNumbers$Note") ⟨tw_875, tw_878, tw_876, ⟨_, _, _, tw_884⟩, mh_ok rfl, (by decide +kernel)⟩ (by
    intro t h1 h2
    rcases (by omega : t = 1 ∨ t = 2 ∨ t = 3 ∨ t = 4 ∨ t = 5 ∨ t = 6) with e | e | e | e | e | e <;> subst e
    · exact ⟨"RoomNumbers$Note", cl_1, mt_41, tw_877, tw_876, tw_14, by decide, by decide⟩
    · exact ⟨"RoomNumbers$Strokes", cl_2, mt_41, tw_882, tw_876, tw_14, by decide, by decide⟩
    · exact ⟨"RoomNumbers$Broken", cl_3, mt_41, tw_879, tw_876, tw_14, by decide, by decide⟩
    · exact ⟨"RoomNumbers$Left", cl_4, mt_41, tw_881, tw_876, tw_14, by decide, by decide⟩
    · exact ⟨"RoomNumbers$Turned", cl_5, mt_41, tw_883, tw_876, tw_14, by decide, by decide⟩
    · exact ⟨"RoomNumbers$Debt", cl_6, mt_41, tw_880, tw_876, tw_14, by decide, by decide⟩) mt_41 (by decide) (by decide +kernel : decode (mb_ 124) 88 = .ok (.invokevirtual 239, 3)) rfl
theorem ok_X11_add_91 : ok_S 124 91 (sf_ld 2 4 93) := ok_aload (by decide +kernel : decode (mb_ 124) 91 = .ok (.aload 4, 2))
theorem ok_X11_add_93 : ok_S 124 93 (sf_ld 0 5 95) := ok_iload (by decide +kernel : decode (mb_ 124) 93 = .ok (.iload 5, 2))
theorem ok_X11_add_95 : ok_S 124 95 (sf_push (0, 1) 96) := ok_iconst (by decide +kernel : decode (mb_ 124) 95 = .ok (.iconst 1, 1)) ⟨by decide, by decide⟩
theorem ok_X11_add_96 : ok_S 124 96 (sf_i2 mx_sub 97) := ok_isub (by decide +kernel : decode (mb_ 124) 96 = .ok (.isub, 1))
theorem ok_X11_add_97 : ok_S 124 97 (sf_ld 0 7 99) := ok_iload (by decide +kernel : decode (mb_ 124) 97 = .ok (.iload 7, 2))
theorem ok_X11_add_99 : ok_S 124 99 (sf_i2 mx_sub 100) := ok_isub (by decide +kernel : decode (mb_ 124) 99 = .ok (.isub, 1))
theorem ok_X11_add_100 : ok_S 124 100 (sf_ci 1 6 [2, 0] 41 103) := ok_cu1 (x := ⟨"RoomNumbers$Note", "markFromLast", "(I)I"⟩) (ow := "RoomNumbers$Note") ⟨tw_875, tw_878, tw_876, ⟨_, _, _, tw_884⟩, mh_ok rfl, (by decide +kernel)⟩ (by
    intro t h1 h2
    rcases (by omega : t = 1 ∨ t = 2 ∨ t = 3 ∨ t = 4 ∨ t = 5 ∨ t = 6) with e | e | e | e | e | e <;> subst e
    · exact ⟨"RoomNumbers$Note", cl_1, mt_41, tw_877, tw_876, tw_14, by decide, by decide⟩
    · exact ⟨"RoomNumbers$Strokes", cl_2, mt_41, tw_882, tw_876, tw_14, by decide, by decide⟩
    · exact ⟨"RoomNumbers$Broken", cl_3, mt_41, tw_879, tw_876, tw_14, by decide, by decide⟩
    · exact ⟨"RoomNumbers$Left", cl_4, mt_41, tw_881, tw_876, tw_14, by decide, by decide⟩
    · exact ⟨"RoomNumbers$Turned", cl_5, mt_41, tw_883, tw_876, tw_14, by decide, by decide⟩
    · exact ⟨"RoomNumbers$Debt", cl_6, mt_41, tw_880, tw_876, tw_14, by decide, by decide⟩) mt_41 (by decide) (by decide +kernel : decode (mb_ 124) 100 = .ok (.invokevirtual 239, 3)) rfl
theorem ok_X11_add_103 : ok_S 124 103 (sf_i2 mx_add 104) := ok_iadd (by decide +kernel : decode (mb_ 124) 103 = .ok (.iadd, 1))
theorem ok_X11_add_104 : ok_S 124 104 (sf_st 0 8 106) := ok_istore (by decide +kernel : decode (mb_ 124) 104 = .ok (.istore 8, 2))
theorem ok_X11_add_106 : ok_S 124 106 (sf_ld 0 8 108) := ok_iload (by decide +kernel : decode (mb_ 124) 106 = .ok (.iload 8, 2))
theorem ok_X11_add_108 : ok_S 124 108 (sf_push (0, 15) 110) := ok_bipush (by decide +kernel : decode (mb_ 124) 108 = .ok (.bipush 15, 2)) ⟨by decide, by decide⟩ (by decide +kernel)
theorem ok_X11_add_110 : ok_S 124 110 (sf_ic 5 116 113) := ok_ic5 (by decide +kernel : decode (mb_ 124) 110 = .ok (.if_icmp .le 6, 3)) (by decide)
theorem ok_X11_add_113 : ok_S 124 113 (sf_push (0, (-4)) 115) := ok_bipush (by decide +kernel : decode (mb_ 124) 113 = .ok (.bipush (-4), 2)) ⟨by decide, by decide⟩ (by decide +kernel)
theorem ok_X11_add_115 : ok_S 124 115 (sf_ret 0) := ok_ret0 (by decide +kernel : decode (mb_ 124) 115 = .ok (.ireturn, 1)) rfl
theorem ok_X11_add_116 : ok_S 124 116 (sf_ld 2 6 118) := ok_aload (by decide +kernel : decode (mb_ 124) 116 = .ok (.aload 6, 2))
theorem ok_X11_add_118 : ok_S 124 118 (sf_ld 0 7 120) := ok_iload (by decide +kernel : decode (mb_ 124) 118 = .ok (.iload 7, 2))
theorem ok_X11_add_120 : ok_S 124 120 (sf_ld 0 8 122) := ok_iload (by decide +kernel : decode (mb_ 124) 120 = .ok (.iload 8, 2))
theorem ok_X11_add_122 : ok_S 124 122 (sf_iast 123) := ok_iast (by decide +kernel : decode (mb_ 124) 122 = .ok (.iastore, 1))
theorem ok_X11_add_123 : ok_S 124 123 (sf_inc 7 1 126) := ok_iinc (by decide +kernel : decode (mb_ 124) 123 = .ok (.iinc 7 1, 3))
theorem ok_X11_add_126 : ok_S 124 126 (sf_go 73) := ok_goto (by decide +kernel : decode (mb_ 124) 126 = .ok (.goto (-53), 3)) (by decide)
theorem ok_X11_add_129 : ok_S 124 129 (sf_ld 2 0 130) := ok_aload_n (by decide +kernel : decode (mb_ 124) 129 = .ok (.aload_n 0, 1)) rfl
theorem ok_X11_add_130 : ok_S 124 130 (sf_gr 7 7 3 133) := ok_gr fd_7_3 (by decide +kernel : decode (mb_ 124) 130 = .ok (.getfield 28, 3)) tw_209 (Or.inl rfl) rfl
theorem ok_X11_add_133 : ok_S 124 133 (sf_gi 8 8 3 136) := ok_gi fd_8_3 (by decide +kernel : decode (mb_ 124) 133 = .ok (.getfield 110, 3)) tw_55 (Or.inl rfl) rfl
theorem ok_X11_add_136 : ok_S 124 136 (sf_push (0, 6) 138) := ok_bipush (by decide +kernel : decode (mb_ 124) 136 = .ok (.bipush 6, 2)) ⟨by decide, by decide⟩ (by decide +kernel)
theorem ok_X11_add_138 : ok_S 124 138 (sf_ic 2 144 141) := ok_ic2 (by decide +kernel : decode (mb_ 124) 138 = .ok (.if_icmp .lt 6, 3)) (by decide)
theorem ok_X11_add_141 : ok_S 124 141 (sf_push (0, (-2)) 143) := ok_bipush (by decide +kernel : decode (mb_ 124) 141 = .ok (.bipush (-2), 2)) ⟨by decide, by decide⟩ (by decide +kernel)
theorem ok_X11_add_143 : ok_S 124 143 (sf_ret 0) := ok_ret0 (by decide +kernel : decode (mb_ 124) 143 = .ok (.ireturn, 1)) rfl
theorem ok_X11_add_144 : ok_S 124 144 (sf_ld 2 0 145) := ok_aload_n (by decide +kernel : decode (mb_ 124) 144 = .ok (.aload_n 0, 1)) rfl
theorem ok_X11_add_145 : ok_S 124 145 (sf_gr 7 7 3 148) := ok_gr fd_7_3 (by decide +kernel : decode (mb_ 124) 145 = .ok (.getfield 28, 3)) tw_209 (Or.inl rfl) rfl
theorem ok_X11_add_148 : ok_S 124 148 (sf_push (0, 0) 149) := ok_iconst (by decide +kernel : decode (mb_ 124) 148 = .ok (.iconst 0, 1)) ⟨by decide, by decide⟩
theorem ok_X11_add_149 : ok_S 124 149 (sf_ld 2 3 150) := ok_aload_n (by decide +kernel : decode (mb_ 124) 149 = .ok (.aload_n 3, 1)) rfl
theorem ok_X11_add_150 : ok_S 124 150 (sf_gi 1 6 3 153) := ok_gi fd_1_3 (by decide +kernel : decode (mb_ 124) 150 = .ok (.getfield 148, 3)) tw_427 (Or.inl rfl) rfl
theorem ok_X11_add_153 : ok_S 124 153 (sf_push (0, 0) 154) := ok_iconst (by decide +kernel : decode (mb_ 124) 153 = .ok (.iconst 0, 1)) ⟨by decide, by decide⟩
theorem ok_X11_add_154 : ok_S 124 154 (sf_ld 2 6 156) := ok_aload (by decide +kernel : decode (mb_ 124) 154 = .ok (.aload 6, 2))
theorem ok_X11_add_156 : ok_S 124 156 (sf_cv 8 [2, 0, 0, 0, 2] 91 159) := ok_cv mt_91 cl_8 (by decide +kernel : decode (mb_ 124) 156 = .ok (.invokevirtual 134, 3)) tw_568 tw_385 tw_386 tw_3 rfl (by decide +kernel) (mh_ok rfl) (by decide) (by decide)
theorem ok_X11_add_159 : ok_S 124 159 (sf_ret 0) := ok_ret0 (by decide +kernel : decode (mb_ 124) 159 = .ok (.ireturn, 1)) rfl
theorem ok_X11_add (pc : Nat) : ok_S 124 pc (cd_X11_add pc) :=
  (ok_bf (ok_bf (ok_bf (ok_bf (ok_bf (ok_bf (ok_bf (ok_lf pc ok_X11_add_159) (ok_lf pc ok_X11_add_156)) (ok_lf pc ok_X11_add_154)) (ok_bf (ok_bf (ok_lf pc ok_X11_add_153) (ok_lf pc ok_X11_add_150)) (ok_lf pc ok_X11_add_149))) (ok_bf (ok_bf (ok_bf (ok_lf pc ok_X11_add_148) (ok_lf pc ok_X11_add_145)) (ok_lf pc ok_X11_add_144)) (ok_bf (ok_lf pc ok_X11_add_143) (ok_lf pc ok_X11_add_141)))) (ok_bf (ok_bf (ok_bf (ok_bf (ok_lf pc ok_X11_add_138) (ok_lf pc ok_X11_add_136)) (ok_lf pc ok_X11_add_133)) (ok_bf (ok_lf pc ok_X11_add_130) (ok_lf pc ok_X11_add_129))) (ok_bf (ok_bf (ok_bf (ok_lf pc ok_X11_add_126) (ok_lf pc ok_X11_add_123)) (ok_lf pc ok_X11_add_122)) (ok_bf (ok_lf pc ok_X11_add_120) (ok_lf pc ok_X11_add_118))))) (ok_bf (ok_bf (ok_bf (ok_bf (ok_bf (ok_lf pc ok_X11_add_116) (ok_lf pc ok_X11_add_115)) (ok_lf pc ok_X11_add_113)) (ok_bf (ok_bf (ok_lf pc ok_X11_add_110) (ok_lf pc ok_X11_add_108)) (ok_lf pc ok_X11_add_106))) (ok_bf (ok_bf (ok_bf (ok_lf pc ok_X11_add_104) (ok_lf pc ok_X11_add_103)) (ok_lf pc ok_X11_add_100)) (ok_bf (ok_lf pc ok_X11_add_99) (ok_lf pc ok_X11_add_97)))) (ok_bf (ok_bf (ok_bf (ok_bf (ok_lf pc ok_X11_add_96) (ok_lf pc ok_X11_add_95)) (ok_lf pc ok_X11_add_93)) (ok_bf (ok_lf pc ok_X11_add_91) (ok_lf pc ok_X11_add_88))) (ok_bf (ok_bf (ok_bf (ok_lf pc ok_X11_add_87) (ok_lf pc ok_X11_add_85)) (ok_lf pc ok_X11_add_84)) (ok_bf (ok_lf pc ok_X11_add_83) (ok_lf pc ok_X11_add_81)))))) (ok_bf (ok_bf (ok_bf (ok_bf (ok_bf (ok_bf (ok_lf pc ok_X11_add_80) (ok_lf pc ok_X11_add_77)) (ok_lf pc ok_X11_add_75)) (ok_bf (ok_bf (ok_lf pc ok_X11_add_73) (ok_lf pc ok_X11_add_71)) (ok_lf pc ok_X11_add_70))) (ok_bf (ok_bf (ok_bf (ok_lf pc ok_X11_add_68) (ok_lf pc ok_X11_add_66)) (ok_lf pc ok_X11_add_64)) (ok_bf (ok_lf pc ok_X11_add_62) (ok_lf pc ok_X11_add_59)))) (ok_bf (ok_bf (ok_bf (ok_bf (ok_lf pc ok_X11_add_58) (ok_lf pc ok_X11_add_55)) (ok_lf pc ok_X11_add_53)) (ok_bf (ok_lf pc ok_X11_add_52) (ok_lf pc ok_X11_add_49))) (ok_bf (ok_bf (ok_bf (ok_lf pc ok_X11_add_48) (ok_lf pc ok_X11_add_47)) (ok_lf pc ok_X11_add_45)) (ok_bf (ok_lf pc ok_X11_add_42) (ok_lf pc ok_X11_add_39))))) (ok_bf (ok_bf (ok_bf (ok_bf (ok_bf (ok_lf pc ok_X11_add_37) (ok_lf pc ok_X11_add_34)) (ok_lf pc ok_X11_add_31)) (ok_bf (ok_lf pc ok_X11_add_30) (ok_lf pc ok_X11_add_29))) (ok_bf (ok_bf (ok_bf (ok_lf pc ok_X11_add_28) (ok_lf pc ok_X11_add_25)) (ok_lf pc ok_X11_add_23)) (ok_bf (ok_lf pc ok_X11_add_20) (ok_lf pc ok_X11_add_19)))) (ok_bf (ok_bf (ok_bf (ok_bf (ok_lf pc ok_X11_add_17) (ok_lf pc ok_X11_add_14)) (ok_lf pc ok_X11_add_13)) (ok_bf (ok_lf pc ok_X11_add_10) (ok_lf pc ok_X11_add_9))) (ok_bf (ok_bf (ok_bf (ok_lf pc ok_X11_add_8) (ok_lf pc ok_X11_add_5)) (ok_lf pc ok_X11_add_4)) (ok_bf (ok_lf pc ok_X11_add_1) (ok_lf pc ok_X11_add_0)))))))
theorem mo_X11_add (pc : Nat) : mo_S (cd_X11_add pc) :=
  (mo_bf (mo_bf (mo_bf (mo_bf (mo_bf (mo_bf (mo_bf (mo_bf mo_ret mo_no) (mo_bf mo_cv mo_no)) (mo_bf mo_ld mo_no)) (mo_bf (mo_bf (mo_bf mo_push mo_no) (mo_bf mo_gi mo_no)) (mo_bf mo_ld mo_no))) (mo_bf (mo_bf (mo_bf (mo_bf mo_push mo_no) (mo_bf mo_gr mo_no)) (mo_bf mo_ld mo_no)) (mo_bf (mo_bf mo_ret mo_no) (mo_bf mo_push mo_no)))) (mo_bf (mo_bf (mo_bf (mo_bf (mo_bf mo_ic mo_no) (mo_bf mo_push mo_no)) (mo_bf mo_gi mo_no)) (mo_bf (mo_bf mo_gr mo_no) (mo_bf mo_ld mo_no))) (mo_bf (mo_bf (mo_bf (mo_bf mo_go mo_no) (mo_bf mo_inc mo_no)) (mo_bf mo_iast mo_no)) (mo_bf (mo_bf mo_ld mo_no) (mo_bf mo_ld mo_no))))) (mo_bf (mo_bf (mo_bf (mo_bf (mo_bf (mo_bf mo_ld mo_no) (mo_bf mo_ret mo_no)) (mo_bf mo_push mo_no)) (mo_bf (mo_bf (mo_bf mo_ic mo_no) (mo_bf mo_push mo_no)) (mo_bf mo_ld mo_no))) (mo_bf (mo_bf (mo_bf (mo_bf mo_st mo_no) (mo_bf mo_i2 mo_no)) (mo_bf mo_ci mo_no)) (mo_bf (mo_bf mo_i2 mo_no) (mo_bf mo_ld mo_no)))) (mo_bf (mo_bf (mo_bf (mo_bf (mo_bf mo_i2 mo_no) (mo_bf mo_push mo_no)) (mo_bf mo_ld mo_no)) (mo_bf (mo_bf mo_ld mo_no) (mo_bf mo_ci mo_no))) (mo_bf (mo_bf (mo_bf (mo_bf mo_i2 mo_no) (mo_bf mo_ld mo_no)) (mo_bf mo_i2 mo_no)) (mo_bf (mo_bf mo_push mo_no) (mo_bf mo_ld mo_no)))))) (mo_bf (mo_bf (mo_bf (mo_bf (mo_bf (mo_bf (mo_bf mo_ld mo_no) (mo_bf mo_ic mo_no)) (mo_bf mo_ld mo_no)) (mo_bf (mo_bf (mo_bf mo_ld mo_no) (mo_bf mo_st mo_no)) (mo_bf mo_push mo_no))) (mo_bf (mo_bf (mo_bf (mo_bf mo_st mo_no) (mo_bf mo_newa mo_no)) (mo_bf mo_ld mo_no)) (mo_bf (mo_bf mo_st mo_no) (mo_bf mo_m2 mo_no)))) (mo_bf (mo_bf (mo_bf (mo_bf (mo_bf mo_alen mo_no) (mo_bf mo_gr mo_no)) (mo_bf mo_ld mo_no)) (mo_bf (mo_bf mo_alen mo_no) (mo_bf mo_gr mo_no))) (mo_bf (mo_bf (mo_bf (mo_bf mo_ld mo_no) (mo_bf mo_ret mo_no)) (mo_bf mo_push mo_no)) (mo_bf (mo_bf mo_if mo_no) (mo_bf mo_cu mo_no))))) (mo_bf (mo_bf (mo_bf (mo_bf (mo_bf (mo_bf mo_ld mo_no) (mo_bf mo_if mo_no)) (mo_bf mo_cu mo_no)) (mo_bf (mo_bf mo_ld mo_no) (mo_bf mo_ret mo_no))) (mo_bf (mo_bf (mo_bf (mo_bf mo_push mo_no) (mo_bf mo_nul mo_no)) (mo_bf mo_ld mo_no)) (mo_bf (mo_bf mo_nul mo_no) (mo_bf mo_ld mo_no)))) (mo_bf (mo_bf (mo_bf (mo_bf (mo_bf mo_st mo_no) (mo_bf mo_cv mo_no)) (mo_bf mo_ld mo_no)) (mo_bf (mo_bf mo_gr mo_no) (mo_bf mo_ld mo_no))) (mo_bf (mo_bf (mo_bf (mo_bf mo_st mo_no) (mo_bf mo_cv mo_no)) (mo_bf mo_ld mo_no)) (mo_bf (mo_bf mo_gr mo_no) (mo_bf mo_ld mo_no)))))))
theorem ok_X11_seed_0 : ok_S 125 0 (sf_ld 2 0 1) := ok_aload_n (by decide +kernel : decode (mb_ 125) 0 = .ok (.aload_n 0, 1)) rfl
theorem ok_X11_seed_1 : ok_S 125 1 (sf_gi 7 7 6 4) := ok_gi fd_7_6 (by decide +kernel : decode (mb_ 125) 1 = .ok (.getfield 41, 3)) tw_212 (Or.inl rfl) rfl
theorem ok_X11_seed_4 : ok_S 125 4 (sf_st 0 2 5) := ok_istore_n (by decide +kernel : decode (mb_ 125) 4 = .ok (.istore_n 2, 1)) rfl
theorem ok_X11_seed_5 : ok_S 125 5 (sf_ld 2 0 6) := ok_aload_n (by decide +kernel : decode (mb_ 125) 5 = .ok (.aload_n 0, 1)) rfl
theorem ok_X11_seed_6 : ok_S 125 6 (sf_ld 0 1 7) := ok_iload_n (by decide +kernel : decode (mb_ 125) 6 = .ok (.iload_n 1, 1)) rfl
theorem ok_X11_seed_7 : ok_S 125 7 (sf_pi 7 7 6 10) := ok_pi fd_7_6 (by decide +kernel : decode (mb_ 125) 7 = .ok (.putfield 41, 3)) tw_212 rfl (Or.inl ff_7_6) rfl
theorem ok_X11_seed_10 : ok_S 125 10 (sf_ld 0 2 11) := ok_iload_n (by decide +kernel : decode (mb_ 125) 10 = .ok (.iload_n 2, 1)) rfl
theorem ok_X11_seed_11 : ok_S 125 11 (sf_ret 0) := ok_ret0 (by decide +kernel : decode (mb_ 125) 11 = .ok (.ireturn, 1)) rfl
theorem ok_X11_seed (pc : Nat) : ok_S 125 pc (cd_X11_seed pc) :=
  (ok_bf (ok_bf (ok_bf (ok_lf pc ok_X11_seed_11) (ok_lf pc ok_X11_seed_10)) (ok_bf (ok_lf pc ok_X11_seed_7) (ok_lf pc ok_X11_seed_6))) (ok_bf (ok_bf (ok_lf pc ok_X11_seed_5) (ok_lf pc ok_X11_seed_4)) (ok_bf (ok_lf pc ok_X11_seed_1) (ok_lf pc ok_X11_seed_0))))
theorem mo_X11_seed (pc : Nat) : mo_S (cd_X11_seed pc) :=
  (mo_bf (mo_bf (mo_bf (mo_bf mo_ret mo_no) (mo_bf mo_ld mo_no)) (mo_bf (mo_bf mo_pi mo_no) (mo_bf mo_ld mo_no))) (mo_bf (mo_bf (mo_bf mo_ld mo_no) (mo_bf mo_st mo_no)) (mo_bf (mo_bf mo_gi mo_no) (mo_bf mo_ld mo_no))))
theorem ok_X11_guess_0 : ok_S 126 0 (sf_ld 2 0 1) := ok_aload_n (by decide +kernel : decode (mb_ 126) 0 = .ok (.aload_n 0, 1)) rfl
theorem ok_X11_guess_1 : ok_S 126 1 (sf_gr 7 7 2 4) := ok_gr fd_7_2 (by decide +kernel : decode (mb_ 126) 1 = .ok (.getfield 20, 3)) tw_208 (Or.inl rfl) rfl
theorem ok_X11_guess_4 : ok_S 126 4 (sf_cv 9 [2] 13 7) := ok_cv mt_13 cl_9 (by decide +kernel : decode (mb_ 126) 4 = .ok (.invokevirtual 184, 3)) tw_691 tw_692 tw_693 tw_2 rfl (by decide +kernel) (mh_ok rfl) (by decide) (by decide)
theorem ok_X11_guess_7 : ok_S 126 7 (sf_st 0 1 8) := ok_istore_n (by decide +kernel : decode (mb_ 126) 7 = .ok (.istore_n 1, 1)) rfl
theorem ok_X11_guess_8 : ok_S 126 8 (sf_ld 0 1 9) := ok_iload_n (by decide +kernel : decode (mb_ 126) 8 = .ok (.iload_n 1, 1)) rfl
theorem ok_X11_guess_9 : ok_S 126 9 (sf_if 4 15 12) := ok_if4 (by decide +kernel : decode (mb_ 126) 9 = .ok (.ifCond .gt 6, 3)) (by decide)
theorem ok_X11_guess_12 : ok_S 126 12 (sf_push (0, (-3)) 14) := ok_bipush (by decide +kernel : decode (mb_ 126) 12 = .ok (.bipush (-3), 2)) ⟨by decide, by decide⟩ (by decide +kernel)
theorem ok_X11_guess_14 : ok_S 126 14 (sf_ret 0) := ok_ret0 (by decide +kernel : decode (mb_ 126) 14 = .ok (.ireturn, 1)) rfl
theorem ok_X11_guess_15 : ok_S 126 15 (sf_ld 2 0 16) := ok_aload_n (by decide +kernel : decode (mb_ 126) 15 = .ok (.aload_n 0, 1)) rfl
theorem ok_X11_guess_16 : ok_S 126 16 (sf_ld 2 0 17) := ok_aload_n (by decide +kernel : decode (mb_ 126) 16 = .ok (.aload_n 0, 1)) rfl
theorem ok_X11_guess_17 : ok_S 126 17 (sf_gi 7 7 6 20) := ok_gi fd_7_6 (by decide +kernel : decode (mb_ 126) 17 = .ok (.getfield 41, 3)) tw_212 (Or.inl rfl) rfl
theorem ok_X11_guess_20 : ok_S 126 20 (sf_push (0, 1103515245) 22) := ok_ldc (by decide +kernel : decode (mb_ 126) 20 = .ok (.ldc 242, 2)) ⟨by decide, by decide⟩ tw_894
theorem ok_X11_guess_22 : ok_S 126 22 (sf_i2 mx_mul 23) := ok_imul (by decide +kernel : decode (mb_ 126) 22 = .ok (.imul, 1))
theorem ok_X11_guess_23 : ok_S 126 23 (sf_push (0, 12345) 26) := ok_sipush (by decide +kernel : decode (mb_ 126) 23 = .ok (.sipush 12345, 3)) ⟨by decide, by decide⟩ (by decide +kernel)
theorem ok_X11_guess_26 : ok_S 126 26 (sf_i2 mx_add 27) := ok_iadd (by decide +kernel : decode (mb_ 126) 26 = .ok (.iadd, 1))
theorem ok_X11_guess_27 : ok_S 126 27 (sf_pi 7 7 6 30) := ok_pi fd_7_6 (by decide +kernel : decode (mb_ 126) 27 = .ok (.putfield 41, 3)) tw_212 rfl (Or.inl ff_7_6) rfl
theorem ok_X11_guess_30 : ok_S 126 30 (sf_ld 2 0 31) := ok_aload_n (by decide +kernel : decode (mb_ 126) 30 = .ok (.aload_n 0, 1)) rfl
theorem ok_X11_guess_31 : ok_S 126 31 (sf_gi 7 7 6 34) := ok_gi fd_7_6 (by decide +kernel : decode (mb_ 126) 31 = .ok (.getfield 41, 3)) tw_212 (Or.inl rfl) rfl
theorem ok_X11_guess_34 : ok_S 126 34 (sf_push (0, 16) 36) := ok_bipush (by decide +kernel : decode (mb_ 126) 34 = .ok (.bipush 16, 2)) ⟨by decide, by decide⟩ (by decide +kernel)
theorem ok_X11_guess_36 : ok_S 126 36 (sf_i2 mx_ush 37) := ok_iushr (by decide +kernel : decode (mb_ 126) 36 = .ok (.iushr, 1))
theorem ok_X11_guess_37 : ok_S 126 37 (sf_ld 0 1 38) := ok_iload_n (by decide +kernel : decode (mb_ 126) 37 = .ok (.iload_n 1, 1)) rfl
theorem ok_X11_guess_38 : ok_S 126 38 (sf_i2d mx_rem 39) := ok_irem (by decide +kernel : decode (mb_ 126) 38 = .ok (.irem, 1))
theorem ok_X11_guess_39 : ok_S 126 39 (sf_ret 0) := ok_ret0 (by decide +kernel : decode (mb_ 126) 39 = .ok (.ireturn, 1)) rfl
theorem ok_X11_guess (pc : Nat) : ok_S 126 pc (cd_X11_guess pc) :=
  (ok_bf (ok_bf (ok_bf (ok_bf (ok_bf (ok_lf pc ok_X11_guess_39) (ok_lf pc ok_X11_guess_38)) (ok_lf pc ok_X11_guess_37)) (ok_bf (ok_bf (ok_lf pc ok_X11_guess_36) (ok_lf pc ok_X11_guess_34)) (ok_lf pc ok_X11_guess_31))) (ok_bf (ok_bf (ok_bf (ok_lf pc ok_X11_guess_30) (ok_lf pc ok_X11_guess_27)) (ok_lf pc ok_X11_guess_26)) (ok_bf (ok_bf (ok_lf pc ok_X11_guess_23) (ok_lf pc ok_X11_guess_22)) (ok_lf pc ok_X11_guess_20)))) (ok_bf (ok_bf (ok_bf (ok_bf (ok_lf pc ok_X11_guess_17) (ok_lf pc ok_X11_guess_16)) (ok_lf pc ok_X11_guess_15)) (ok_bf (ok_bf (ok_lf pc ok_X11_guess_14) (ok_lf pc ok_X11_guess_12)) (ok_lf pc ok_X11_guess_9))) (ok_bf (ok_bf (ok_bf (ok_lf pc ok_X11_guess_8) (ok_lf pc ok_X11_guess_7)) (ok_lf pc ok_X11_guess_4)) (ok_bf (ok_lf pc ok_X11_guess_1) (ok_lf pc ok_X11_guess_0)))))
theorem mo_X11_guess (pc : Nat) : mo_S (cd_X11_guess pc) :=
  (mo_bf (mo_bf (mo_bf (mo_bf (mo_bf (mo_bf mo_ret mo_no) (mo_bf mo_i2d mo_no)) (mo_bf mo_ld mo_no)) (mo_bf (mo_bf (mo_bf mo_i2 mo_no) (mo_bf mo_push mo_no)) (mo_bf mo_gi mo_no))) (mo_bf (mo_bf (mo_bf (mo_bf mo_ld mo_no) (mo_bf mo_pi mo_no)) (mo_bf mo_i2 mo_no)) (mo_bf (mo_bf (mo_bf mo_push mo_no) (mo_bf mo_i2 mo_no)) (mo_bf mo_push mo_no)))) (mo_bf (mo_bf (mo_bf (mo_bf (mo_bf mo_gi mo_no) (mo_bf mo_ld mo_no)) (mo_bf mo_ld mo_no)) (mo_bf (mo_bf (mo_bf mo_ret mo_no) (mo_bf mo_push mo_no)) (mo_bf mo_if mo_no))) (mo_bf (mo_bf (mo_bf (mo_bf mo_ld mo_no) (mo_bf mo_st mo_no)) (mo_bf mo_cv mo_no)) (mo_bf (mo_bf mo_gr mo_no) (mo_bf mo_ld mo_no)))))
theorem ok_X11_prove_0 : ok_S 127 0 (sf_ld 2 0 1) := ok_aload_n (by decide +kernel : decode (mb_ 127) 0 = .ok (.aload_n 0, 1)) rfl
theorem ok_X11_prove_1 : ok_S 127 1 (sf_gr 7 7 2 4) := ok_gr fd_7_2 (by decide +kernel : decode (mb_ 127) 1 = .ok (.getfield 20, 3)) tw_208 (Or.inl rfl) rfl
theorem ok_X11_prove_4 : ok_S 127 4 (sf_ld 0 1 5) := ok_iload_n (by decide +kernel : decode (mb_ 127) 4 = .ok (.iload_n 1, 1)) rfl
theorem ok_X11_prove_5 : ok_S 127 5 (sf_cv 9 [2, 0] 15 8) := ok_cv mt_15 cl_9 (by decide +kernel : decode (mb_ 127) 5 = .ok (.invokevirtual 187, 3)) tw_761 tw_762 tw_763 tw_2 rfl (by decide +kernel) (mh_ok rfl) (by decide) (by decide)
theorem ok_X11_prove_8 : ok_S 127 8 (sf_if 1 14 11) := ok_if1 (by decide +kernel : decode (mb_ 127) 8 = .ok (.ifCond .ne 6, 3)) (by decide)
theorem ok_X11_prove_11 : ok_S 127 11 (sf_push (0, (-3)) 13) := ok_bipush (by decide +kernel : decode (mb_ 127) 11 = .ok (.bipush (-3), 2)) ⟨by decide, by decide⟩ (by decide +kernel)
theorem ok_X11_prove_13 : ok_S 127 13 (sf_ret 0) := ok_ret0 (by decide +kernel : decode (mb_ 127) 13 = .ok (.ireturn, 1)) rfl
theorem ok_X11_prove_14 : ok_S 127 14 (sf_ld 2 0 15) := ok_aload_n (by decide +kernel : decode (mb_ 127) 14 = .ok (.aload_n 0, 1)) rfl
theorem ok_X11_prove_15 : ok_S 127 15 (sf_ld 2 0 16) := ok_aload_n (by decide +kernel : decode (mb_ 127) 15 = .ok (.aload_n 0, 1)) rfl
theorem ok_X11_prove_16 : ok_S 127 16 (sf_gr 7 7 3 19) := ok_gr fd_7_3 (by decide +kernel : decode (mb_ 127) 16 = .ok (.getfield 28, 3)) tw_209 (Or.inl rfl) rfl
theorem ok_X11_prove_19 : ok_S 127 19 (sf_gi 8 8 3 22) := ok_gi fd_8_3 (by decide +kernel : decode (mb_ 127) 19 = .ok (.getfield 110, 3)) tw_55 (Or.inl rfl) rfl
theorem ok_X11_prove_22 : ok_S 127 22 (sf_pi 7 7 10 25) := ok_pi fd_7_10 (by decide +kernel : decode (mb_ 127) 22 = .ok (.putfield 58, 3)) tw_216 rfl (Or.inl ff_7_10) rfl
theorem ok_X11_prove_25 : ok_S 127 25 (sf_push (0, 0) 26) := ok_iconst (by decide +kernel : decode (mb_ 127) 25 = .ok (.iconst 0, 1)) ⟨by decide, by decide⟩
theorem ok_X11_prove_26 : ok_S 127 26 (sf_st 0 2 27) := ok_istore_n (by decide +kernel : decode (mb_ 127) 26 = .ok (.istore_n 2, 1)) rfl
theorem ok_X11_prove_27 : ok_S 127 27 (sf_ld 0 2 28) := ok_iload_n (by decide +kernel : decode (mb_ 127) 27 = .ok (.iload_n 2, 1)) rfl
theorem ok_X11_prove_28 : ok_S 127 28 (sf_ld 2 0 29) := ok_aload_n (by decide +kernel : decode (mb_ 127) 28 = .ok (.aload_n 0, 1)) rfl
theorem ok_X11_prove_29 : ok_S 127 29 (sf_gi 7 7 10 32) := ok_gi fd_7_10 (by decide +kernel : decode (mb_ 127) 29 = .ok (.getfield 58, 3)) tw_216 (Or.inl rfl) rfl
theorem ok_X11_prove_32 : ok_S 127 32 (sf_ic 3 111 35) := ok_ic3 (by decide +kernel : decode (mb_ 127) 32 = .ok (.if_icmp .ge 79, 3)) (by decide)
theorem ok_X11_prove_35 : ok_S 127 35 (sf_ld 2 0 36) := ok_aload_n (by decide +kernel : decode (mb_ 127) 35 = .ok (.aload_n 0, 1)) rfl
theorem ok_X11_prove_36 : ok_S 127 36 (sf_gr 7 7 3 39) := ok_gr fd_7_3 (by decide +kernel : decode (mb_ 127) 36 = .ok (.getfield 28, 3)) tw_209 (Or.inl rfl) rfl
theorem ok_X11_prove_39 : ok_S 127 39 (sf_ld 0 2 40) := ok_iload_n (by decide +kernel : decode (mb_ 127) 39 = .ok (.iload_n 2, 1)) rfl
theorem ok_X11_prove_40 : ok_S 127 40 (sf_cv 8 [2, 0] 90 43) := ok_cv mt_90 cl_8 (by decide +kernel : decode (mb_ 127) 40 = .ok (.invokevirtual 138, 3)) tw_573 tw_514 tw_515 tw_3 rfl (by decide +kernel) (mh_ok rfl) (by decide) (by decide)
theorem ok_X11_prove_43 : ok_S 127 43 (sf_st 2 3 44) := ok_astore_n (by decide +kernel : decode (mb_ 127) 43 = .ok (.astore_n 3, 1)) rfl
theorem ok_X11_prove_44 : ok_S 127 44 (sf_ld 2 3 45) := ok_aload_n (by decide +kernel : decode (mb_ 127) 44 = .ok (.aload_n 3, 1)) rfl
theorem ok_X11_prove_45 : ok_S 127 45 (sf_nul 48 51) := ok_nnul (by decide +kernel : decode (mb_ 127) 45 = .ok (.ifnonnull 6, 3)) (by decide)
theorem ok_X11_prove_48 : ok_S 127 48 (sf_go 105) := ok_goto (by decide +kernel : decode (mb_ 127) 48 = .ok (.goto 57, 3)) (by decide)
theorem ok_X11_prove_51 : ok_S 127 51 (sf_ld 2 0 52) := ok_aload_n (by decide +kernel : decode (mb_ 127) 51 = .ok (.aload_n 0, 1)) rfl
theorem ok_X11_prove_52 : ok_S 127 52 (sf_gr 7 7 2 55) := ok_gr fd_7_2 (by decide +kernel : decode (mb_ 127) 52 = .ok (.getfield 20, 3)) tw_208 (Or.inl rfl) rfl
theorem ok_X11_prove_55 : ok_S 127 55 (sf_gr 9 9 1 58) := ok_gr fd_9_1 (by decide +kernel : decode (mb_ 127) 55 = .ok (.getfield 190, 3)) tw_85 (Or.inl rfl) rfl
theorem ok_X11_prove_58 : ok_S 127 58 (sf_ld 2 3 59) := ok_aload_n (by decide +kernel : decode (mb_ 127) 58 = .ok (.aload_n 3, 1)) rfl
theorem ok_X11_prove_59 : ok_S 127 59 (sf_gi 1 6 3 62) := ok_gi fd_1_3 (by decide +kernel : decode (mb_ 127) 59 = .ok (.getfield 148, 3)) tw_427 (Or.inl rfl) rfl
theorem ok_X11_prove_62 : ok_S 127 62 (sf_iald 63) := ok_iald (by decide +kernel : decode (mb_ 127) 62 = .ok (.iaload, 1))
theorem ok_X11_prove_63 : ok_S 127 63 (sf_st 0 4 65) := ok_istore (by decide +kernel : decode (mb_ 127) 63 = .ok (.istore 4, 2))
theorem ok_X11_prove_65 : ok_S 127 65 (sf_ld 2 0 66) := ok_aload_n (by decide +kernel : decode (mb_ 127) 65 = .ok (.aload_n 0, 1)) rfl
theorem ok_X11_prove_66 : ok_S 127 66 (sf_gr 7 7 9 69) := ok_gr fd_7_9 (by decide +kernel : decode (mb_ 127) 66 = .ok (.getfield 54, 3)) tw_215 (Or.inl rfl) rfl
theorem ok_X11_prove_69 : ok_S 127 69 (sf_ld 0 2 70) := ok_iload_n (by decide +kernel : decode (mb_ 127) 69 = .ok (.iload_n 2, 1)) rfl
theorem ok_X11_prove_70 : ok_S 127 70 (sf_push (0, 3) 71) := ok_iconst (by decide +kernel : decode (mb_ 127) 70 = .ok (.iconst 3, 1)) ⟨by decide, by decide⟩
theorem ok_X11_prove_71 : ok_S 127 71 (sf_i2 mx_mul 72) := ok_imul (by decide +kernel : decode (mb_ 127) 71 = .ok (.imul, 1))
theorem ok_X11_prove_72 : ok_S 127 72 (sf_ld 0 2 73) := ok_iload_n (by decide +kernel : decode (mb_ 127) 72 = .ok (.iload_n 2, 1)) rfl
theorem ok_X11_prove_73 : ok_S 127 73 (sf_i2l 74) := ok_i2l (by decide +kernel : decode (mb_ 127) 73 = .ok (.i2l, 1))
theorem ok_X11_prove_74 : ok_S 127 74 (sf_last 75) := ok_last (by decide +kernel : decode (mb_ 127) 74 = .ok (.lastore, 1))
theorem ok_X11_prove_75 : ok_S 127 75 (sf_ld 2 0 76) := ok_aload_n (by decide +kernel : decode (mb_ 127) 75 = .ok (.aload_n 0, 1)) rfl
theorem ok_X11_prove_76 : ok_S 127 76 (sf_gr 7 7 9 79) := ok_gr fd_7_9 (by decide +kernel : decode (mb_ 127) 76 = .ok (.getfield 54, 3)) tw_215 (Or.inl rfl) rfl
theorem ok_X11_prove_79 : ok_S 127 79 (sf_ld 0 2 80) := ok_iload_n (by decide +kernel : decode (mb_ 127) 79 = .ok (.iload_n 2, 1)) rfl
theorem ok_X11_prove_80 : ok_S 127 80 (sf_push (0, 3) 81) := ok_iconst (by decide +kernel : decode (mb_ 127) 80 = .ok (.iconst 3, 1)) ⟨by decide, by decide⟩
theorem ok_X11_prove_81 : ok_S 127 81 (sf_i2 mx_mul 82) := ok_imul (by decide +kernel : decode (mb_ 127) 81 = .ok (.imul, 1))
theorem ok_X11_prove_82 : ok_S 127 82 (sf_push (0, 1) 83) := ok_iconst (by decide +kernel : decode (mb_ 127) 82 = .ok (.iconst 1, 1)) ⟨by decide, by decide⟩
theorem ok_X11_prove_83 : ok_S 127 83 (sf_i2 mx_add 84) := ok_iadd (by decide +kernel : decode (mb_ 127) 83 = .ok (.iadd, 1))
theorem ok_X11_prove_84 : ok_S 127 84 (sf_ld 0 4 86) := ok_iload (by decide +kernel : decode (mb_ 127) 84 = .ok (.iload 4, 2))
theorem ok_X11_prove_86 : ok_S 127 86 (sf_i2l 87) := ok_i2l (by decide +kernel : decode (mb_ 127) 86 = .ok (.i2l, 1))
theorem ok_X11_prove_87 : ok_S 127 87 (sf_last 88) := ok_last (by decide +kernel : decode (mb_ 127) 87 = .ok (.lastore, 1))
theorem ok_X11_prove_88 : ok_S 127 88 (sf_ld 2 0 89) := ok_aload_n (by decide +kernel : decode (mb_ 127) 88 = .ok (.aload_n 0, 1)) rfl
theorem ok_X11_prove_89 : ok_S 127 89 (sf_gr 7 7 9 92) := ok_gr fd_7_9 (by decide +kernel : decode (mb_ 127) 89 = .ok (.getfield 54, 3)) tw_215 (Or.inl rfl) rfl
theorem ok_X11_prove_92 : ok_S 127 92 (sf_ld 0 2 93) := ok_iload_n (by decide +kernel : decode (mb_ 127) 92 = .ok (.iload_n 2, 1)) rfl
theorem ok_X11_prove_93 : ok_S 127 93 (sf_push (0, 3) 94) := ok_iconst (by decide +kernel : decode (mb_ 127) 93 = .ok (.iconst 3, 1)) ⟨by decide, by decide⟩
theorem ok_X11_prove_94 : ok_S 127 94 (sf_i2 mx_mul 95) := ok_imul (by decide +kernel : decode (mb_ 127) 94 = .ok (.imul, 1))
theorem ok_X11_prove_95 : ok_S 127 95 (sf_push (0, 2) 96) := ok_iconst (by decide +kernel : decode (mb_ 127) 95 = .ok (.iconst 2, 1)) ⟨by decide, by decide⟩
theorem ok_X11_prove_96 : ok_S 127 96 (sf_i2 mx_add 97) := ok_iadd (by decide +kernel : decode (mb_ 127) 96 = .ok (.iadd, 1))
theorem ok_X11_prove_97 : ok_S 127 97 (sf_ld 2 3 98) := ok_aload_n (by decide +kernel : decode (mb_ 127) 97 = .ok (.aload_n 3, 1)) rfl
theorem ok_X11_prove_98 : ok_S 127 98 (sf_ld 0 4 100) := ok_iload (by decide +kernel : decode (mb_ 127) 98 = .ok (.iload 4, 2))
theorem ok_X11_prove_100 : ok_S 127 100 (sf_cu [(1, 43), (2, 56), (3, 3), (4, 3), (5, 81), (6, 9)] [2, 0] 103) := ok_cu (x := ⟨"RoomNumbers$Note", "worthBy", "(I)I"⟩) (ow := "RoomNumbers$Note") ⟨tw_598, tw_601, tw_599, ⟨_, _, _, tw_632⟩, mh_ok rfl, (by decide +kernel)⟩ (List.forall_mem_cons.mpr ⟨⟨"RoomNumbers$Note", cl_1, mt_43, tw_600, tw_599, tw_14, by decide, by decide⟩, (List.forall_mem_cons.mpr ⟨⟨"RoomNumbers$Strokes", cl_2, mt_56, tw_628, tw_625, tw_15, by decide, by decide⟩, (List.forall_mem_cons.mpr ⟨⟨"RoomNumbers$Broken", cl_3, mt_3, tw_602, tw_603, tw_16, by decide, by decide⟩, (List.forall_mem_cons.mpr ⟨⟨"RoomNumbers$Left", cl_4, mt_3, tw_627, tw_603, tw_16, by decide, by decide⟩, (List.forall_mem_cons.mpr ⟨⟨"RoomNumbers$Turned", cl_5, mt_81, tw_629, tw_630, tw_18, by decide, by decide⟩, (List.forall_mem_cons.mpr ⟨⟨"RoomNumbers$Debt", cl_6, mt_9, tw_621, tw_622, tw_19, by decide, by decide⟩, (fun _ h => absurd h List.not_mem_nil)⟩)⟩)⟩)⟩)⟩)⟩) (by decide +kernel : decode (mb_ 127) 100 = .ok (.invokevirtual 165, 3)) rfl
theorem ok_X11_prove_103 : ok_S 127 103 (sf_i2l 104) := ok_i2l (by decide +kernel : decode (mb_ 127) 103 = .ok (.i2l, 1))
theorem ok_X11_prove_104 : ok_S 127 104 (sf_last 105) := ok_last (by decide +kernel : decode (mb_ 127) 104 = .ok (.lastore, 1))
theorem ok_X11_prove_105 : ok_S 127 105 (sf_inc 2 1 108) := ok_iinc (by decide +kernel : decode (mb_ 127) 105 = .ok (.iinc 2 1, 3))
theorem ok_X11_prove_108 : ok_S 127 108 (sf_go 27) := ok_goto (by decide +kernel : decode (mb_ 127) 108 = .ok (.goto (-81), 3)) (by decide)
theorem ok_X11_prove_111 : ok_S 127 111 (sf_ld 2 0 112) := ok_aload_n (by decide +kernel : decode (mb_ 127) 111 = .ok (.aload_n 0, 1)) rfl
theorem ok_X11_prove_112 : ok_S 127 112 (sf_gi 7 7 10 115) := ok_gi fd_7_10 (by decide +kernel : decode (mb_ 127) 112 = .ok (.getfield 58, 3)) tw_216 (Or.inl rfl) rfl
theorem ok_X11_prove_115 : ok_S 127 115 (sf_ret 0) := ok_ret0 (by decide +kernel : decode (mb_ 127) 115 = .ok (.ireturn, 1)) rfl
theorem ok_X11_prove (pc : Nat) : ok_S 127 pc (cd_X11_prove pc) :=
  (ok_bf (ok_bf (ok_bf (ok_bf (ok_bf (ok_bf (ok_bf (ok_lf pc ok_X11_prove_115) (ok_lf pc ok_X11_prove_112)) (ok_lf pc ok_X11_prove_111)) (ok_bf (ok_lf pc ok_X11_prove_108) (ok_lf pc ok_X11_prove_105))) (ok_bf (ok_bf (ok_lf pc ok_X11_prove_104) (ok_lf pc ok_X11_prove_103)) (ok_bf (ok_lf pc ok_X11_prove_100) (ok_lf pc ok_X11_prove_98)))) (ok_bf (ok_bf (ok_bf (ok_lf pc ok_X11_prove_97) (ok_lf pc ok_X11_prove_96)) (ok_bf (ok_lf pc ok_X11_prove_95) (ok_lf pc ok_X11_prove_94))) (ok_bf (ok_bf (ok_lf pc ok_X11_prove_93) (ok_lf pc ok_X11_prove_92)) (ok_bf (ok_lf pc ok_X11_prove_89) (ok_lf pc ok_X11_prove_88))))) (ok_bf (ok_bf (ok_bf (ok_bf (ok_bf (ok_lf pc ok_X11_prove_87) (ok_lf pc ok_X11_prove_86)) (ok_lf pc ok_X11_prove_84)) (ok_bf (ok_lf pc ok_X11_prove_83) (ok_lf pc ok_X11_prove_82))) (ok_bf (ok_bf (ok_lf pc ok_X11_prove_81) (ok_lf pc ok_X11_prove_80)) (ok_bf (ok_lf pc ok_X11_prove_79) (ok_lf pc ok_X11_prove_76)))) (ok_bf (ok_bf (ok_bf (ok_lf pc ok_X11_prove_75) (ok_lf pc ok_X11_prove_74)) (ok_bf (ok_lf pc ok_X11_prove_73) (ok_lf pc ok_X11_prove_72))) (ok_bf (ok_bf (ok_lf pc ok_X11_prove_71) (ok_lf pc ok_X11_prove_70)) (ok_bf (ok_lf pc ok_X11_prove_69) (ok_lf pc ok_X11_prove_66)))))) (ok_bf (ok_bf (ok_bf (ok_bf (ok_bf (ok_bf (ok_lf pc ok_X11_prove_65) (ok_lf pc ok_X11_prove_63)) (ok_lf pc ok_X11_prove_62)) (ok_bf (ok_lf pc ok_X11_prove_59) (ok_lf pc ok_X11_prove_58))) (ok_bf (ok_bf (ok_lf pc ok_X11_prove_55) (ok_lf pc ok_X11_prove_52)) (ok_bf (ok_lf pc ok_X11_prove_51) (ok_lf pc ok_X11_prove_48)))) (ok_bf (ok_bf (ok_bf (ok_lf pc ok_X11_prove_45) (ok_lf pc ok_X11_prove_44)) (ok_bf (ok_lf pc ok_X11_prove_43) (ok_lf pc ok_X11_prove_40))) (ok_bf (ok_bf (ok_lf pc ok_X11_prove_39) (ok_lf pc ok_X11_prove_36)) (ok_bf (ok_lf pc ok_X11_prove_35) (ok_lf pc ok_X11_prove_32))))) (ok_bf (ok_bf (ok_bf (ok_bf (ok_bf (ok_lf pc ok_X11_prove_29) (ok_lf pc ok_X11_prove_28)) (ok_lf pc ok_X11_prove_27)) (ok_bf (ok_lf pc ok_X11_prove_26) (ok_lf pc ok_X11_prove_25))) (ok_bf (ok_bf (ok_lf pc ok_X11_prove_22) (ok_lf pc ok_X11_prove_19)) (ok_bf (ok_lf pc ok_X11_prove_16) (ok_lf pc ok_X11_prove_15)))) (ok_bf (ok_bf (ok_bf (ok_lf pc ok_X11_prove_14) (ok_lf pc ok_X11_prove_13)) (ok_bf (ok_lf pc ok_X11_prove_11) (ok_lf pc ok_X11_prove_8))) (ok_bf (ok_bf (ok_lf pc ok_X11_prove_5) (ok_lf pc ok_X11_prove_4)) (ok_bf (ok_lf pc ok_X11_prove_1) (ok_lf pc ok_X11_prove_0)))))))
theorem mo_X11_prove (pc : Nat) : mo_S (cd_X11_prove pc) :=
  (mo_bf (mo_bf (mo_bf (mo_bf (mo_bf (mo_bf (mo_bf (mo_bf mo_ret mo_no) (mo_bf mo_gi mo_no)) (mo_bf mo_ld mo_no)) (mo_bf (mo_bf mo_go mo_no) (mo_bf mo_inc mo_no))) (mo_bf (mo_bf (mo_bf mo_last mo_no) (mo_bf mo_i2l mo_no)) (mo_bf (mo_bf mo_cu mo_no) (mo_bf mo_ld mo_no)))) (mo_bf (mo_bf (mo_bf (mo_bf mo_ld mo_no) (mo_bf mo_i2 mo_no)) (mo_bf (mo_bf mo_push mo_no) (mo_bf mo_i2 mo_no))) (mo_bf (mo_bf (mo_bf mo_push mo_no) (mo_bf mo_ld mo_no)) (mo_bf (mo_bf mo_gr mo_no) (mo_bf mo_ld mo_no))))) (mo_bf (mo_bf (mo_bf (mo_bf (mo_bf (mo_bf mo_last mo_no) (mo_bf mo_i2l mo_no)) (mo_bf mo_ld mo_no)) (mo_bf (mo_bf mo_i2 mo_no) (mo_bf mo_push mo_no))) (mo_bf (mo_bf (mo_bf mo_i2 mo_no) (mo_bf mo_push mo_no)) (mo_bf (mo_bf mo_ld mo_no) (mo_bf mo_gr mo_no)))) (mo_bf (mo_bf (mo_bf (mo_bf mo_ld mo_no) (mo_bf mo_last mo_no)) (mo_bf (mo_bf mo_i2l mo_no) (mo_bf mo_ld mo_no))) (mo_bf (mo_bf (mo_bf mo_i2 mo_no) (mo_bf mo_push mo_no)) (mo_bf (mo_bf mo_ld mo_no) (mo_bf mo_gr mo_no)))))) (mo_bf (mo_bf (mo_bf (mo_bf (mo_bf (mo_bf (mo_bf mo_ld mo_no) (mo_bf mo_st mo_no)) (mo_bf mo_iald mo_no)) (mo_bf (mo_bf mo_gi mo_no) (mo_bf mo_ld mo_no))) (mo_bf (mo_bf (mo_bf mo_gr mo_no) (mo_bf mo_gr mo_no)) (mo_bf (mo_bf mo_ld mo_no) (mo_bf mo_go mo_no)))) (mo_bf (mo_bf (mo_bf (mo_bf mo_nul mo_no) (mo_bf mo_ld mo_no)) (mo_bf (mo_bf mo_st mo_no) (mo_bf mo_cv mo_no))) (mo_bf (mo_bf (mo_bf mo_ld mo_no) (mo_bf mo_gr mo_no)) (mo_bf (mo_bf mo_ld mo_no) (mo_bf mo_ic mo_no))))) (mo_bf (mo_bf (mo_bf (mo_bf (mo_bf (mo_bf mo_gi mo_no) (mo_bf mo_ld mo_no)) (mo_bf mo_ld mo_no)) (mo_bf (mo_bf mo_st mo_no) (mo_bf mo_push mo_no))) (mo_bf (mo_bf (mo_bf mo_pi mo_no) (mo_bf mo_gi mo_no)) (mo_bf (mo_bf mo_gr mo_no) (mo_bf mo_ld mo_no)))) (mo_bf (mo_bf (mo_bf (mo_bf mo_ld mo_no) (mo_bf mo_ret mo_no)) (mo_bf (mo_bf mo_push mo_no) (mo_bf mo_if mo_no))) (mo_bf (mo_bf (mo_bf mo_cv mo_no) (mo_bf mo_ld mo_no)) (mo_bf (mo_bf mo_gr mo_no) (mo_bf mo_ld mo_no)))))))
theorem ok_X11_row_0 : ok_S 128 0 (sf_ld 2 0 1) := ok_aload_n (by decide +kernel : decode (mb_ 128) 0 = .ok (.aload_n 0, 1)) rfl
theorem ok_X11_row_1 : ok_S 128 1 (sf_ld 0 1 2) := ok_iload_n (by decide +kernel : decode (mb_ 128) 1 = .ok (.iload_n 1, 1)) rfl
theorem ok_X11_row_2 : ok_S 128 2 (sf_ld 0 2 3) := ok_iload_n (by decide +kernel : decode (mb_ 128) 2 = .ok (.iload_n 2, 1)) rfl
theorem ok_X11_row_3 : ok_S 128 3 (sf_cv 7 [2, 0, 0] 142 6) := ok_cv mt_142 cl_7 (by decide +kernel : decode (mb_ 128) 3 = .ok (.invokevirtual 243, 3)) tw_903 tw_905 ts_26 tw_1 rfl (by decide +kernel) (mh_ok rfl) (by decide) (by decide)
theorem ok_X11_row_6 : ok_S 128 6 (sf_if 0 22 9) := ok_if0 (by decide +kernel : decode (mb_ 128) 6 = .ok (.ifCond .eq 16, 3)) (by decide)
theorem ok_X11_row_9 : ok_S 128 9 (sf_ld 2 0 10) := ok_aload_n (by decide +kernel : decode (mb_ 128) 9 = .ok (.aload_n 0, 1)) rfl
theorem ok_X11_row_10 : ok_S 128 10 (sf_gr 7 7 9 13) := ok_gr fd_7_9 (by decide +kernel : decode (mb_ 128) 10 = .ok (.getfield 54, 3)) tw_215 (Or.inl rfl) rfl
theorem ok_X11_row_13 : ok_S 128 13 (sf_ld 0 1 14) := ok_iload_n (by decide +kernel : decode (mb_ 128) 13 = .ok (.iload_n 1, 1)) rfl
theorem ok_X11_row_14 : ok_S 128 14 (sf_push (0, 3) 15) := ok_iconst (by decide +kernel : decode (mb_ 128) 14 = .ok (.iconst 3, 1)) ⟨by decide, by decide⟩
theorem ok_X11_row_15 : ok_S 128 15 (sf_i2 mx_mul 16) := ok_imul (by decide +kernel : decode (mb_ 128) 15 = .ok (.imul, 1))
theorem ok_X11_row_16 : ok_S 128 16 (sf_ld 0 2 17) := ok_iload_n (by decide +kernel : decode (mb_ 128) 16 = .ok (.iload_n 2, 1)) rfl
theorem ok_X11_row_17 : ok_S 128 17 (sf_i2 mx_add 18) := ok_iadd (by decide +kernel : decode (mb_ 128) 17 = .ok (.iadd, 1))
theorem ok_X11_row_18 : ok_S 128 18 (sf_lald 19) := ok_lald (by decide +kernel : decode (mb_ 128) 18 = .ok (.laload, 1))
theorem ok_X11_row_19 : ok_S 128 19 (sf_go 25) := ok_goto (by decide +kernel : decode (mb_ 128) 19 = .ok (.goto 6, 3)) (by decide)
theorem ok_X11_row_22 : ok_S 128 22 (sf_push (1, (-1000000000000)) 25) := ok_ldc2 (by decide +kernel : decode (mb_ 128) 22 = .ok (.ldc2_w 163, 3)) ⟨by decide, by decide⟩ tw_597
theorem ok_X11_row_25 : ok_S 128 25 (sf_ret 1) := ok_ret1 (by decide +kernel : decode (mb_ 128) 25 = .ok (.lreturn, 1)) rfl
theorem ok_X11_row (pc : Nat) : ok_S 128 pc (cd_X11_row pc) :=
  (ok_bf (ok_bf (ok_bf (ok_bf (ok_lf pc ok_X11_row_25) (ok_lf pc ok_X11_row_22)) (ok_bf (ok_lf pc ok_X11_row_19) (ok_lf pc ok_X11_row_18))) (ok_bf (ok_bf (ok_lf pc ok_X11_row_17) (ok_lf pc ok_X11_row_16)) (ok_bf (ok_lf pc ok_X11_row_15) (ok_lf pc ok_X11_row_14)))) (ok_bf (ok_bf (ok_bf (ok_lf pc ok_X11_row_13) (ok_lf pc ok_X11_row_10)) (ok_bf (ok_lf pc ok_X11_row_9) (ok_lf pc ok_X11_row_6))) (ok_bf (ok_bf (ok_lf pc ok_X11_row_3) (ok_lf pc ok_X11_row_2)) (ok_bf (ok_lf pc ok_X11_row_1) (ok_lf pc ok_X11_row_0)))))
theorem mo_X11_row (pc : Nat) : mo_S (cd_X11_row pc) :=
  (mo_bf (mo_bf (mo_bf (mo_bf (mo_bf mo_ret mo_no) (mo_bf mo_push mo_no)) (mo_bf (mo_bf mo_go mo_no) (mo_bf mo_lald mo_no))) (mo_bf (mo_bf (mo_bf mo_i2 mo_no) (mo_bf mo_ld mo_no)) (mo_bf (mo_bf mo_i2 mo_no) (mo_bf mo_push mo_no)))) (mo_bf (mo_bf (mo_bf (mo_bf mo_ld mo_no) (mo_bf mo_gr mo_no)) (mo_bf (mo_bf mo_ld mo_no) (mo_bf mo_if mo_no))) (mo_bf (mo_bf (mo_bf mo_cv mo_no) (mo_bf mo_ld mo_no)) (mo_bf (mo_bf mo_ld mo_no) (mo_bf mo_ld mo_no)))))
theorem ok_X11_alterRow_0 : ok_S 129 0 (sf_ld 2 0 1) := ok_aload_n (by decide +kernel : decode (mb_ 129) 0 = .ok (.aload_n 0, 1)) rfl
theorem ok_X11_alterRow_1 : ok_S 129 1 (sf_ld 0 1 2) := ok_iload_n (by decide +kernel : decode (mb_ 129) 1 = .ok (.iload_n 1, 1)) rfl
theorem ok_X11_alterRow_2 : ok_S 129 2 (sf_ld 0 2 3) := ok_iload_n (by decide +kernel : decode (mb_ 129) 2 = .ok (.iload_n 2, 1)) rfl
theorem ok_X11_alterRow_3 : ok_S 129 3 (sf_cv 7 [2, 0, 0] 142 6) := ok_cv mt_142 cl_7 (by decide +kernel : decode (mb_ 129) 3 = .ok (.invokevirtual 243, 3)) tw_903 tw_905 ts_26 tw_1 rfl (by decide +kernel) (mh_ok rfl) (by decide) (by decide)
theorem ok_X11_alterRow_6 : ok_S 129 6 (sf_if 1 13 9) := ok_if1 (by decide +kernel : decode (mb_ 129) 6 = .ok (.ifCond .ne 7, 3)) (by decide)
theorem ok_X11_alterRow_9 : ok_S 129 9 (sf_push (1, (-1000000000000)) 12) := ok_ldc2 (by decide +kernel : decode (mb_ 129) 9 = .ok (.ldc2_w 163, 3)) ⟨by decide, by decide⟩ tw_597
theorem ok_X11_alterRow_12 : ok_S 129 12 (sf_ret 1) := ok_ret1 (by decide +kernel : decode (mb_ 129) 12 = .ok (.lreturn, 1)) rfl
theorem ok_X11_alterRow_13 : ok_S 129 13 (sf_ld 2 0 14) := ok_aload_n (by decide +kernel : decode (mb_ 129) 13 = .ok (.aload_n 0, 1)) rfl
theorem ok_X11_alterRow_14 : ok_S 129 14 (sf_gr 7 7 9 17) := ok_gr fd_7_9 (by decide +kernel : decode (mb_ 129) 14 = .ok (.getfield 54, 3)) tw_215 (Or.inl rfl) rfl
theorem ok_X11_alterRow_17 : ok_S 129 17 (sf_ld 0 1 18) := ok_iload_n (by decide +kernel : decode (mb_ 129) 17 = .ok (.iload_n 1, 1)) rfl
theorem ok_X11_alterRow_18 : ok_S 129 18 (sf_push (0, 3) 19) := ok_iconst (by decide +kernel : decode (mb_ 129) 18 = .ok (.iconst 3, 1)) ⟨by decide, by decide⟩
theorem ok_X11_alterRow_19 : ok_S 129 19 (sf_i2 mx_mul 20) := ok_imul (by decide +kernel : decode (mb_ 129) 19 = .ok (.imul, 1))
theorem ok_X11_alterRow_20 : ok_S 129 20 (sf_ld 0 2 21) := ok_iload_n (by decide +kernel : decode (mb_ 129) 20 = .ok (.iload_n 2, 1)) rfl
theorem ok_X11_alterRow_21 : ok_S 129 21 (sf_i2 mx_add 22) := ok_iadd (by decide +kernel : decode (mb_ 129) 21 = .ok (.iadd, 1))
theorem ok_X11_alterRow_22 : ok_S 129 22 (sf_lald 23) := ok_lald (by decide +kernel : decode (mb_ 129) 22 = .ok (.laload, 1))
theorem ok_X11_alterRow_23 : ok_S 129 23 (sf_st2 5 25) := ok_lstore (by decide +kernel : decode (mb_ 129) 23 = .ok (.lstore 5, 2))
theorem ok_X11_alterRow_25 : ok_S 129 25 (sf_ld 2 0 26) := ok_aload_n (by decide +kernel : decode (mb_ 129) 25 = .ok (.aload_n 0, 1)) rfl
theorem ok_X11_alterRow_26 : ok_S 129 26 (sf_gr 7 7 9 29) := ok_gr fd_7_9 (by decide +kernel : decode (mb_ 129) 26 = .ok (.getfield 54, 3)) tw_215 (Or.inl rfl) rfl
theorem ok_X11_alterRow_29 : ok_S 129 29 (sf_ld 0 1 30) := ok_iload_n (by decide +kernel : decode (mb_ 129) 29 = .ok (.iload_n 1, 1)) rfl
theorem ok_X11_alterRow_30 : ok_S 129 30 (sf_push (0, 3) 31) := ok_iconst (by decide +kernel : decode (mb_ 129) 30 = .ok (.iconst 3, 1)) ⟨by decide, by decide⟩
theorem ok_X11_alterRow_31 : ok_S 129 31 (sf_i2 mx_mul 32) := ok_imul (by decide +kernel : decode (mb_ 129) 31 = .ok (.imul, 1))
theorem ok_X11_alterRow_32 : ok_S 129 32 (sf_ld 0 2 33) := ok_iload_n (by decide +kernel : decode (mb_ 129) 32 = .ok (.iload_n 2, 1)) rfl
theorem ok_X11_alterRow_33 : ok_S 129 33 (sf_i2 mx_add 34) := ok_iadd (by decide +kernel : decode (mb_ 129) 33 = .ok (.iadd, 1))
theorem ok_X11_alterRow_34 : ok_S 129 34 (sf_ld 1 3 35) := ok_lload_n (by decide +kernel : decode (mb_ 129) 34 = .ok (.lload_n 3, 1)) rfl
theorem ok_X11_alterRow_35 : ok_S 129 35 (sf_last 36) := ok_last (by decide +kernel : decode (mb_ 129) 35 = .ok (.lastore, 1))
theorem ok_X11_alterRow_36 : ok_S 129 36 (sf_ld 1 5 38) := ok_lload (by decide +kernel : decode (mb_ 129) 36 = .ok (.lload 5, 2))
theorem ok_X11_alterRow_38 : ok_S 129 38 (sf_ret 1) := ok_ret1 (by decide +kernel : decode (mb_ 129) 38 = .ok (.lreturn, 1)) rfl
theorem ok_X11_alterRow (pc : Nat) : ok_S 129 pc (cd_X11_alterRow pc) :=
  (ok_bf (ok_bf (ok_bf (ok_bf (ok_bf (ok_lf pc ok_X11_alterRow_38) (ok_lf pc ok_X11_alterRow_36)) (ok_bf (ok_lf pc ok_X11_alterRow_35) (ok_lf pc ok_X11_alterRow_34))) (ok_bf (ok_bf (ok_lf pc ok_X11_alterRow_33) (ok_lf pc ok_X11_alterRow_32)) (ok_lf pc ok_X11_alterRow_31))) (ok_bf (ok_bf (ok_bf (ok_lf pc ok_X11_alterRow_30) (ok_lf pc ok_X11_alterRow_29)) (ok_bf (ok_lf pc ok_X11_alterRow_26) (ok_lf pc ok_X11_alterRow_25))) (ok_bf (ok_bf (ok_lf pc ok_X11_alterRow_23) (ok_lf pc ok_X11_alterRow_22)) (ok_lf pc ok_X11_alterRow_21)))) (ok_bf (ok_bf (ok_bf (ok_bf (ok_lf pc ok_X11_alterRow_20) (ok_lf pc ok_X11_alterRow_19)) (ok_bf (ok_lf pc ok_X11_alterRow_18) (ok_lf pc ok_X11_alterRow_17))) (ok_bf (ok_bf (ok_lf pc ok_X11_alterRow_14) (ok_lf pc ok_X11_alterRow_13)) (ok_lf pc ok_X11_alterRow_12))) (ok_bf (ok_bf (ok_bf (ok_lf pc ok_X11_alterRow_9) (ok_lf pc ok_X11_alterRow_6)) (ok_lf pc ok_X11_alterRow_3)) (ok_bf (ok_bf (ok_lf pc ok_X11_alterRow_2) (ok_lf pc ok_X11_alterRow_1)) (ok_lf pc ok_X11_alterRow_0)))))
theorem mo_X11_alterRow (pc : Nat) : mo_S (cd_X11_alterRow pc) :=
  (mo_bf (mo_bf (mo_bf (mo_bf (mo_bf (mo_bf mo_ret mo_no) (mo_bf mo_ld mo_no)) (mo_bf (mo_bf mo_last mo_no) (mo_bf mo_ld mo_no))) (mo_bf (mo_bf (mo_bf mo_i2 mo_no) (mo_bf mo_ld mo_no)) (mo_bf mo_i2 mo_no))) (mo_bf (mo_bf (mo_bf (mo_bf mo_push mo_no) (mo_bf mo_ld mo_no)) (mo_bf (mo_bf mo_gr mo_no) (mo_bf mo_ld mo_no))) (mo_bf (mo_bf (mo_bf mo_st2 mo_no) (mo_bf mo_lald mo_no)) (mo_bf mo_i2 mo_no)))) (mo_bf (mo_bf (mo_bf (mo_bf (mo_bf mo_ld mo_no) (mo_bf mo_i2 mo_no)) (mo_bf (mo_bf mo_push mo_no) (mo_bf mo_ld mo_no))) (mo_bf (mo_bf (mo_bf mo_gr mo_no) (mo_bf mo_ld mo_no)) (mo_bf mo_ret mo_no))) (mo_bf (mo_bf (mo_bf (mo_bf mo_push mo_no) (mo_bf mo_if mo_no)) (mo_bf mo_cv mo_no)) (mo_bf (mo_bf (mo_bf mo_ld mo_no) (mo_bf mo_ld mo_no)) (mo_bf mo_ld mo_no)))))
theorem ok_X11_judge_0 : ok_S 130 0 (sf_ld 2 0 1) := ok_aload_n (by decide +kernel : decode (mb_ 130) 0 = .ok (.aload_n 0, 1)) rfl
theorem ok_X11_judge_1 : ok_S 130 1 (sf_gr 7 7 11 4) := ok_gr fd_7_11 (by decide +kernel : decode (mb_ 130) 1 = .ok (.getfield 61, 3)) tw_217 (Or.inl rfl) rfl
theorem ok_X11_judge_4 : ok_S 130 4 (sf_push (0, 0) 5) := ok_iconst (by decide +kernel : decode (mb_ 130) 4 = .ok (.iconst 0, 1)) ⟨by decide, by decide⟩
theorem ok_X11_judge_5 : ok_S 130 5 (sf_cs [2, 0] 255 8) := ok_cs mt_255 (by decide +kernel : decode (mb_ 130) 5 = .ok (.invokestatic 86, 3)) tw_205 tw_45 tw_4 (by decide +kernel) (mh_ok rfl) (by decide) (by decide)
theorem ok_X11_judge_8 : ok_S 130 8 (sf_push (0, 0) 9) := ok_iconst (by decide +kernel : decode (mb_ 130) 8 = .ok (.iconst 0, 1)) ⟨by decide, by decide⟩
theorem ok_X11_judge_9 : ok_S 130 9 (sf_st 0 1 10) := ok_istore_n (by decide +kernel : decode (mb_ 130) 9 = .ok (.istore_n 1, 1)) rfl
theorem ok_X11_judge_10 : ok_S 130 10 (sf_ld 0 1 11) := ok_iload_n (by decide +kernel : decode (mb_ 130) 10 = .ok (.iload_n 1, 1)) rfl
theorem ok_X11_judge_11 : ok_S 130 11 (sf_ld 2 0 12) := ok_aload_n (by decide +kernel : decode (mb_ 130) 11 = .ok (.aload_n 0, 1)) rfl
theorem ok_X11_judge_12 : ok_S 130 12 (sf_gi 7 7 10 15) := ok_gi fd_7_10 (by decide +kernel : decode (mb_ 130) 12 = .ok (.getfield 58, 3)) tw_216 (Or.inl rfl) rfl
theorem ok_X11_judge_15 : ok_S 130 15 (sf_ic 3 36 18) := ok_ic3 (by decide +kernel : decode (mb_ 130) 15 = .ok (.if_icmp .ge 21, 3)) (by decide)
theorem ok_X11_judge_18 : ok_S 130 18 (sf_ld 2 0 19) := ok_aload_n (by decide +kernel : decode (mb_ 130) 18 = .ok (.aload_n 0, 1)) rfl
theorem ok_X11_judge_19 : ok_S 130 19 (sf_ld 0 1 20) := ok_iload_n (by decide +kernel : decode (mb_ 130) 19 = .ok (.iload_n 1, 1)) rfl
theorem ok_X11_judge_20 : ok_S 130 20 (sf_cv 7 [2, 0] 143 23) := ok_cv mt_143 cl_7 (by decide +kernel : decode (mb_ 130) 20 = .ok (.invokevirtual 247, 3)) tw_915 tw_917 ts_27 tw_1 rfl (by decide +kernel) (mh_ok rfl) (by decide) (by decide)
theorem ok_X11_judge_23 : ok_S 130 23 (sf_if 1 30 26) := ok_if1 (by decide +kernel : decode (mb_ 130) 23 = .ok (.ifCond .ne 7, 3)) (by decide)
theorem ok_X11_judge_26 : ok_S 130 26 (sf_ld 0 1 27) := ok_iload_n (by decide +kernel : decode (mb_ 130) 26 = .ok (.iload_n 1, 1)) rfl
theorem ok_X11_judge_27 : ok_S 130 27 (sf_push (0, 1) 28) := ok_iconst (by decide +kernel : decode (mb_ 130) 27 = .ok (.iconst 1, 1)) ⟨by decide, by decide⟩
theorem ok_X11_judge_28 : ok_S 130 28 (sf_i2 mx_add 29) := ok_iadd (by decide +kernel : decode (mb_ 130) 28 = .ok (.iadd, 1))
theorem ok_X11_judge_29 : ok_S 130 29 (sf_ret 0) := ok_ret0 (by decide +kernel : decode (mb_ 130) 29 = .ok (.ireturn, 1)) rfl
theorem ok_X11_judge_30 : ok_S 130 30 (sf_inc 1 1 33) := ok_iinc (by decide +kernel : decode (mb_ 130) 30 = .ok (.iinc 1 1, 3))
theorem ok_X11_judge_33 : ok_S 130 33 (sf_go 10) := ok_goto (by decide +kernel : decode (mb_ 130) 33 = .ok (.goto (-23), 3)) (by decide)
theorem ok_X11_judge_36 : ok_S 130 36 (sf_ld 2 0 37) := ok_aload_n (by decide +kernel : decode (mb_ 130) 36 = .ok (.aload_n 0, 1)) rfl
theorem ok_X11_judge_37 : ok_S 130 37 (sf_gi 7 7 10 40) := ok_gi fd_7_10 (by decide +kernel : decode (mb_ 130) 37 = .ok (.getfield 58, 3)) tw_216 (Or.inl rfl) rfl
theorem ok_X11_judge_40 : ok_S 130 40 (sf_ld 2 0 41) := ok_aload_n (by decide +kernel : decode (mb_ 130) 40 = .ok (.aload_n 0, 1)) rfl
theorem ok_X11_judge_41 : ok_S 130 41 (sf_gr 7 7 3 44) := ok_gr fd_7_3 (by decide +kernel : decode (mb_ 130) 41 = .ok (.getfield 28, 3)) tw_209 (Or.inl rfl) rfl
theorem ok_X11_judge_44 : ok_S 130 44 (sf_gi 8 8 3 47) := ok_gi fd_8_3 (by decide +kernel : decode (mb_ 130) 44 = .ok (.getfield 110, 3)) tw_55 (Or.inl rfl) rfl
theorem ok_X11_judge_47 : ok_S 130 47 (sf_ic 3 54 50) := ok_ic3 (by decide +kernel : decode (mb_ 130) 47 = .ok (.if_icmp .ge 7, 3)) (by decide)
theorem ok_X11_judge_50 : ok_S 130 50 (sf_push (0, 222) 53) := ok_sipush (by decide +kernel : decode (mb_ 130) 50 = .ok (.sipush 222, 3)) ⟨by decide, by decide⟩ (by decide +kernel)
theorem ok_X11_judge_53 : ok_S 130 53 (sf_ret 0) := ok_ret0 (by decide +kernel : decode (mb_ 130) 53 = .ok (.ireturn, 1)) rfl
theorem ok_X11_judge_54 : ok_S 130 54 (sf_push (0, 0) 55) := ok_iconst (by decide +kernel : decode (mb_ 130) 54 = .ok (.iconst 0, 1)) ⟨by decide, by decide⟩
theorem ok_X11_judge_55 : ok_S 130 55 (sf_st 0 1 56) := ok_istore_n (by decide +kernel : decode (mb_ 130) 55 = .ok (.istore_n 1, 1)) rfl
theorem ok_X11_judge_56 : ok_S 130 56 (sf_ld 0 1 57) := ok_iload_n (by decide +kernel : decode (mb_ 130) 56 = .ok (.iload_n 1, 1)) rfl
theorem ok_X11_judge_57 : ok_S 130 57 (sf_ld 2 0 58) := ok_aload_n (by decide +kernel : decode (mb_ 130) 57 = .ok (.aload_n 0, 1)) rfl
theorem ok_X11_judge_58 : ok_S 130 58 (sf_gr 7 7 3 61) := ok_gr fd_7_3 (by decide +kernel : decode (mb_ 130) 58 = .ok (.getfield 28, 3)) tw_209 (Or.inl rfl) rfl
theorem ok_X11_judge_61 : ok_S 130 61 (sf_gi 8 8 4 64) := ok_gi fd_8_4 (by decide +kernel : decode (mb_ 130) 61 = .ok (.getfield 171, 3)) tw_61 (Or.inl rfl) rfl
theorem ok_X11_judge_64 : ok_S 130 64 (sf_ic 3 94 67) := ok_ic3 (by decide +kernel : decode (mb_ 130) 64 = .ok (.if_icmp .ge 30, 3)) (by decide)
theorem ok_X11_judge_67 : ok_S 130 67 (sf_ld 2 0 68) := ok_aload_n (by decide +kernel : decode (mb_ 130) 67 = .ok (.aload_n 0, 1)) rfl
theorem ok_X11_judge_68 : ok_S 130 68 (sf_gr 7 7 3 71) := ok_gr fd_7_3 (by decide +kernel : decode (mb_ 130) 68 = .ok (.getfield 28, 3)) tw_209 (Or.inl rfl) rfl
theorem ok_X11_judge_71 : ok_S 130 71 (sf_ld 0 1 72) := ok_iload_n (by decide +kernel : decode (mb_ 130) 71 = .ok (.iload_n 1, 1)) rfl
theorem ok_X11_judge_72 : ok_S 130 72 (sf_ld 2 0 73) := ok_aload_n (by decide +kernel : decode (mb_ 130) 72 = .ok (.aload_n 0, 1)) rfl
theorem ok_X11_judge_73 : ok_S 130 73 (sf_gr 7 7 11 76) := ok_gr fd_7_11 (by decide +kernel : decode (mb_ 130) 73 = .ok (.getfield 61, 3)) tw_217 (Or.inl rfl) rfl
theorem ok_X11_judge_76 : ok_S 130 76 (sf_cv 8 [2, 0, 2] 94 79) := ok_cv mt_94 cl_8 (by decide +kernel : decode (mb_ 130) 76 = .ok (.invokevirtual 205, 3)) tw_786 tw_787 tw_788 tw_3 rfl (by decide +kernel) (mh_ok rfl) (by decide) (by decide)
theorem ok_X11_judge_79 : ok_S 130 79 (sf_if 1 88 82) := ok_if1 (by decide +kernel : decode (mb_ 130) 79 = .ok (.ifCond .ne 9, 3)) (by decide)
theorem ok_X11_judge_82 : ok_S 130 82 (sf_push (0, 300) 85) := ok_sipush (by decide +kernel : decode (mb_ 130) 82 = .ok (.sipush 300, 3)) ⟨by decide, by decide⟩ (by decide +kernel)
theorem ok_X11_judge_85 : ok_S 130 85 (sf_ld 0 1 86) := ok_iload_n (by decide +kernel : decode (mb_ 130) 85 = .ok (.iload_n 1, 1)) rfl
theorem ok_X11_judge_86 : ok_S 130 86 (sf_i2 mx_add 87) := ok_iadd (by decide +kernel : decode (mb_ 130) 86 = .ok (.iadd, 1))
theorem ok_X11_judge_87 : ok_S 130 87 (sf_ret 0) := ok_ret0 (by decide +kernel : decode (mb_ 130) 87 = .ok (.ireturn, 1)) rfl
theorem ok_X11_judge_88 : ok_S 130 88 (sf_inc 1 1 91) := ok_iinc (by decide +kernel : decode (mb_ 130) 88 = .ok (.iinc 1 1, 3))
theorem ok_X11_judge_91 : ok_S 130 91 (sf_go 56) := ok_goto (by decide +kernel : decode (mb_ 130) 91 = .ok (.goto (-35), 3)) (by decide)
theorem ok_X11_judge_94 : ok_S 130 94 (sf_push (0, 0) 95) := ok_iconst (by decide +kernel : decode (mb_ 130) 94 = .ok (.iconst 0, 1)) ⟨by decide, by decide⟩
theorem ok_X11_judge_95 : ok_S 130 95 (sf_ret 0) := ok_ret0 (by decide +kernel : decode (mb_ 130) 95 = .ok (.ireturn, 1)) rfl
theorem ok_X11_judge (pc : Nat) : ok_S 130 pc (cd_X11_judge pc) :=
  (ok_bf (ok_bf (ok_bf (ok_bf (ok_bf (ok_bf (ok_lf pc ok_X11_judge_95) (ok_lf pc ok_X11_judge_94)) (ok_bf (ok_lf pc ok_X11_judge_91) (ok_lf pc ok_X11_judge_88))) (ok_bf (ok_bf (ok_lf pc ok_X11_judge_87) (ok_lf pc ok_X11_judge_86)) (ok_lf pc ok_X11_judge_85))) (ok_bf (ok_bf (ok_bf (ok_lf pc ok_X11_judge_82) (ok_lf pc ok_X11_judge_79)) (ok_lf pc ok_X11_judge_76)) (ok_bf (ok_bf (ok_lf pc ok_X11_judge_73) (ok_lf pc ok_X11_judge_72)) (ok_lf pc ok_X11_judge_71)))) (ok_bf (ok_bf (ok_bf (ok_bf (ok_lf pc ok_X11_judge_68) (ok_lf pc ok_X11_judge_67)) (ok_lf pc ok_X11_judge_64)) (ok_bf (ok_bf (ok_lf pc ok_X11_judge_61) (ok_lf pc ok_X11_judge_58)) (ok_lf pc ok_X11_judge_57))) (ok_bf (ok_bf (ok_bf (ok_lf pc ok_X11_judge_56) (ok_lf pc ok_X11_judge_55)) (ok_lf pc ok_X11_judge_54)) (ok_bf (ok_bf (ok_lf pc ok_X11_judge_53) (ok_lf pc ok_X11_judge_50)) (ok_lf pc ok_X11_judge_47))))) (ok_bf (ok_bf (ok_bf (ok_bf (ok_bf (ok_lf pc ok_X11_judge_44) (ok_lf pc ok_X11_judge_41)) (ok_bf (ok_lf pc ok_X11_judge_40) (ok_lf pc ok_X11_judge_37))) (ok_bf (ok_bf (ok_lf pc ok_X11_judge_36) (ok_lf pc ok_X11_judge_33)) (ok_lf pc ok_X11_judge_30))) (ok_bf (ok_bf (ok_bf (ok_lf pc ok_X11_judge_29) (ok_lf pc ok_X11_judge_28)) (ok_lf pc ok_X11_judge_27)) (ok_bf (ok_bf (ok_lf pc ok_X11_judge_26) (ok_lf pc ok_X11_judge_23)) (ok_lf pc ok_X11_judge_20)))) (ok_bf (ok_bf (ok_bf (ok_bf (ok_lf pc ok_X11_judge_19) (ok_lf pc ok_X11_judge_18)) (ok_lf pc ok_X11_judge_15)) (ok_bf (ok_bf (ok_lf pc ok_X11_judge_12) (ok_lf pc ok_X11_judge_11)) (ok_lf pc ok_X11_judge_10))) (ok_bf (ok_bf (ok_bf (ok_lf pc ok_X11_judge_9) (ok_lf pc ok_X11_judge_8)) (ok_lf pc ok_X11_judge_5)) (ok_bf (ok_bf (ok_lf pc ok_X11_judge_4) (ok_lf pc ok_X11_judge_1)) (ok_lf pc ok_X11_judge_0))))))
theorem mo_X11_judge (pc : Nat) : mo_S (cd_X11_judge pc) :=
  (mo_bf (mo_bf (mo_bf (mo_bf (mo_bf (mo_bf (mo_bf mo_ret mo_no) (mo_bf mo_push mo_no)) (mo_bf (mo_bf mo_go mo_no) (mo_bf mo_inc mo_no))) (mo_bf (mo_bf (mo_bf mo_ret mo_no) (mo_bf mo_i2 mo_no)) (mo_bf mo_ld mo_no))) (mo_bf (mo_bf (mo_bf (mo_bf mo_push mo_no) (mo_bf mo_if mo_no)) (mo_bf mo_cv mo_no)) (mo_bf (mo_bf (mo_bf mo_gr mo_no) (mo_bf mo_ld mo_no)) (mo_bf mo_ld mo_no)))) (mo_bf (mo_bf (mo_bf (mo_bf (mo_bf mo_gr mo_no) (mo_bf mo_ld mo_no)) (mo_bf mo_ic mo_no)) (mo_bf (mo_bf (mo_bf mo_gi mo_no) (mo_bf mo_gr mo_no)) (mo_bf mo_ld mo_no))) (mo_bf (mo_bf (mo_bf (mo_bf mo_ld mo_no) (mo_bf mo_st mo_no)) (mo_bf mo_push mo_no)) (mo_bf (mo_bf (mo_bf mo_ret mo_no) (mo_bf mo_push mo_no)) (mo_bf mo_ic mo_no))))) (mo_bf (mo_bf (mo_bf (mo_bf (mo_bf (mo_bf mo_gi mo_no) (mo_bf mo_gr mo_no)) (mo_bf (mo_bf mo_ld mo_no) (mo_bf mo_gi mo_no))) (mo_bf (mo_bf (mo_bf mo_ld mo_no) (mo_bf mo_go mo_no)) (mo_bf mo_inc mo_no))) (mo_bf (mo_bf (mo_bf (mo_bf mo_ret mo_no) (mo_bf mo_i2 mo_no)) (mo_bf mo_push mo_no)) (mo_bf (mo_bf (mo_bf mo_ld mo_no) (mo_bf mo_if mo_no)) (mo_bf mo_cv mo_no)))) (mo_bf (mo_bf (mo_bf (mo_bf (mo_bf mo_ld mo_no) (mo_bf mo_ld mo_no)) (mo_bf mo_ic mo_no)) (mo_bf (mo_bf (mo_bf mo_gi mo_no) (mo_bf mo_ld mo_no)) (mo_bf mo_ld mo_no))) (mo_bf (mo_bf (mo_bf (mo_bf mo_st mo_no) (mo_bf mo_push mo_no)) (mo_bf mo_cs mo_no)) (mo_bf (mo_bf (mo_bf mo_push mo_no) (mo_bf mo_gr mo_no)) (mo_bf mo_ld mo_no))))))
theorem ok_X11_signs_0 : ok_S 131 0 (sf_ld 2 0 1) := ok_aload_n (by decide +kernel : decode (mb_ 131) 0 = .ok (.aload_n 0, 1)) rfl
theorem ok_X11_signs_1 : ok_S 131 1 (sf_gr 7 7 3 4) := ok_gr fd_7_3 (by decide +kernel : decode (mb_ 131) 1 = .ok (.getfield 28, 3)) tw_209 (Or.inl rfl) rfl
theorem ok_X11_signs_4 : ok_S 131 4 (sf_ld 0 1 5) := ok_iload_n (by decide +kernel : decode (mb_ 131) 4 = .ok (.iload_n 1, 1)) rfl
theorem ok_X11_signs_5 : ok_S 131 5 (sf_cv 8 [2, 0] 90 8) := ok_cv mt_90 cl_8 (by decide +kernel : decode (mb_ 131) 5 = .ok (.invokevirtual 138, 3)) tw_573 tw_514 tw_515 tw_3 rfl (by decide +kernel) (mh_ok rfl) (by decide) (by decide)
theorem ok_X11_signs_8 : ok_S 131 8 (sf_st 2 5 10) := ok_astore (by decide +kernel : decode (mb_ 131) 8 = .ok (.astore 5, 2))
theorem ok_X11_signs_10 : ok_S 131 10 (sf_ld 2 5 12) := ok_aload (by decide +kernel : decode (mb_ 131) 10 = .ok (.aload 5, 2))
theorem ok_X11_signs_12 : ok_S 131 12 (sf_nul 37 15) := ok_nul (by decide +kernel : decode (mb_ 131) 12 = .ok (.ifnull 25, 3)) (by decide)
theorem ok_X11_signs_15 : ok_S 131 15 (sf_ld 0 2 16) := ok_iload_n (by decide +kernel : decode (mb_ 131) 15 = .ok (.iload_n 2, 1)) rfl
theorem ok_X11_signs_16 : ok_S 131 16 (sf_cs [0] 148 19) := ok_cs mt_148 (by decide +kernel : decode (mb_ 131) 16 = .ok (.invokestatic 250, 3)) tw_924 tw_925 tw_1 (by decide +kernel) (mh_ok rfl) (by decide) (by decide)
theorem ok_X11_signs_19 : ok_S 131 19 (sf_if 0 37 22) := ok_if0 (by decide +kernel : decode (mb_ 131) 19 = .ok (.ifCond .eq 18, 3)) (by decide)
theorem ok_X11_signs_22 : ok_S 131 22 (sf_ld 0 4 24) := ok_iload (by decide +kernel : decode (mb_ 131) 22 = .ok (.iload 4, 2))
theorem ok_X11_signs_24 : ok_S 131 24 (sf_push (0, 0) 25) := ok_iconst (by decide +kernel : decode (mb_ 131) 24 = .ok (.iconst 0, 1)) ⟨by decide, by decide⟩
theorem ok_X11_signs_25 : ok_S 131 25 (sf_ld 2 5 27) := ok_aload (by decide +kernel : decode (mb_ 131) 25 = .ok (.aload 5, 2))
theorem ok_X11_signs_27 : ok_S 131 27 (sf_gr 1 6 2 30) := ok_gr fd_1_2 (by decide +kernel : decode (mb_ 131) 27 = .ok (.getfield 154, 3)) tw_423 (Or.inl rfl) rfl
theorem ok_X11_signs_30 : ok_S 131 30 (sf_alen 31) := ok_alen (by decide +kernel : decode (mb_ 131) 30 = .ok (.arraylength, 1))
theorem ok_X11_signs_31 : ok_S 131 31 (sf_cs [0, 0, 0] 145 34) := ok_cs mt_145 (by decide +kernel : decode (mb_ 131) 31 = .ok (.invokestatic 92, 3)) tw_262 tw_263 tw_1 (by decide +kernel) (mh_ok rfl) (by decide) (by decide)
theorem ok_X11_signs_34 : ok_S 131 34 (sf_if 1 39 37) := ok_if1 (by decide +kernel : decode (mb_ 131) 34 = .ok (.ifCond .ne 5, 3)) (by decide)
theorem ok_X11_signs_37 : ok_S 131 37 (sf_push (0, (-1)) 38) := ok_iconst (by decide +kernel : decode (mb_ 131) 37 = .ok (.iconst (-1), 1)) ⟨by decide, by decide⟩
theorem ok_X11_signs_38 : ok_S 131 38 (sf_ret 0) := ok_ret0 (by decide +kernel : decode (mb_ 131) 38 = .ok (.ireturn, 1)) rfl
theorem ok_X11_signs_39 : ok_S 131 39 (sf_ld 2 0 40) := ok_aload_n (by decide +kernel : decode (mb_ 131) 39 = .ok (.aload_n 0, 1)) rfl
theorem ok_X11_signs_40 : ok_S 131 40 (sf_gr 7 7 12 43) := ok_gr fd_7_12 (by decide +kernel : decode (mb_ 131) 40 = .ok (.getfield 66, 3)) tw_218 (Or.inl rfl) rfl
theorem ok_X11_signs_43 : ok_S 131 43 (sf_ld 0 2 44) := ok_iload_n (by decide +kernel : decode (mb_ 131) 43 = .ok (.iload_n 2, 1)) rfl
theorem ok_X11_signs_44 : ok_S 131 44 (sf_aald 23 45) := ok_aald (by decide) (by decide +kernel : decode (mb_ 131) 44 = .ok (.aaload, 1))
theorem ok_X11_signs_45 : ok_S 131 45 (sf_st 2 6 47) := ok_astore (by decide +kernel : decode (mb_ 131) 45 = .ok (.astore 6, 2))
theorem ok_X11_signs_47 : ok_S 131 47 (sf_ld 2 6 49) := ok_aload (by decide +kernel : decode (mb_ 131) 47 = .ok (.aload 6, 2))
theorem ok_X11_signs_49 : ok_S 131 49 (sf_nul 52 55) := ok_nnul (by decide +kernel : decode (mb_ 131) 49 = .ok (.ifnonnull 6, 3)) (by decide)
theorem ok_X11_signs_52 : ok_S 131 52 (sf_push (0, (-11)) 54) := ok_bipush (by decide +kernel : decode (mb_ 131) 52 = .ok (.bipush (-11), 2)) ⟨by decide, by decide⟩ (by decide +kernel)
theorem ok_X11_signs_54 : ok_S 131 54 (sf_ret 0) := ok_ret0 (by decide +kernel : decode (mb_ 131) 54 = .ok (.ireturn, 1)) rfl
theorem ok_X11_signs_55 : ok_S 131 55 (sf_ld 2 6 57) := ok_aload (by decide +kernel : decode (mb_ 131) 55 = .ok (.aload 6, 2))
theorem ok_X11_signs_57 : ok_S 131 57 (sf_gi 12 12 0 60) := ok_gi fd_12_0 (by decide +kernel : decode (mb_ 131) 57 = .ok (.getfield 253, 3)) tw_945 (Or.inl rfl) rfl
theorem ok_X11_signs_60 : ok_S 131 60 (sf_if 0 66 63) := ok_if0 (by decide +kernel : decode (mb_ 131) 60 = .ok (.ifCond .eq 6, 3)) (by decide)
theorem ok_X11_signs_63 : ok_S 131 63 (sf_push (0, (-13)) 65) := ok_bipush (by decide +kernel : decode (mb_ 131) 63 = .ok (.bipush (-13), 2)) ⟨by decide, by decide⟩ (by decide +kernel)
theorem ok_X11_signs_65 : ok_S 131 65 (sf_ret 0) := ok_ret0 (by decide +kernel : decode (mb_ 131) 65 = .ok (.ireturn, 1)) rfl
theorem ok_X11_signs_66 : ok_S 131 66 (sf_ld 0 3 67) := ok_iload_n (by decide +kernel : decode (mb_ 131) 66 = .ok (.iload_n 3, 1)) rfl
theorem ok_X11_signs_67 : ok_S 131 67 (sf_push (0, 0) 68) := ok_iconst (by decide +kernel : decode (mb_ 131) 67 = .ok (.iconst 0, 1)) ⟨by decide, by decide⟩
theorem ok_X11_signs_68 : ok_S 131 68 (sf_ld 2 6 70) := ok_aload (by decide +kernel : decode (mb_ 131) 68 = .ok (.aload 6, 2))
theorem ok_X11_signs_70 : ok_S 131 70 (sf_gr 12 12 1 73) := ok_gr fd_12_1 (by decide +kernel : decode (mb_ 131) 70 = .ok (.getfield 256, 3)) tw_947 (Or.inl rfl) rfl
theorem ok_X11_signs_73 : ok_S 131 73 (sf_alen 74) := ok_alen (by decide +kernel : decode (mb_ 131) 73 = .ok (.arraylength, 1))
theorem ok_X11_signs_74 : ok_S 131 74 (sf_ld 0 4 76) := ok_iload (by decide +kernel : decode (mb_ 131) 74 = .ok (.iload 4, 2))
theorem ok_X11_signs_76 : ok_S 131 76 (sf_i2 mx_sub 77) := ok_isub (by decide +kernel : decode (mb_ 131) 76 = .ok (.isub, 1))
theorem ok_X11_signs_77 : ok_S 131 77 (sf_cs [0, 0, 0] 145 80) := ok_cs mt_145 (by decide +kernel : decode (mb_ 131) 77 = .ok (.invokestatic 92, 3)) tw_262 tw_263 tw_1 (by decide +kernel) (mh_ok rfl) (by decide) (by decide)
theorem ok_X11_signs_80 : ok_S 131 80 (sf_if 1 86 83) := ok_if1 (by decide +kernel : decode (mb_ 131) 80 = .ok (.ifCond .ne 6, 3)) (by decide)
theorem ok_X11_signs_83 : ok_S 131 83 (sf_push (0, (-12)) 85) := ok_bipush (by decide +kernel : decode (mb_ 131) 83 = .ok (.bipush (-12), 2)) ⟨by decide, by decide⟩ (by decide +kernel)
theorem ok_X11_signs_85 : ok_S 131 85 (sf_ret 0) := ok_ret0 (by decide +kernel : decode (mb_ 131) 85 = .ok (.ireturn, 1)) rfl
theorem ok_X11_signs_86 : ok_S 131 86 (sf_push (0, 0) 87) := ok_iconst (by decide +kernel : decode (mb_ 131) 86 = .ok (.iconst 0, 1)) ⟨by decide, by decide⟩
theorem ok_X11_signs_87 : ok_S 131 87 (sf_st 0 7 89) := ok_istore (by decide +kernel : decode (mb_ 131) 87 = .ok (.istore 7, 2))
theorem ok_X11_signs_89 : ok_S 131 89 (sf_ld 0 7 91) := ok_iload (by decide +kernel : decode (mb_ 131) 89 = .ok (.iload 7, 2))
theorem ok_X11_signs_91 : ok_S 131 91 (sf_ld 0 4 93) := ok_iload (by decide +kernel : decode (mb_ 131) 91 = .ok (.iload 4, 2))
theorem ok_X11_signs_93 : ok_S 131 93 (sf_ic 3 131 96) := ok_ic3 (by decide +kernel : decode (mb_ 131) 93 = .ok (.if_icmp .ge 38, 3)) (by decide)
theorem ok_X11_signs_96 : ok_S 131 96 (sf_ld 2 5 98) := ok_aload (by decide +kernel : decode (mb_ 131) 96 = .ok (.aload 5, 2))
theorem ok_X11_signs_98 : ok_S 131 98 (sf_gr 1 6 2 101) := ok_gr fd_1_2 (by decide +kernel : decode (mb_ 131) 98 = .ok (.getfield 154, 3)) tw_423 (Or.inl rfl) rfl
theorem ok_X11_signs_101 : ok_S 131 101 (sf_ld 0 7 103) := ok_iload (by decide +kernel : decode (mb_ 131) 101 = .ok (.iload 7, 2))
theorem ok_X11_signs_103 : ok_S 131 103 (sf_push (1, 0) 104) := ok_lconst (by decide +kernel : decode (mb_ 131) 103 = .ok (.lconst 0, 1)) ⟨by decide, by decide⟩ rfl
theorem ok_X11_signs_104 : ok_S 131 104 (sf_push (1, 15) 107) := ok_ldc2 (by decide +kernel : decode (mb_ 131) 104 = .ok (.ldc2_w 259, 3)) ⟨by decide, by decide⟩ tw_927
theorem ok_X11_signs_107 : ok_S 131 107 (sf_ld 2 6 109) := ok_aload (by decide +kernel : decode (mb_ 131) 107 = .ok (.aload 6, 2))
theorem ok_X11_signs_109 : ok_S 131 109 (sf_gr 12 12 1 112) := ok_gr fd_12_1 (by decide +kernel : decode (mb_ 131) 109 = .ok (.getfield 256, 3)) tw_947 (Or.inl rfl) rfl
theorem ok_X11_signs_112 : ok_S 131 112 (sf_ld 0 3 113) := ok_iload_n (by decide +kernel : decode (mb_ 131) 112 = .ok (.iload_n 3, 1)) rfl
theorem ok_X11_signs_113 : ok_S 131 113 (sf_ld 0 7 115) := ok_iload (by decide +kernel : decode (mb_ 131) 113 = .ok (.iload 7, 2))
theorem ok_X11_signs_115 : ok_S 131 115 (sf_i2 mx_add 116) := ok_iadd (by decide +kernel : decode (mb_ 131) 115 = .ok (.iadd, 1))
theorem ok_X11_signs_116 : ok_S 131 116 (sf_lald 117) := ok_lald (by decide +kernel : decode (mb_ 131) 116 = .ok (.laload, 1))
theorem ok_X11_signs_117 : ok_S 131 117 (sf_ml ml_min 120) := ok_mminl (by decide +kernel : decode (mb_ 131) 117 = .ok (.invokestatic 261, 3)) tw_928 tw_929 tw_8 tw_930
theorem ok_X11_signs_120 : ok_S 131 120 (sf_ml ml_max 123) := ok_mmaxl (by decide +kernel : decode (mb_ 131) 120 = .ok (.invokestatic 265, 3)) tw_931 tw_932 tw_8 tw_933
theorem ok_X11_signs_123 : ok_S 131 123 (sf_l2i 124) := ok_l2i (by decide +kernel : decode (mb_ 131) 123 = .ok (.l2i, 1))
theorem ok_X11_signs_124 : ok_S 131 124 (sf_iast 125) := ok_iast (by decide +kernel : decode (mb_ 131) 124 = .ok (.iastore, 1))
theorem ok_X11_signs_125 : ok_S 131 125 (sf_inc 7 1 128) := ok_iinc (by decide +kernel : decode (mb_ 131) 125 = .ok (.iinc 7 1, 3))
theorem ok_X11_signs_128 : ok_S 131 128 (sf_go 89) := ok_goto (by decide +kernel : decode (mb_ 131) 128 = .ok (.goto (-39), 3)) (by decide)
theorem ok_X11_signs_131 : ok_S 131 131 (sf_ld 2 0 132) := ok_aload_n (by decide +kernel : decode (mb_ 131) 131 = .ok (.aload_n 0, 1)) rfl
theorem ok_X11_signs_132 : ok_S 131 132 (sf_gr 7 7 3 135) := ok_gr fd_7_3 (by decide +kernel : decode (mb_ 131) 132 = .ok (.getfield 28, 3)) tw_209 (Or.inl rfl) rfl
theorem ok_X11_signs_135 : ok_S 131 135 (sf_dup 136) := ok_dup (by decide +kernel : decode (mb_ 131) 135 = .ok (.dup, 1))
theorem ok_X11_signs_136 : ok_S 131 136 (sf_gi 8 8 5 139) := ok_gi fd_8_5 (by decide +kernel : decode (mb_ 131) 136 = .ok (.getfield 160, 3)) tw_64 (Or.inl rfl) rfl
theorem ok_X11_signs_139 : ok_S 131 139 (sf_push (0, 1) 140) := ok_iconst (by decide +kernel : decode (mb_ 131) 139 = .ok (.iconst 1, 1)) ⟨by decide, by decide⟩
theorem ok_X11_signs_140 : ok_S 131 140 (sf_i2 mx_add 141) := ok_iadd (by decide +kernel : decode (mb_ 131) 140 = .ok (.iadd, 1))
theorem ok_X11_signs_141 : ok_S 131 141 (sf_pi 8 8 5 144) := ok_pi fd_8_5 (by decide +kernel : decode (mb_ 131) 141 = .ok (.putfield 160, 3)) tw_64 rfl (Or.inl ff_8_5) rfl
theorem ok_X11_signs_144 : ok_S 131 144 (sf_ld 0 4 146) := ok_iload (by decide +kernel : decode (mb_ 131) 144 = .ok (.iload 4, 2))
theorem ok_X11_signs_146 : ok_S 131 146 (sf_ret 0) := ok_ret0 (by decide +kernel : decode (mb_ 131) 146 = .ok (.ireturn, 1)) rfl
theorem ok_X11_signs (pc : Nat) : ok_S 131 pc (cd_X11_signs pc) :=
  (ok_bf (ok_bf (ok_bf (ok_bf (ok_bf (ok_bf (ok_bf (ok_lf pc ok_X11_signs_146) (ok_lf pc ok_X11_signs_144)) (ok_lf pc ok_X11_signs_141)) (ok_bf (ok_lf pc ok_X11_signs_140) (ok_lf pc ok_X11_signs_139))) (ok_bf (ok_bf (ok_bf (ok_lf pc ok_X11_signs_136) (ok_lf pc ok_X11_signs_135)) (ok_lf pc ok_X11_signs_132)) (ok_bf (ok_lf pc ok_X11_signs_131) (ok_lf pc ok_X11_signs_128)))) (ok_bf (ok_bf (ok_bf (ok_bf (ok_lf pc ok_X11_signs_125) (ok_lf pc ok_X11_signs_124)) (ok_lf pc ok_X11_signs_123)) (ok_bf (ok_lf pc ok_X11_signs_120) (ok_lf pc ok_X11_signs_117))) (ok_bf (ok_bf (ok_lf pc ok_X11_signs_116) (ok_lf pc ok_X11_signs_115)) (ok_bf (ok_lf pc ok_X11_signs_113) (ok_lf pc ok_X11_signs_112))))) (ok_bf (ok_bf (ok_bf (ok_bf (ok_bf (ok_lf pc ok_X11_signs_109) (ok_lf pc ok_X11_signs_107)) (ok_lf pc ok_X11_signs_104)) (ok_bf (ok_lf pc ok_X11_signs_103) (ok_lf pc ok_X11_signs_101))) (ok_bf (ok_bf (ok_bf (ok_lf pc ok_X11_signs_98) (ok_lf pc ok_X11_signs_96)) (ok_lf pc ok_X11_signs_93)) (ok_bf (ok_lf pc ok_X11_signs_91) (ok_lf pc ok_X11_signs_89)))) (ok_bf (ok_bf (ok_bf (ok_bf (ok_lf pc ok_X11_signs_87) (ok_lf pc ok_X11_signs_86)) (ok_lf pc ok_X11_signs_85)) (ok_bf (ok_lf pc ok_X11_signs_83) (ok_lf pc ok_X11_signs_80))) (ok_bf (ok_bf (ok_lf pc ok_X11_signs_77) (ok_lf pc ok_X11_signs_76)) (ok_bf (ok_lf pc ok_X11_signs_74) (ok_lf pc ok_X11_signs_73)))))) (ok_bf (ok_bf (ok_bf (ok_bf (ok_bf (ok_bf (ok_lf pc ok_X11_signs_70) (ok_lf pc ok_X11_signs_68)) (ok_lf pc ok_X11_signs_67)) (ok_bf (ok_lf pc ok_X11_signs_66) (ok_lf pc ok_X11_signs_65))) (ok_bf (ok_bf (ok_bf (ok_lf pc ok_X11_signs_63) (ok_lf pc ok_X11_signs_60)) (ok_lf pc ok_X11_signs_57)) (ok_bf (ok_lf pc ok_X11_signs_55) (ok_lf pc ok_X11_signs_54)))) (ok_bf (ok_bf (ok_bf (ok_bf (ok_lf pc ok_X11_signs_52) (ok_lf pc ok_X11_signs_49)) (ok_lf pc ok_X11_signs_47)) (ok_bf (ok_lf pc ok_X11_signs_45) (ok_lf pc ok_X11_signs_44))) (ok_bf (ok_bf (ok_lf pc ok_X11_signs_43) (ok_lf pc ok_X11_signs_40)) (ok_bf (ok_lf pc ok_X11_signs_39) (ok_lf pc ok_X11_signs_38))))) (ok_bf (ok_bf (ok_bf (ok_bf (ok_bf (ok_lf pc ok_X11_signs_37) (ok_lf pc ok_X11_signs_34)) (ok_lf pc ok_X11_signs_31)) (ok_bf (ok_lf pc ok_X11_signs_30) (ok_lf pc ok_X11_signs_27))) (ok_bf (ok_bf (ok_lf pc ok_X11_signs_25) (ok_lf pc ok_X11_signs_24)) (ok_bf (ok_lf pc ok_X11_signs_22) (ok_lf pc ok_X11_signs_19)))) (ok_bf (ok_bf (ok_bf (ok_bf (ok_lf pc ok_X11_signs_16) (ok_lf pc ok_X11_signs_15)) (ok_lf pc ok_X11_signs_12)) (ok_bf (ok_lf pc ok_X11_signs_10) (ok_lf pc ok_X11_signs_8))) (ok_bf (ok_bf (ok_lf pc ok_X11_signs_5) (ok_lf pc ok_X11_signs_4)) (ok_bf (ok_lf pc ok_X11_signs_1) (ok_lf pc ok_X11_signs_0)))))))
theorem mo_X11_signs (pc : Nat) : mo_S (cd_X11_signs pc) :=
  (mo_bf (mo_bf (mo_bf (mo_bf (mo_bf (mo_bf (mo_bf (mo_bf mo_ret mo_no) (mo_bf mo_ld mo_no)) (mo_bf mo_pi mo_no)) (mo_bf (mo_bf mo_i2 mo_no) (mo_bf mo_push mo_no))) (mo_bf (mo_bf (mo_bf (mo_bf mo_gi mo_no) (mo_bf mo_dup mo_no)) (mo_bf mo_gr mo_no)) (mo_bf (mo_bf mo_ld mo_no) (mo_bf mo_go mo_no)))) (mo_bf (mo_bf (mo_bf (mo_bf (mo_bf mo_inc mo_no) (mo_bf mo_iast mo_no)) (mo_bf mo_l2i mo_no)) (mo_bf (mo_bf mo_ml mo_no) (mo_bf mo_ml mo_no))) (mo_bf (mo_bf (mo_bf mo_lald mo_no) (mo_bf mo_i2 mo_no)) (mo_bf (mo_bf mo_ld mo_no) (mo_bf mo_ld mo_no))))) (mo_bf (mo_bf (mo_bf (mo_bf (mo_bf (mo_bf mo_gr mo_no) (mo_bf mo_ld mo_no)) (mo_bf mo_push mo_no)) (mo_bf (mo_bf mo_push mo_no) (mo_bf mo_ld mo_no))) (mo_bf (mo_bf (mo_bf (mo_bf mo_gr mo_no) (mo_bf mo_ld mo_no)) (mo_bf mo_ic mo_no)) (mo_bf (mo_bf mo_ld mo_no) (mo_bf mo_ld mo_no)))) (mo_bf (mo_bf (mo_bf (mo_bf (mo_bf mo_st mo_no) (mo_bf mo_push mo_no)) (mo_bf mo_ret mo_no)) (mo_bf (mo_bf mo_push mo_no) (mo_bf mo_if mo_no))) (mo_bf (mo_bf (mo_bf mo_cs mo_no) (mo_bf mo_i2 mo_no)) (mo_bf (mo_bf mo_ld mo_no) (mo_bf mo_alen mo_no)))))) (mo_bf (mo_bf (mo_bf (mo_bf (mo_bf (mo_bf (mo_bf mo_gr mo_no) (mo_bf mo_ld mo_no)) (mo_bf mo_push mo_no)) (mo_bf (mo_bf mo_ld mo_no) (mo_bf mo_ret mo_no))) (mo_bf (mo_bf (mo_bf (mo_bf mo_push mo_no) (mo_bf mo_if mo_no)) (mo_bf mo_gi mo_no)) (mo_bf (mo_bf mo_ld mo_no) (mo_bf mo_ret mo_no)))) (mo_bf (mo_bf (mo_bf (mo_bf (mo_bf mo_push mo_no) (mo_bf mo_nul mo_no)) (mo_bf mo_ld mo_no)) (mo_bf (mo_bf mo_st mo_no) (mo_bf mo_aald mo_no))) (mo_bf (mo_bf (mo_bf mo_ld mo_no) (mo_bf mo_gr mo_no)) (mo_bf (mo_bf mo_ld mo_no) (mo_bf mo_ret mo_no))))) (mo_bf (mo_bf (mo_bf (mo_bf (mo_bf (mo_bf mo_push mo_no) (mo_bf mo_if mo_no)) (mo_bf mo_cs mo_no)) (mo_bf (mo_bf mo_alen mo_no) (mo_bf mo_gr mo_no))) (mo_bf (mo_bf (mo_bf mo_ld mo_no) (mo_bf mo_push mo_no)) (mo_bf (mo_bf mo_ld mo_no) (mo_bf mo_if mo_no)))) (mo_bf (mo_bf (mo_bf (mo_bf (mo_bf mo_cs mo_no) (mo_bf mo_ld mo_no)) (mo_bf mo_nul mo_no)) (mo_bf (mo_bf mo_ld mo_no) (mo_bf mo_st mo_no))) (mo_bf (mo_bf (mo_bf mo_cv mo_no) (mo_bf mo_ld mo_no)) (mo_bf (mo_bf mo_gr mo_no) (mo_bf mo_ld mo_no)))))))
theorem ok_X11_sheet_0 : ok_S 132 0 (sf_ld 0 1 1) := ok_iload_n (by decide +kernel : decode (mb_ 132) 0 = .ok (.iload_n 1, 1)) rfl
theorem ok_X11_sheet_1 : ok_S 132 1 (sf_cs [0] 148 4) := ok_cs mt_148 (by decide +kernel : decode (mb_ 132) 1 = .ok (.invokestatic 250, 3)) tw_924 tw_925 tw_1 (by decide +kernel) (mh_ok rfl) (by decide) (by decide)
theorem ok_X11_sheet_4 : ok_S 132 4 (sf_if 0 16 7) := ok_if0 (by decide +kernel : decode (mb_ 132) 4 = .ok (.ifCond .eq 12, 3)) (by decide)
theorem ok_X11_sheet_7 : ok_S 132 7 (sf_ld 0 2 8) := ok_iload_n (by decide +kernel : decode (mb_ 132) 7 = .ok (.iload_n 2, 1)) rfl
theorem ok_X11_sheet_8 : ok_S 132 8 (sf_push (0, (-1)) 9) := ok_iconst (by decide +kernel : decode (mb_ 132) 8 = .ok (.iconst (-1), 1)) ⟨by decide, by decide⟩
theorem ok_X11_sheet_9 : ok_S 132 9 (sf_push (0, 3) 10) := ok_iconst (by decide +kernel : decode (mb_ 132) 9 = .ok (.iconst 3, 1)) ⟨by decide, by decide⟩
theorem ok_X11_sheet_10 : ok_S 132 10 (sf_cs [0, 0, 0] 145 13) := ok_cs mt_145 (by decide +kernel : decode (mb_ 132) 10 = .ok (.invokestatic 92, 3)) tw_262 tw_263 tw_1 (by decide +kernel) (mh_ok rfl) (by decide) (by decide)
theorem ok_X11_sheet_13 : ok_S 132 13 (sf_if 1 18 16) := ok_if1 (by decide +kernel : decode (mb_ 132) 13 = .ok (.ifCond .ne 5, 3)) (by decide)
theorem ok_X11_sheet_16 : ok_S 132 16 (sf_push (0, (-1)) 17) := ok_iconst (by decide +kernel : decode (mb_ 132) 16 = .ok (.iconst (-1), 1)) ⟨by decide, by decide⟩
theorem ok_X11_sheet_17 : ok_S 132 17 (sf_ret 0) := ok_ret0 (by decide +kernel : decode (mb_ 132) 17 = .ok (.ireturn, 1)) rfl
theorem ok_X11_sheet_18 : ok_S 132 18 (sf_ld 0 2 19) := ok_iload_n (by decide +kernel : decode (mb_ 132) 18 = .ok (.iload_n 2, 1)) rfl
theorem ok_X11_sheet_19 : ok_S 132 19 (sf_push (0, (-1)) 20) := ok_iconst (by decide +kernel : decode (mb_ 132) 19 = .ok (.iconst (-1), 1)) ⟨by decide, by decide⟩
theorem ok_X11_sheet_20 : ok_S 132 20 (sf_ic 1 32 23) := ok_ic1 (by decide +kernel : decode (mb_ 132) 20 = .ok (.if_icmp .ne 12, 3)) (by decide)
theorem ok_X11_sheet_23 : ok_S 132 23 (sf_ld 2 0 24) := ok_aload_n (by decide +kernel : decode (mb_ 132) 23 = .ok (.aload_n 0, 1)) rfl
theorem ok_X11_sheet_24 : ok_S 132 24 (sf_gr 7 7 12 27) := ok_gr fd_7_12 (by decide +kernel : decode (mb_ 132) 24 = .ok (.getfield 66, 3)) tw_218 (Or.inl rfl) rfl
theorem ok_X11_sheet_27 : ok_S 132 27 (sf_ld 0 1 28) := ok_iload_n (by decide +kernel : decode (mb_ 132) 27 = .ok (.iload_n 1, 1)) rfl
theorem ok_X11_sheet_28 : ok_S 132 28 (sf_push (2, (-1)) 29) := ok_null (by decide +kernel : decode (mb_ 132) 28 = .ok (.aconst_null, 1))
theorem ok_X11_sheet_29 : ok_S 132 29 (sf_aast 23 12 12 30) := ok_aast (Or.inr ⟨rfl, rfl⟩) aa_23 (by decide +kernel : decode (mb_ 132) 29 = .ok (.aastore, 1))
theorem ok_X11_sheet_30 : ok_S 132 30 (sf_push (0, 1) 31) := ok_iconst (by decide +kernel : decode (mb_ 132) 30 = .ok (.iconst 1, 1)) ⟨by decide, by decide⟩
theorem ok_X11_sheet_31 : ok_S 132 31 (sf_ret 0) := ok_ret0 (by decide +kernel : decode (mb_ 132) 31 = .ok (.ireturn, 1)) rfl
theorem ok_X11_sheet_32 : ok_S 132 32 (sf_ld 0 3 33) := ok_iload_n (by decide +kernel : decode (mb_ 132) 32 = .ok (.iload_n 3, 1)) rfl
theorem ok_X11_sheet_33 : ok_S 132 33 (sf_push (0, 40) 35) := ok_bipush (by decide +kernel : decode (mb_ 132) 33 = .ok (.bipush 40, 2)) ⟨by decide, by decide⟩ (by decide +kernel)
theorem ok_X11_sheet_35 : ok_S 132 35 (sf_ic 5 40 38) := ok_ic5 (by decide +kernel : decode (mb_ 132) 35 = .ok (.if_icmp .le 5, 3)) (by decide)
theorem ok_X11_sheet_38 : ok_S 132 38 (sf_push (0, (-1)) 39) := ok_iconst (by decide +kernel : decode (mb_ 132) 38 = .ok (.iconst (-1), 1)) ⟨by decide, by decide⟩
theorem ok_X11_sheet_39 : ok_S 132 39 (sf_ret 0) := ok_ret0 (by decide +kernel : decode (mb_ 132) 39 = .ok (.ireturn, 1)) rfl
theorem ok_X11_sheet_40 : ok_S 132 40 (sf_ld 0 3 41) := ok_iload_n (by decide +kernel : decode (mb_ 132) 40 = .ok (.iload_n 3, 1)) rfl
theorem ok_X11_sheet_41 : ok_S 132 41 (sf_if 3 47 44) := ok_if3 (by decide +kernel : decode (mb_ 132) 41 = .ok (.ifCond .ge 6, 3)) (by decide)
theorem ok_X11_sheet_44 : ok_S 132 44 (sf_push (0, (-14)) 46) := ok_bipush (by decide +kernel : decode (mb_ 132) 44 = .ok (.bipush (-14), 2)) ⟨by decide, by decide⟩ (by decide +kernel)
theorem ok_X11_sheet_46 : ok_S 132 46 (sf_ret 0) := ok_ret0 (by decide +kernel : decode (mb_ 132) 46 = .ok (.ireturn, 1)) rfl
theorem ok_X11_sheet_47 : ok_S 132 47 (sf_ld 2 0 48) := ok_aload_n (by decide +kernel : decode (mb_ 132) 47 = .ok (.aload_n 0, 1)) rfl
theorem ok_X11_sheet_48 : ok_S 132 48 (sf_gr 7 7 12 51) := ok_gr fd_7_12 (by decide +kernel : decode (mb_ 132) 48 = .ok (.getfield 66, 3)) tw_218 (Or.inl rfl) rfl
theorem ok_X11_sheet_51 : ok_S 132 51 (sf_ld 0 1 52) := ok_iload_n (by decide +kernel : decode (mb_ 132) 51 = .ok (.iload_n 1, 1)) rfl
theorem ok_X11_sheet_52 : ok_S 132 52 (sf_new 12 55) := ok_new cn_12 (by decide +kernel : decode (mb_ 132) 52 = .ok (.new 64, 3)) tw_173 tw_938 tw_21
theorem ok_X11_sheet_55 : ok_S 132 55 (sf_dup 56) := ok_dup (by decide +kernel : decode (mb_ 132) 55 = .ok (.dup, 1))
theorem ok_X11_sheet_56 : ok_S 132 56 (sf_ld 0 2 57) := ok_iload_n (by decide +kernel : decode (mb_ 132) 56 = .ok (.iload_n 2, 1)) rfl
theorem ok_X11_sheet_57 : ok_S 132 57 (sf_ld 0 3 58) := ok_iload_n (by decide +kernel : decode (mb_ 132) 57 = .ok (.iload_n 3, 1)) rfl
theorem ok_X11_sheet_58 : ok_S 132 58 (sf_ci 12 12 [2, 0, 0] 52 61) := ok_ci mt_52 (by decide) (by decide) (by decide +kernel : decode (mb_ 132) 58 = .ok (.invokespecial 267, 3)) tw_939 tw_940 tw_21 rfl rfl rfl (by decide +kernel) (mh_ok rfl) (by decide) (by decide)
theorem ok_X11_sheet_61 : ok_S 132 61 (sf_aast 23 12 12 62) := ok_aast (Or.inr ⟨rfl, rfl⟩) aa_23 (by decide +kernel : decode (mb_ 132) 61 = .ok (.aastore, 1))
theorem ok_X11_sheet_62 : ok_S 132 62 (sf_push (0, 1) 63) := ok_iconst (by decide +kernel : decode (mb_ 132) 62 = .ok (.iconst 1, 1)) ⟨by decide, by decide⟩
theorem ok_X11_sheet_63 : ok_S 132 63 (sf_ret 0) := ok_ret0 (by decide +kernel : decode (mb_ 132) 63 = .ok (.ireturn, 1)) rfl
theorem ok_X11_sheet (pc : Nat) : ok_S 132 pc (cd_X11_sheet pc) :=
  (ok_bf (ok_bf (ok_bf (ok_bf (ok_bf (ok_bf (ok_lf pc ok_X11_sheet_63) (ok_lf pc ok_X11_sheet_62)) (ok_lf pc ok_X11_sheet_61)) (ok_bf (ok_lf pc ok_X11_sheet_58) (ok_lf pc ok_X11_sheet_57))) (ok_bf (ok_bf (ok_bf (ok_lf pc ok_X11_sheet_56) (ok_lf pc ok_X11_sheet_55)) (ok_lf pc ok_X11_sheet_52)) (ok_bf (ok_lf pc ok_X11_sheet_51) (ok_lf pc ok_X11_sheet_48)))) (ok_bf (ok_bf (ok_bf (ok_bf (ok_lf pc ok_X11_sheet_47) (ok_lf pc ok_X11_sheet_46)) (ok_lf pc ok_X11_sheet_44)) (ok_bf (ok_lf pc ok_X11_sheet_41) (ok_lf pc ok_X11_sheet_40))) (ok_bf (ok_bf (ok_bf (ok_lf pc ok_X11_sheet_39) (ok_lf pc ok_X11_sheet_38)) (ok_lf pc ok_X11_sheet_35)) (ok_bf (ok_lf pc ok_X11_sheet_33) (ok_lf pc ok_X11_sheet_32))))) (ok_bf (ok_bf (ok_bf (ok_bf (ok_bf (ok_lf pc ok_X11_sheet_31) (ok_lf pc ok_X11_sheet_30)) (ok_lf pc ok_X11_sheet_29)) (ok_bf (ok_lf pc ok_X11_sheet_28) (ok_lf pc ok_X11_sheet_27))) (ok_bf (ok_bf (ok_bf (ok_lf pc ok_X11_sheet_24) (ok_lf pc ok_X11_sheet_23)) (ok_lf pc ok_X11_sheet_20)) (ok_bf (ok_lf pc ok_X11_sheet_19) (ok_lf pc ok_X11_sheet_18)))) (ok_bf (ok_bf (ok_bf (ok_bf (ok_lf pc ok_X11_sheet_17) (ok_lf pc ok_X11_sheet_16)) (ok_lf pc ok_X11_sheet_13)) (ok_bf (ok_lf pc ok_X11_sheet_10) (ok_lf pc ok_X11_sheet_9))) (ok_bf (ok_bf (ok_bf (ok_lf pc ok_X11_sheet_8) (ok_lf pc ok_X11_sheet_7)) (ok_lf pc ok_X11_sheet_4)) (ok_bf (ok_lf pc ok_X11_sheet_1) (ok_lf pc ok_X11_sheet_0))))))
theorem mo_X11_sheet (pc : Nat) : mo_S (cd_X11_sheet pc) :=
  (mo_bf (mo_bf (mo_bf (mo_bf (mo_bf (mo_bf (mo_bf mo_ret mo_no) (mo_bf mo_push mo_no)) (mo_bf mo_aast mo_no)) (mo_bf (mo_bf mo_ci mo_no) (mo_bf mo_ld mo_no))) (mo_bf (mo_bf (mo_bf (mo_bf mo_ld mo_no) (mo_bf mo_dup mo_no)) (mo_bf mo_new mo_no)) (mo_bf (mo_bf mo_ld mo_no) (mo_bf mo_gr mo_no)))) (mo_bf (mo_bf (mo_bf (mo_bf (mo_bf mo_ld mo_no) (mo_bf mo_ret mo_no)) (mo_bf mo_push mo_no)) (mo_bf (mo_bf mo_if mo_no) (mo_bf mo_ld mo_no))) (mo_bf (mo_bf (mo_bf (mo_bf mo_ret mo_no) (mo_bf mo_push mo_no)) (mo_bf mo_ic mo_no)) (mo_bf (mo_bf mo_push mo_no) (mo_bf mo_ld mo_no))))) (mo_bf (mo_bf (mo_bf (mo_bf (mo_bf (mo_bf mo_ret mo_no) (mo_bf mo_push mo_no)) (mo_bf mo_aast mo_no)) (mo_bf (mo_bf mo_push mo_no) (mo_bf mo_ld mo_no))) (mo_bf (mo_bf (mo_bf (mo_bf mo_gr mo_no) (mo_bf mo_ld mo_no)) (mo_bf mo_ic mo_no)) (mo_bf (mo_bf mo_push mo_no) (mo_bf mo_ld mo_no)))) (mo_bf (mo_bf (mo_bf (mo_bf (mo_bf mo_ret mo_no) (mo_bf mo_push mo_no)) (mo_bf mo_if mo_no)) (mo_bf (mo_bf mo_cs mo_no) (mo_bf mo_push mo_no))) (mo_bf (mo_bf (mo_bf (mo_bf mo_push mo_no) (mo_bf mo_ld mo_no)) (mo_bf mo_if mo_no)) (mo_bf (mo_bf mo_cs mo_no) (mo_bf mo_ld mo_no))))))
theorem ok_X11_put_0 : ok_S 133 0 (sf_ld 0 1 1) := ok_iload_n (by decide +kernel : decode (mb_ 133) 0 = .ok (.iload_n 1, 1)) rfl
theorem ok_X11_put_1 : ok_S 133 1 (sf_cs [0] 148 4) := ok_cs mt_148 (by decide +kernel : decode (mb_ 133) 1 = .ok (.invokestatic 250, 3)) tw_924 tw_925 tw_1 (by decide +kernel) (mh_ok rfl) (by decide) (by decide)
theorem ok_X11_put_4 : ok_S 133 4 (sf_if 1 9 7) := ok_if1 (by decide +kernel : decode (mb_ 133) 4 = .ok (.ifCond .ne 5, 3)) (by decide)
theorem ok_X11_put_7 : ok_S 133 7 (sf_push (0, (-1)) 8) := ok_iconst (by decide +kernel : decode (mb_ 133) 7 = .ok (.iconst (-1), 1)) ⟨by decide, by decide⟩
theorem ok_X11_put_8 : ok_S 133 8 (sf_ret 0) := ok_ret0 (by decide +kernel : decode (mb_ 133) 8 = .ok (.ireturn, 1)) rfl
theorem ok_X11_put_9 : ok_S 133 9 (sf_ld 2 0 10) := ok_aload_n (by decide +kernel : decode (mb_ 133) 9 = .ok (.aload_n 0, 1)) rfl
theorem ok_X11_put_10 : ok_S 133 10 (sf_gr 7 7 12 13) := ok_gr fd_7_12 (by decide +kernel : decode (mb_ 133) 10 = .ok (.getfield 66, 3)) tw_218 (Or.inl rfl) rfl
theorem ok_X11_put_13 : ok_S 133 13 (sf_ld 0 1 14) := ok_iload_n (by decide +kernel : decode (mb_ 133) 13 = .ok (.iload_n 1, 1)) rfl
theorem ok_X11_put_14 : ok_S 133 14 (sf_aald 23 15) := ok_aald (by decide) (by decide +kernel : decode (mb_ 133) 14 = .ok (.aaload, 1))
theorem ok_X11_put_15 : ok_S 133 15 (sf_st 2 4 17) := ok_astore (by decide +kernel : decode (mb_ 133) 15 = .ok (.astore 4, 2))
theorem ok_X11_put_17 : ok_S 133 17 (sf_ld 2 4 19) := ok_aload (by decide +kernel : decode (mb_ 133) 17 = .ok (.aload 4, 2))
theorem ok_X11_put_19 : ok_S 133 19 (sf_nul 22 25) := ok_nnul (by decide +kernel : decode (mb_ 133) 19 = .ok (.ifnonnull 6, 3)) (by decide)
theorem ok_X11_put_22 : ok_S 133 22 (sf_push (0, (-11)) 24) := ok_bipush (by decide +kernel : decode (mb_ 133) 22 = .ok (.bipush (-11), 2)) ⟨by decide, by decide⟩ (by decide +kernel)
theorem ok_X11_put_24 : ok_S 133 24 (sf_ret 0) := ok_ret0 (by decide +kernel : decode (mb_ 133) 24 = .ok (.ireturn, 1)) rfl
theorem ok_X11_put_25 : ok_S 133 25 (sf_ld 0 2 26) := ok_iload_n (by decide +kernel : decode (mb_ 133) 25 = .ok (.iload_n 2, 1)) rfl
theorem ok_X11_put_26 : ok_S 133 26 (sf_push (0, 0) 27) := ok_iconst (by decide +kernel : decode (mb_ 133) 26 = .ok (.iconst 0, 1)) ⟨by decide, by decide⟩
theorem ok_X11_put_27 : ok_S 133 27 (sf_ld 2 4 29) := ok_aload (by decide +kernel : decode (mb_ 133) 27 = .ok (.aload 4, 2))
theorem ok_X11_put_29 : ok_S 133 29 (sf_gr 12 12 1 32) := ok_gr fd_12_1 (by decide +kernel : decode (mb_ 133) 29 = .ok (.getfield 256, 3)) tw_947 (Or.inl rfl) rfl
theorem ok_X11_put_32 : ok_S 133 32 (sf_alen 33) := ok_alen (by decide +kernel : decode (mb_ 133) 32 = .ok (.arraylength, 1))
theorem ok_X11_put_33 : ok_S 133 33 (sf_push (0, 1) 34) := ok_iconst (by decide +kernel : decode (mb_ 133) 33 = .ok (.iconst 1, 1)) ⟨by decide, by decide⟩
theorem ok_X11_put_34 : ok_S 133 34 (sf_i2 mx_sub 35) := ok_isub (by decide +kernel : decode (mb_ 133) 34 = .ok (.isub, 1))
theorem ok_X11_put_35 : ok_S 133 35 (sf_cs [0, 0, 0] 145 38) := ok_cs mt_145 (by decide +kernel : decode (mb_ 133) 35 = .ok (.invokestatic 92, 3)) tw_262 tw_263 tw_1 (by decide +kernel) (mh_ok rfl) (by decide) (by decide)
theorem ok_X11_put_38 : ok_S 133 38 (sf_if 1 44 41) := ok_if1 (by decide +kernel : decode (mb_ 133) 38 = .ok (.ifCond .ne 6, 3)) (by decide)
theorem ok_X11_put_41 : ok_S 133 41 (sf_push (0, (-12)) 43) := ok_bipush (by decide +kernel : decode (mb_ 133) 41 = .ok (.bipush (-12), 2)) ⟨by decide, by decide⟩ (by decide +kernel)
theorem ok_X11_put_43 : ok_S 133 43 (sf_ret 0) := ok_ret0 (by decide +kernel : decode (mb_ 133) 43 = .ok (.ireturn, 1)) rfl
theorem ok_X11_put_44 : ok_S 133 44 (sf_ld 2 4 46) := ok_aload (by decide +kernel : decode (mb_ 133) 44 = .ok (.aload 4, 2))
theorem ok_X11_put_46 : ok_S 133 46 (sf_gr 12 12 1 49) := ok_gr fd_12_1 (by decide +kernel : decode (mb_ 133) 46 = .ok (.getfield 256, 3)) tw_947 (Or.inl rfl) rfl
theorem ok_X11_put_49 : ok_S 133 49 (sf_ld 0 2 50) := ok_iload_n (by decide +kernel : decode (mb_ 133) 49 = .ok (.iload_n 2, 1)) rfl
theorem ok_X11_put_50 : ok_S 133 50 (sf_ld 2 4 52) := ok_aload (by decide +kernel : decode (mb_ 133) 50 = .ok (.aload 4, 2))
theorem ok_X11_put_52 : ok_S 133 52 (sf_ld 0 3 53) := ok_iload_n (by decide +kernel : decode (mb_ 133) 52 = .ok (.iload_n 3, 1)) rfl
theorem ok_X11_put_53 : ok_S 133 53 (sf_cv 12 [2, 0] 53 56) := ok_cv mt_53 cl_12 (by decide +kernel : decode (mb_ 133) 53 = .ok (.invokevirtual 270, 3)) tw_957 tw_958 tw_959 tw_21 rfl (by decide +kernel) (mh_ok rfl) (by decide) (by decide)
theorem ok_X11_put_56 : ok_S 133 56 (sf_last 57) := ok_last (by decide +kernel : decode (mb_ 133) 56 = .ok (.lastore, 1))
theorem ok_X11_put_57 : ok_S 133 57 (sf_push (0, 1) 58) := ok_iconst (by decide +kernel : decode (mb_ 133) 57 = .ok (.iconst 1, 1)) ⟨by decide, by decide⟩
theorem ok_X11_put_58 : ok_S 133 58 (sf_ret 0) := ok_ret0 (by decide +kernel : decode (mb_ 133) 58 = .ok (.ireturn, 1)) rfl
theorem ok_X11_put (pc : Nat) : ok_S 133 pc (cd_X11_put pc) :=
  (ok_bf (ok_bf (ok_bf (ok_bf (ok_bf (ok_bf (ok_lf pc ok_X11_put_58) (ok_lf pc ok_X11_put_57)) (ok_lf pc ok_X11_put_56)) (ok_bf (ok_lf pc ok_X11_put_53) (ok_lf pc ok_X11_put_52))) (ok_bf (ok_bf (ok_lf pc ok_X11_put_50) (ok_lf pc ok_X11_put_49)) (ok_bf (ok_lf pc ok_X11_put_46) (ok_lf pc ok_X11_put_44)))) (ok_bf (ok_bf (ok_bf (ok_lf pc ok_X11_put_43) (ok_lf pc ok_X11_put_41)) (ok_bf (ok_lf pc ok_X11_put_38) (ok_lf pc ok_X11_put_35))) (ok_bf (ok_bf (ok_lf pc ok_X11_put_34) (ok_lf pc ok_X11_put_33)) (ok_bf (ok_lf pc ok_X11_put_32) (ok_lf pc ok_X11_put_29))))) (ok_bf (ok_bf (ok_bf (ok_bf (ok_bf (ok_lf pc ok_X11_put_27) (ok_lf pc ok_X11_put_26)) (ok_lf pc ok_X11_put_25)) (ok_bf (ok_lf pc ok_X11_put_24) (ok_lf pc ok_X11_put_22))) (ok_bf (ok_bf (ok_lf pc ok_X11_put_19) (ok_lf pc ok_X11_put_17)) (ok_bf (ok_lf pc ok_X11_put_15) (ok_lf pc ok_X11_put_14)))) (ok_bf (ok_bf (ok_bf (ok_lf pc ok_X11_put_13) (ok_lf pc ok_X11_put_10)) (ok_bf (ok_lf pc ok_X11_put_9) (ok_lf pc ok_X11_put_8))) (ok_bf (ok_bf (ok_lf pc ok_X11_put_7) (ok_lf pc ok_X11_put_4)) (ok_bf (ok_lf pc ok_X11_put_1) (ok_lf pc ok_X11_put_0))))))
theorem mo_X11_put (pc : Nat) : mo_S (cd_X11_put pc) :=
  (mo_bf (mo_bf (mo_bf (mo_bf (mo_bf (mo_bf (mo_bf mo_ret mo_no) (mo_bf mo_push mo_no)) (mo_bf mo_last mo_no)) (mo_bf (mo_bf mo_cv mo_no) (mo_bf mo_ld mo_no))) (mo_bf (mo_bf (mo_bf mo_ld mo_no) (mo_bf mo_ld mo_no)) (mo_bf (mo_bf mo_gr mo_no) (mo_bf mo_ld mo_no)))) (mo_bf (mo_bf (mo_bf (mo_bf mo_ret mo_no) (mo_bf mo_push mo_no)) (mo_bf (mo_bf mo_if mo_no) (mo_bf mo_cs mo_no))) (mo_bf (mo_bf (mo_bf mo_i2 mo_no) (mo_bf mo_push mo_no)) (mo_bf (mo_bf mo_alen mo_no) (mo_bf mo_gr mo_no))))) (mo_bf (mo_bf (mo_bf (mo_bf (mo_bf (mo_bf mo_ld mo_no) (mo_bf mo_push mo_no)) (mo_bf mo_ld mo_no)) (mo_bf (mo_bf mo_ret mo_no) (mo_bf mo_push mo_no))) (mo_bf (mo_bf (mo_bf mo_nul mo_no) (mo_bf mo_ld mo_no)) (mo_bf (mo_bf mo_st mo_no) (mo_bf mo_aald mo_no)))) (mo_bf (mo_bf (mo_bf (mo_bf mo_ld mo_no) (mo_bf mo_gr mo_no)) (mo_bf (mo_bf mo_ld mo_no) (mo_bf mo_ret mo_no))) (mo_bf (mo_bf (mo_bf mo_push mo_no) (mo_bf mo_if mo_no)) (mo_bf (mo_bf mo_cs mo_no) (mo_bf mo_ld mo_no))))))
theorem ok_X11_item_0 : ok_S 134 0 (sf_ld 0 1 1) := ok_iload_n (by decide +kernel : decode (mb_ 134) 0 = .ok (.iload_n 1, 1)) rfl
theorem ok_X11_item_1 : ok_S 134 1 (sf_cs [0] 148 4) := ok_cs mt_148 (by decide +kernel : decode (mb_ 134) 1 = .ok (.invokestatic 250, 3)) tw_924 tw_925 tw_1 (by decide +kernel) (mh_ok rfl) (by decide) (by decide)
theorem ok_X11_item_4 : ok_S 134 4 (sf_if 0 16 7) := ok_if0 (by decide +kernel : decode (mb_ 134) 4 = .ok (.ifCond .eq 12, 3)) (by decide)
theorem ok_X11_item_7 : ok_S 134 7 (sf_ld 0 2 8) := ok_iload_n (by decide +kernel : decode (mb_ 134) 7 = .ok (.iload_n 2, 1)) rfl
theorem ok_X11_item_8 : ok_S 134 8 (sf_push (0, 0) 9) := ok_iconst (by decide +kernel : decode (mb_ 134) 8 = .ok (.iconst 0, 1)) ⟨by decide, by decide⟩
theorem ok_X11_item_9 : ok_S 134 9 (sf_push (0, 3) 10) := ok_iconst (by decide +kernel : decode (mb_ 134) 9 = .ok (.iconst 3, 1)) ⟨by decide, by decide⟩
theorem ok_X11_item_10 : ok_S 134 10 (sf_cs [0, 0, 0] 145 13) := ok_cs mt_145 (by decide +kernel : decode (mb_ 134) 10 = .ok (.invokestatic 92, 3)) tw_262 tw_263 tw_1 (by decide +kernel) (mh_ok rfl) (by decide) (by decide)
theorem ok_X11_item_13 : ok_S 134 13 (sf_if 1 18 16) := ok_if1 (by decide +kernel : decode (mb_ 134) 13 = .ok (.ifCond .ne 5, 3)) (by decide)
theorem ok_X11_item_16 : ok_S 134 16 (sf_push (0, (-1)) 17) := ok_iconst (by decide +kernel : decode (mb_ 134) 16 = .ok (.iconst (-1), 1)) ⟨by decide, by decide⟩
theorem ok_X11_item_17 : ok_S 134 17 (sf_ret 0) := ok_ret0 (by decide +kernel : decode (mb_ 134) 17 = .ok (.ireturn, 1)) rfl
theorem ok_X11_item_18 : ok_S 134 18 (sf_ld 2 0 19) := ok_aload_n (by decide +kernel : decode (mb_ 134) 18 = .ok (.aload_n 0, 1)) rfl
theorem ok_X11_item_19 : ok_S 134 19 (sf_gr 7 7 12 22) := ok_gr fd_7_12 (by decide +kernel : decode (mb_ 134) 19 = .ok (.getfield 66, 3)) tw_218 (Or.inl rfl) rfl
theorem ok_X11_item_22 : ok_S 134 22 (sf_ld 0 1 23) := ok_iload_n (by decide +kernel : decode (mb_ 134) 22 = .ok (.iload_n 1, 1)) rfl
theorem ok_X11_item_23 : ok_S 134 23 (sf_aald 23 24) := ok_aald (by decide) (by decide +kernel : decode (mb_ 134) 23 = .ok (.aaload, 1))
theorem ok_X11_item_24 : ok_S 134 24 (sf_st 2 4 26) := ok_astore (by decide +kernel : decode (mb_ 134) 24 = .ok (.astore 4, 2))
theorem ok_X11_item_26 : ok_S 134 26 (sf_ld 2 4 28) := ok_aload (by decide +kernel : decode (mb_ 134) 26 = .ok (.aload 4, 2))
theorem ok_X11_item_28 : ok_S 134 28 (sf_nul 31 34) := ok_nnul (by decide +kernel : decode (mb_ 134) 28 = .ok (.ifnonnull 6, 3)) (by decide)
theorem ok_X11_item_31 : ok_S 134 31 (sf_push (0, (-11)) 33) := ok_bipush (by decide +kernel : decode (mb_ 134) 31 = .ok (.bipush (-11), 2)) ⟨by decide, by decide⟩ (by decide +kernel)
theorem ok_X11_item_33 : ok_S 134 33 (sf_ret 0) := ok_ret0 (by decide +kernel : decode (mb_ 134) 33 = .ok (.ireturn, 1)) rfl
theorem ok_X11_item_34 : ok_S 134 34 (sf_ld 2 4 36) := ok_aload (by decide +kernel : decode (mb_ 134) 34 = .ok (.aload 4, 2))
theorem ok_X11_item_36 : ok_S 134 36 (sf_gi 12 12 0 39) := ok_gi fd_12_0 (by decide +kernel : decode (mb_ 134) 36 = .ok (.getfield 253, 3)) tw_945 (Or.inl rfl) rfl
theorem ok_X11_item_39 : ok_S 134 39 (sf_ld 0 2 40) := ok_iload_n (by decide +kernel : decode (mb_ 134) 39 = .ok (.iload_n 2, 1)) rfl
theorem ok_X11_item_40 : ok_S 134 40 (sf_ic 0 46 43) := ok_ic0 (by decide +kernel : decode (mb_ 134) 40 = .ok (.if_icmp .eq 6, 3)) (by decide)
theorem ok_X11_item_43 : ok_S 134 43 (sf_push (0, (-13)) 45) := ok_bipush (by decide +kernel : decode (mb_ 134) 43 = .ok (.bipush (-13), 2)) ⟨by decide, by decide⟩ (by decide +kernel)
theorem ok_X11_item_45 : ok_S 134 45 (sf_ret 0) := ok_ret0 (by decide +kernel : decode (mb_ 134) 45 = .ok (.ireturn, 1)) rfl
theorem ok_X11_item_46 : ok_S 134 46 (sf_ld 0 3 47) := ok_iload_n (by decide +kernel : decode (mb_ 134) 46 = .ok (.iload_n 3, 1)) rfl
theorem ok_X11_item_47 : ok_S 134 47 (sf_push (0, 0) 48) := ok_iconst (by decide +kernel : decode (mb_ 134) 47 = .ok (.iconst 0, 1)) ⟨by decide, by decide⟩
theorem ok_X11_item_48 : ok_S 134 48 (sf_ld 2 4 50) := ok_aload (by decide +kernel : decode (mb_ 134) 48 = .ok (.aload 4, 2))
theorem ok_X11_item_50 : ok_S 134 50 (sf_gr 12 12 1 53) := ok_gr fd_12_1 (by decide +kernel : decode (mb_ 134) 50 = .ok (.getfield 256, 3)) tw_947 (Or.inl rfl) rfl
theorem ok_X11_item_53 : ok_S 134 53 (sf_alen 54) := ok_alen (by decide +kernel : decode (mb_ 134) 53 = .ok (.arraylength, 1))
theorem ok_X11_item_54 : ok_S 134 54 (sf_push (0, 1) 55) := ok_iconst (by decide +kernel : decode (mb_ 134) 54 = .ok (.iconst 1, 1)) ⟨by decide, by decide⟩
theorem ok_X11_item_55 : ok_S 134 55 (sf_i2 mx_sub 56) := ok_isub (by decide +kernel : decode (mb_ 134) 55 = .ok (.isub, 1))
theorem ok_X11_item_56 : ok_S 134 56 (sf_cs [0, 0, 0] 145 59) := ok_cs mt_145 (by decide +kernel : decode (mb_ 134) 56 = .ok (.invokestatic 92, 3)) tw_262 tw_263 tw_1 (by decide +kernel) (mh_ok rfl) (by decide) (by decide)
theorem ok_X11_item_59 : ok_S 134 59 (sf_if 1 65 62) := ok_if1 (by decide +kernel : decode (mb_ 134) 59 = .ok (.ifCond .ne 6, 3)) (by decide)
theorem ok_X11_item_62 : ok_S 134 62 (sf_push (0, (-12)) 64) := ok_bipush (by decide +kernel : decode (mb_ 134) 62 = .ok (.bipush (-12), 2)) ⟨by decide, by decide⟩ (by decide +kernel)
theorem ok_X11_item_64 : ok_S 134 64 (sf_ret 0) := ok_ret0 (by decide +kernel : decode (mb_ 134) 64 = .ok (.ireturn, 1)) rfl
theorem ok_X11_item_65 : ok_S 134 65 (sf_ld 2 4 67) := ok_aload (by decide +kernel : decode (mb_ 134) 65 = .ok (.aload 4, 2))
theorem ok_X11_item_67 : ok_S 134 67 (sf_gr 12 12 1 70) := ok_gr fd_12_1 (by decide +kernel : decode (mb_ 134) 67 = .ok (.getfield 256, 3)) tw_947 (Or.inl rfl) rfl
theorem ok_X11_item_70 : ok_S 134 70 (sf_ld 0 3 71) := ok_iload_n (by decide +kernel : decode (mb_ 134) 70 = .ok (.iload_n 3, 1)) rfl
theorem ok_X11_item_71 : ok_S 134 71 (sf_lald 72) := ok_lald (by decide +kernel : decode (mb_ 134) 71 = .ok (.laload, 1))
theorem ok_X11_item_72 : ok_S 134 72 (sf_l2i 73) := ok_l2i (by decide +kernel : decode (mb_ 134) 72 = .ok (.l2i, 1))
theorem ok_X11_item_73 : ok_S 134 73 (sf_ret 0) := ok_ret0 (by decide +kernel : decode (mb_ 134) 73 = .ok (.ireturn, 1)) rfl
theorem ok_X11_item (pc : Nat) : ok_S 134 pc (cd_X11_item pc) :=
  (ok_bf (ok_bf (ok_bf (ok_bf (ok_bf (ok_bf (ok_lf pc ok_X11_item_73) (ok_lf pc ok_X11_item_72)) (ok_lf pc ok_X11_item_71)) (ok_bf (ok_bf (ok_lf pc ok_X11_item_70) (ok_lf pc ok_X11_item_67)) (ok_lf pc ok_X11_item_65))) (ok_bf (ok_bf (ok_bf (ok_lf pc ok_X11_item_64) (ok_lf pc ok_X11_item_62)) (ok_lf pc ok_X11_item_59)) (ok_bf (ok_lf pc ok_X11_item_56) (ok_lf pc ok_X11_item_55)))) (ok_bf (ok_bf (ok_bf (ok_bf (ok_lf pc ok_X11_item_54) (ok_lf pc ok_X11_item_53)) (ok_lf pc ok_X11_item_50)) (ok_bf (ok_lf pc ok_X11_item_48) (ok_lf pc ok_X11_item_47))) (ok_bf (ok_bf (ok_bf (ok_lf pc ok_X11_item_46) (ok_lf pc ok_X11_item_45)) (ok_lf pc ok_X11_item_43)) (ok_bf (ok_lf pc ok_X11_item_40) (ok_lf pc ok_X11_item_39))))) (ok_bf (ok_bf (ok_bf (ok_bf (ok_bf (ok_lf pc ok_X11_item_36) (ok_lf pc ok_X11_item_34)) (ok_lf pc ok_X11_item_33)) (ok_bf (ok_bf (ok_lf pc ok_X11_item_31) (ok_lf pc ok_X11_item_28)) (ok_lf pc ok_X11_item_26))) (ok_bf (ok_bf (ok_bf (ok_lf pc ok_X11_item_24) (ok_lf pc ok_X11_item_23)) (ok_lf pc ok_X11_item_22)) (ok_bf (ok_lf pc ok_X11_item_19) (ok_lf pc ok_X11_item_18)))) (ok_bf (ok_bf (ok_bf (ok_bf (ok_lf pc ok_X11_item_17) (ok_lf pc ok_X11_item_16)) (ok_lf pc ok_X11_item_13)) (ok_bf (ok_lf pc ok_X11_item_10) (ok_lf pc ok_X11_item_9))) (ok_bf (ok_bf (ok_bf (ok_lf pc ok_X11_item_8) (ok_lf pc ok_X11_item_7)) (ok_lf pc ok_X11_item_4)) (ok_bf (ok_lf pc ok_X11_item_1) (ok_lf pc ok_X11_item_0))))))
theorem mo_X11_item (pc : Nat) : mo_S (cd_X11_item pc) :=
  (mo_bf (mo_bf (mo_bf (mo_bf (mo_bf (mo_bf (mo_bf mo_ret mo_no) (mo_bf mo_l2i mo_no)) (mo_bf mo_lald mo_no)) (mo_bf (mo_bf (mo_bf mo_ld mo_no) (mo_bf mo_gr mo_no)) (mo_bf mo_ld mo_no))) (mo_bf (mo_bf (mo_bf (mo_bf mo_ret mo_no) (mo_bf mo_push mo_no)) (mo_bf mo_if mo_no)) (mo_bf (mo_bf mo_cs mo_no) (mo_bf mo_i2 mo_no)))) (mo_bf (mo_bf (mo_bf (mo_bf (mo_bf mo_push mo_no) (mo_bf mo_alen mo_no)) (mo_bf mo_gr mo_no)) (mo_bf (mo_bf mo_ld mo_no) (mo_bf mo_push mo_no))) (mo_bf (mo_bf (mo_bf (mo_bf mo_ld mo_no) (mo_bf mo_ret mo_no)) (mo_bf mo_push mo_no)) (mo_bf (mo_bf mo_ic mo_no) (mo_bf mo_ld mo_no))))) (mo_bf (mo_bf (mo_bf (mo_bf (mo_bf (mo_bf mo_gi mo_no) (mo_bf mo_ld mo_no)) (mo_bf mo_ret mo_no)) (mo_bf (mo_bf (mo_bf mo_push mo_no) (mo_bf mo_nul mo_no)) (mo_bf mo_ld mo_no))) (mo_bf (mo_bf (mo_bf (mo_bf mo_st mo_no) (mo_bf mo_aald mo_no)) (mo_bf mo_ld mo_no)) (mo_bf (mo_bf mo_gr mo_no) (mo_bf mo_ld mo_no)))) (mo_bf (mo_bf (mo_bf (mo_bf (mo_bf mo_ret mo_no) (mo_bf mo_push mo_no)) (mo_bf mo_if mo_no)) (mo_bf (mo_bf mo_cs mo_no) (mo_bf mo_push mo_no))) (mo_bf (mo_bf (mo_bf (mo_bf mo_push mo_no) (mo_bf mo_ld mo_no)) (mo_bf mo_if mo_no)) (mo_bf (mo_bf mo_cs mo_no) (mo_bf mo_ld mo_no))))))
theorem ok_X11_shelf_0 : ok_S 135 0 (sf_ld 0 1 1) := ok_iload_n (by decide +kernel : decode (mb_ 135) 0 = .ok (.iload_n 1, 1)) rfl
theorem ok_X11_shelf_1 : ok_S 135 1 (sf_cs [0] 149 4) := ok_cs mt_149 (by decide +kernel : decode (mb_ 135) 1 = .ok (.invokestatic 274, 3)) tw_969 tw_970 tw_1 (by decide +kernel) (mh_ok rfl) (by decide) (by decide)
theorem ok_X11_shelf_4 : ok_S 135 4 (sf_if 1 9 7) := ok_if1 (by decide +kernel : decode (mb_ 135) 4 = .ok (.ifCond .ne 5, 3)) (by decide)
theorem ok_X11_shelf_7 : ok_S 135 7 (sf_push (0, (-1)) 8) := ok_iconst (by decide +kernel : decode (mb_ 135) 7 = .ok (.iconst (-1), 1)) ⟨by decide, by decide⟩
theorem ok_X11_shelf_8 : ok_S 135 8 (sf_ret 0) := ok_ret0 (by decide +kernel : decode (mb_ 135) 8 = .ok (.ireturn, 1)) rfl
theorem ok_X11_shelf_9 : ok_S 135 9 (sf_ld 0 2 10) := ok_iload_n (by decide +kernel : decode (mb_ 135) 9 = .ok (.iload_n 2, 1)) rfl
theorem ok_X11_shelf_10 : ok_S 135 10 (sf_sw [(0, 36), (1, 66), (2, 90)] 100) := ok_tsw (by decide +kernel : decode (mb_ 135) 10 = .ok (.tableswitch 90 0 2 #[26, 56, 80], 26)) (by decide) (by decide) (by decide) (by decide)
theorem ok_X11_shelf_36 : ok_S 135 36 (sf_ld 2 0 37) := ok_aload_n (by decide +kernel : decode (mb_ 135) 36 = .ok (.aload_n 0, 1)) rfl
theorem ok_X11_shelf_37 : ok_S 135 37 (sf_gr 7 7 3 40) := ok_gr fd_7_3 (by decide +kernel : decode (mb_ 135) 37 = .ok (.getfield 28, 3)) tw_209 (Or.inl rfl) rfl
theorem ok_X11_shelf_40 : ok_S 135 40 (sf_ld 0 3 41) := ok_iload_n (by decide +kernel : decode (mb_ 135) 40 = .ok (.iload_n 3, 1)) rfl
theorem ok_X11_shelf_41 : ok_S 135 41 (sf_cv 8 [2, 0] 90 44) := ok_cv mt_90 cl_8 (by decide +kernel : decode (mb_ 135) 41 = .ok (.invokevirtual 138, 3)) tw_573 tw_514 tw_515 tw_3 rfl (by decide +kernel) (mh_ok rfl) (by decide) (by decide)
theorem ok_X11_shelf_44 : ok_S 135 44 (sf_nul 47 49) := ok_nnul (by decide +kernel : decode (mb_ 135) 44 = .ok (.ifnonnull 5, 3)) (by decide)
theorem ok_X11_shelf_47 : ok_S 135 47 (sf_push (0, (-1)) 48) := ok_iconst (by decide +kernel : decode (mb_ 135) 47 = .ok (.iconst (-1), 1)) ⟨by decide, by decide⟩
theorem ok_X11_shelf_48 : ok_S 135 48 (sf_ret 0) := ok_ret0 (by decide +kernel : decode (mb_ 135) 48 = .ok (.ireturn, 1)) rfl
theorem ok_X11_shelf_49 : ok_S 135 49 (sf_ld 2 0 50) := ok_aload_n (by decide +kernel : decode (mb_ 135) 49 = .ok (.aload_n 0, 1)) rfl
theorem ok_X11_shelf_50 : ok_S 135 50 (sf_gr 7 7 14 53) := ok_gr fd_7_14 (by decide +kernel : decode (mb_ 135) 50 = .ok (.getfield 73, 3)) tw_220 (Or.inl rfl) rfl
theorem ok_X11_shelf_53 : ok_S 135 53 (sf_ld 0 1 54) := ok_iload_n (by decide +kernel : decode (mb_ 135) 53 = .ok (.iload_n 1, 1)) rfl
theorem ok_X11_shelf_54 : ok_S 135 54 (sf_ld 0 3 55) := ok_iload_n (by decide +kernel : decode (mb_ 135) 54 = .ok (.iload_n 3, 1)) rfl
theorem ok_X11_shelf_55 : ok_S 135 55 (sf_iast 56) := ok_iast (by decide +kernel : decode (mb_ 135) 55 = .ok (.iastore, 1))
theorem ok_X11_shelf_56 : ok_S 135 56 (sf_ld 2 0 57) := ok_aload_n (by decide +kernel : decode (mb_ 135) 56 = .ok (.aload_n 0, 1)) rfl
theorem ok_X11_shelf_57 : ok_S 135 57 (sf_gr 7 7 15 60) := ok_gr fd_7_15 (by decide +kernel : decode (mb_ 135) 57 = .ok (.getfield 76, 3)) tw_221 (Or.inl rfl) rfl
theorem ok_X11_shelf_60 : ok_S 135 60 (sf_ld 0 1 61) := ok_iload_n (by decide +kernel : decode (mb_ 135) 60 = .ok (.iload_n 1, 1)) rfl
theorem ok_X11_shelf_61 : ok_S 135 61 (sf_push (2, (-1)) 62) := ok_null (by decide +kernel : decode (mb_ 135) 61 = .ok (.aconst_null, 1))
theorem ok_X11_shelf_62 : ok_S 135 62 (sf_aast 23 12 12 63) := ok_aast (Or.inr ⟨rfl, rfl⟩) aa_23 (by decide +kernel : decode (mb_ 135) 62 = .ok (.aastore, 1))
theorem ok_X11_shelf_63 : ok_S 135 63 (sf_go 102) := ok_goto (by decide +kernel : decode (mb_ 135) 63 = .ok (.goto 39, 3)) (by decide)
theorem ok_X11_shelf_66 : ok_S 135 66 (sf_ld 0 3 67) := ok_iload_n (by decide +kernel : decode (mb_ 135) 66 = .ok (.iload_n 3, 1)) rfl
theorem ok_X11_shelf_67 : ok_S 135 67 (sf_cs [0] 148 70) := ok_cs mt_148 (by decide +kernel : decode (mb_ 135) 67 = .ok (.invokestatic 250, 3)) tw_924 tw_925 tw_1 (by decide +kernel) (mh_ok rfl) (by decide) (by decide)
theorem ok_X11_shelf_70 : ok_S 135 70 (sf_if 1 75 73) := ok_if1 (by decide +kernel : decode (mb_ 135) 70 = .ok (.ifCond .ne 5, 3)) (by decide)
theorem ok_X11_shelf_73 : ok_S 135 73 (sf_push (0, (-1)) 74) := ok_iconst (by decide +kernel : decode (mb_ 135) 73 = .ok (.iconst (-1), 1)) ⟨by decide, by decide⟩
theorem ok_X11_shelf_74 : ok_S 135 74 (sf_ret 0) := ok_ret0 (by decide +kernel : decode (mb_ 135) 74 = .ok (.ireturn, 1)) rfl
theorem ok_X11_shelf_75 : ok_S 135 75 (sf_ld 2 0 76) := ok_aload_n (by decide +kernel : decode (mb_ 135) 75 = .ok (.aload_n 0, 1)) rfl
theorem ok_X11_shelf_76 : ok_S 135 76 (sf_gr 7 7 15 79) := ok_gr fd_7_15 (by decide +kernel : decode (mb_ 135) 76 = .ok (.getfield 76, 3)) tw_221 (Or.inl rfl) rfl
theorem ok_X11_shelf_79 : ok_S 135 79 (sf_ld 0 1 80) := ok_iload_n (by decide +kernel : decode (mb_ 135) 79 = .ok (.iload_n 1, 1)) rfl
theorem ok_X11_shelf_80 : ok_S 135 80 (sf_ld 2 0 81) := ok_aload_n (by decide +kernel : decode (mb_ 135) 80 = .ok (.aload_n 0, 1)) rfl
theorem ok_X11_shelf_81 : ok_S 135 81 (sf_gr 7 7 12 84) := ok_gr fd_7_12 (by decide +kernel : decode (mb_ 135) 81 = .ok (.getfield 66, 3)) tw_218 (Or.inl rfl) rfl
theorem ok_X11_shelf_84 : ok_S 135 84 (sf_ld 0 3 85) := ok_iload_n (by decide +kernel : decode (mb_ 135) 84 = .ok (.iload_n 3, 1)) rfl
theorem ok_X11_shelf_85 : ok_S 135 85 (sf_aald 23 86) := ok_aald (by decide) (by decide +kernel : decode (mb_ 135) 85 = .ok (.aaload, 1))
theorem ok_X11_shelf_86 : ok_S 135 86 (sf_aast 23 12 12 87) := ok_aast (Or.inr ⟨rfl, rfl⟩) aa_23 (by decide +kernel : decode (mb_ 135) 86 = .ok (.aastore, 1))
theorem ok_X11_shelf_87 : ok_S 135 87 (sf_go 102) := ok_goto (by decide +kernel : decode (mb_ 135) 87 = .ok (.goto 15, 3)) (by decide)
theorem ok_X11_shelf_90 : ok_S 135 90 (sf_ld 2 0 91) := ok_aload_n (by decide +kernel : decode (mb_ 135) 90 = .ok (.aload_n 0, 1)) rfl
theorem ok_X11_shelf_91 : ok_S 135 91 (sf_gr 7 7 15 94) := ok_gr fd_7_15 (by decide +kernel : decode (mb_ 135) 91 = .ok (.getfield 76, 3)) tw_221 (Or.inl rfl) rfl
theorem ok_X11_shelf_94 : ok_S 135 94 (sf_ld 0 1 95) := ok_iload_n (by decide +kernel : decode (mb_ 135) 94 = .ok (.iload_n 1, 1)) rfl
theorem ok_X11_shelf_95 : ok_S 135 95 (sf_push (2, (-1)) 96) := ok_null (by decide +kernel : decode (mb_ 135) 95 = .ok (.aconst_null, 1))
theorem ok_X11_shelf_96 : ok_S 135 96 (sf_aast 23 12 12 97) := ok_aast (Or.inr ⟨rfl, rfl⟩) aa_23 (by decide +kernel : decode (mb_ 135) 96 = .ok (.aastore, 1))
theorem ok_X11_shelf_97 : ok_S 135 97 (sf_go 102) := ok_goto (by decide +kernel : decode (mb_ 135) 97 = .ok (.goto 5, 3)) (by decide)
theorem ok_X11_shelf_100 : ok_S 135 100 (sf_push (0, (-1)) 101) := ok_iconst (by decide +kernel : decode (mb_ 135) 100 = .ok (.iconst (-1), 1)) ⟨by decide, by decide⟩
theorem ok_X11_shelf_101 : ok_S 135 101 (sf_ret 0) := ok_ret0 (by decide +kernel : decode (mb_ 135) 101 = .ok (.ireturn, 1)) rfl
theorem ok_X11_shelf_102 : ok_S 135 102 (sf_ld 2 0 103) := ok_aload_n (by decide +kernel : decode (mb_ 135) 102 = .ok (.aload_n 0, 1)) rfl
theorem ok_X11_shelf_103 : ok_S 135 103 (sf_gr 7 7 13 106) := ok_gr fd_7_13 (by decide +kernel : decode (mb_ 135) 103 = .ok (.getfield 70, 3)) tw_219 (Or.inl rfl) rfl
theorem ok_X11_shelf_106 : ok_S 135 106 (sf_ld 0 1 107) := ok_iload_n (by decide +kernel : decode (mb_ 135) 106 = .ok (.iload_n 1, 1)) rfl
theorem ok_X11_shelf_107 : ok_S 135 107 (sf_ld 0 2 108) := ok_iload_n (by decide +kernel : decode (mb_ 135) 107 = .ok (.iload_n 2, 1)) rfl
theorem ok_X11_shelf_108 : ok_S 135 108 (sf_iast 109) := ok_iast (by decide +kernel : decode (mb_ 135) 108 = .ok (.iastore, 1))
theorem ok_X11_shelf_109 : ok_S 135 109 (sf_push (0, 1) 110) := ok_iconst (by decide +kernel : decode (mb_ 135) 109 = .ok (.iconst 1, 1)) ⟨by decide, by decide⟩
theorem ok_X11_shelf_110 : ok_S 135 110 (sf_ret 0) := ok_ret0 (by decide +kernel : decode (mb_ 135) 110 = .ok (.ireturn, 1)) rfl
theorem ok_X11_shelf (pc : Nat) : ok_S 135 pc (cd_X11_shelf pc) :=
  (ok_bf (ok_bf (ok_bf (ok_bf (ok_bf (ok_bf (ok_lf pc ok_X11_shelf_110) (ok_lf pc ok_X11_shelf_109)) (ok_bf (ok_lf pc ok_X11_shelf_108) (ok_lf pc ok_X11_shelf_107))) (ok_bf (ok_bf (ok_lf pc ok_X11_shelf_106) (ok_lf pc ok_X11_shelf_103)) (ok_lf pc ok_X11_shelf_102))) (ok_bf (ok_bf (ok_bf (ok_lf pc ok_X11_shelf_101) (ok_lf pc ok_X11_shelf_100)) (ok_bf (ok_lf pc ok_X11_shelf_97) (ok_lf pc ok_X11_shelf_96))) (ok_bf (ok_bf (ok_lf pc ok_X11_shelf_95) (ok_lf pc ok_X11_shelf_94)) (ok_lf pc ok_X11_shelf_91)))) (ok_bf (ok_bf (ok_bf (ok_bf (ok_lf pc ok_X11_shelf_90) (ok_lf pc ok_X11_shelf_87)) (ok_bf (ok_lf pc ok_X11_shelf_86) (ok_lf pc ok_X11_shelf_85))) (ok_bf (ok_bf (ok_lf pc ok_X11_shelf_84) (ok_lf pc ok_X11_shelf_81)) (ok_lf pc ok_X11_shelf_80))) (ok_bf (ok_bf (ok_bf (ok_lf pc ok_X11_shelf_79) (ok_lf pc ok_X11_shelf_76)) (ok_lf pc ok_X11_shelf_75)) (ok_bf (ok_bf (ok_lf pc ok_X11_shelf_74) (ok_lf pc ok_X11_shelf_73)) (ok_lf pc ok_X11_shelf_70))))) (ok_bf (ok_bf (ok_bf (ok_bf (ok_bf (ok_lf pc ok_X11_shelf_67) (ok_lf pc ok_X11_shelf_66)) (ok_bf (ok_lf pc ok_X11_shelf_63) (ok_lf pc ok_X11_shelf_62))) (ok_bf (ok_bf (ok_lf pc ok_X11_shelf_61) (ok_lf pc ok_X11_shelf_60)) (ok_lf pc ok_X11_shelf_57))) (ok_bf (ok_bf (ok_bf (ok_lf pc ok_X11_shelf_56) (ok_lf pc ok_X11_shelf_55)) (ok_bf (ok_lf pc ok_X11_shelf_54) (ok_lf pc ok_X11_shelf_53))) (ok_bf (ok_bf (ok_lf pc ok_X11_shelf_50) (ok_lf pc ok_X11_shelf_49)) (ok_lf pc ok_X11_shelf_48)))) (ok_bf (ok_bf (ok_bf (ok_bf (ok_lf pc ok_X11_shelf_47) (ok_lf pc ok_X11_shelf_44)) (ok_bf (ok_lf pc ok_X11_shelf_41) (ok_lf pc ok_X11_shelf_40))) (ok_bf (ok_bf (ok_lf pc ok_X11_shelf_37) (ok_lf pc ok_X11_shelf_36)) (ok_lf pc ok_X11_shelf_10))) (ok_bf (ok_bf (ok_bf (ok_lf pc ok_X11_shelf_9) (ok_lf pc ok_X11_shelf_8)) (ok_lf pc ok_X11_shelf_7)) (ok_bf (ok_bf (ok_lf pc ok_X11_shelf_4) (ok_lf pc ok_X11_shelf_1)) (ok_lf pc ok_X11_shelf_0))))))
theorem mo_X11_shelf (pc : Nat) : mo_S (cd_X11_shelf pc) :=
  (mo_bf (mo_bf (mo_bf (mo_bf (mo_bf (mo_bf (mo_bf mo_ret mo_no) (mo_bf mo_push mo_no)) (mo_bf (mo_bf mo_iast mo_no) (mo_bf mo_ld mo_no))) (mo_bf (mo_bf (mo_bf mo_ld mo_no) (mo_bf mo_gr mo_no)) (mo_bf mo_ld mo_no))) (mo_bf (mo_bf (mo_bf (mo_bf mo_ret mo_no) (mo_bf mo_push mo_no)) (mo_bf (mo_bf mo_go mo_no) (mo_bf mo_aast mo_no))) (mo_bf (mo_bf (mo_bf mo_push mo_no) (mo_bf mo_ld mo_no)) (mo_bf mo_gr mo_no)))) (mo_bf (mo_bf (mo_bf (mo_bf (mo_bf mo_ld mo_no) (mo_bf mo_go mo_no)) (mo_bf (mo_bf mo_aast mo_no) (mo_bf mo_aald mo_no))) (mo_bf (mo_bf (mo_bf mo_ld mo_no) (mo_bf mo_gr mo_no)) (mo_bf mo_ld mo_no))) (mo_bf (mo_bf (mo_bf (mo_bf mo_ld mo_no) (mo_bf mo_gr mo_no)) (mo_bf mo_ld mo_no)) (mo_bf (mo_bf (mo_bf mo_ret mo_no) (mo_bf mo_push mo_no)) (mo_bf mo_if mo_no))))) (mo_bf (mo_bf (mo_bf (mo_bf (mo_bf (mo_bf mo_cs mo_no) (mo_bf mo_ld mo_no)) (mo_bf (mo_bf mo_go mo_no) (mo_bf mo_aast mo_no))) (mo_bf (mo_bf (mo_bf mo_push mo_no) (mo_bf mo_ld mo_no)) (mo_bf mo_gr mo_no))) (mo_bf (mo_bf (mo_bf (mo_bf mo_ld mo_no) (mo_bf mo_iast mo_no)) (mo_bf (mo_bf mo_ld mo_no) (mo_bf mo_ld mo_no))) (mo_bf (mo_bf (mo_bf mo_gr mo_no) (mo_bf mo_ld mo_no)) (mo_bf mo_ret mo_no)))) (mo_bf (mo_bf (mo_bf (mo_bf (mo_bf mo_push mo_no) (mo_bf mo_nul mo_no)) (mo_bf (mo_bf mo_cv mo_no) (mo_bf mo_ld mo_no))) (mo_bf (mo_bf (mo_bf mo_gr mo_no) (mo_bf mo_ld mo_no)) (mo_bf mo_sw mo_no))) (mo_bf (mo_bf (mo_bf (mo_bf mo_ld mo_no) (mo_bf mo_ret mo_no)) (mo_bf mo_push mo_no)) (mo_bf (mo_bf (mo_bf mo_if mo_no) (mo_bf mo_cs mo_no)) (mo_bf mo_ld mo_no))))))
theorem ok_X11_taken_0 : ok_S 136 0 (sf_ld 0 2 1) := ok_iload_n (by decide +kernel : decode (mb_ 136) 0 = .ok (.iload_n 2, 1)) rfl
theorem ok_X11_taken_1 : ok_S 136 1 (sf_push (0, 10) 3) := ok_bipush (by decide +kernel : decode (mb_ 136) 1 = .ok (.bipush 10, 2)) ⟨by decide, by decide⟩ (by decide +kernel)
theorem ok_X11_taken_3 : ok_S 136 3 (sf_push (0, 13) 5) := ok_bipush (by decide +kernel : decode (mb_ 136) 3 = .ok (.bipush 13, 2)) ⟨by decide, by decide⟩ (by decide +kernel)
theorem ok_X11_taken_5 : ok_S 136 5 (sf_cs [0, 0, 0] 145 8) := ok_cs mt_145 (by decide +kernel : decode (mb_ 136) 5 = .ok (.invokestatic 92, 3)) tw_262 tw_263 tw_1 (by decide +kernel) (mh_ok rfl) (by decide) (by decide)
theorem ok_X11_taken_8 : ok_S 136 8 (sf_st 0 3 9) := ok_istore_n (by decide +kernel : decode (mb_ 136) 8 = .ok (.istore_n 3, 1)) rfl
theorem ok_X11_taken_9 : ok_S 136 9 (sf_ld 0 1 10) := ok_iload_n (by decide +kernel : decode (mb_ 136) 9 = .ok (.iload_n 1, 1)) rfl
theorem ok_X11_taken_10 : ok_S 136 10 (sf_cs [0] 149 13) := ok_cs mt_149 (by decide +kernel : decode (mb_ 136) 10 = .ok (.invokestatic 274, 3)) tw_969 tw_970 tw_1 (by decide +kernel) (mh_ok rfl) (by decide) (by decide)
theorem ok_X11_taken_13 : ok_S 136 13 (sf_if 0 29 16) := ok_if0 (by decide +kernel : decode (mb_ 136) 13 = .ok (.ifCond .eq 16, 3)) (by decide)
theorem ok_X11_taken_16 : ok_S 136 16 (sf_ld 0 3 17) := ok_iload_n (by decide +kernel : decode (mb_ 136) 16 = .ok (.iload_n 3, 1)) rfl
theorem ok_X11_taken_17 : ok_S 136 17 (sf_if 1 31 20) := ok_if1 (by decide +kernel : decode (mb_ 136) 17 = .ok (.ifCond .ne 14, 3)) (by decide)
theorem ok_X11_taken_20 : ok_S 136 20 (sf_ld 0 2 21) := ok_iload_n (by decide +kernel : decode (mb_ 136) 20 = .ok (.iload_n 2, 1)) rfl
theorem ok_X11_taken_21 : ok_S 136 21 (sf_push (0, 0) 22) := ok_iconst (by decide +kernel : decode (mb_ 136) 21 = .ok (.iconst 0, 1)) ⟨by decide, by decide⟩
theorem ok_X11_taken_22 : ok_S 136 22 (sf_push (0, 5) 23) := ok_iconst (by decide +kernel : decode (mb_ 136) 22 = .ok (.iconst 5, 1)) ⟨by decide, by decide⟩
theorem ok_X11_taken_23 : ok_S 136 23 (sf_cs [0, 0, 0] 145 26) := ok_cs mt_145 (by decide +kernel : decode (mb_ 136) 23 = .ok (.invokestatic 92, 3)) tw_262 tw_263 tw_1 (by decide +kernel) (mh_ok rfl) (by decide) (by decide)
theorem ok_X11_taken_26 : ok_S 136 26 (sf_if 1 31 29) := ok_if1 (by decide +kernel : decode (mb_ 136) 26 = .ok (.ifCond .ne 5, 3)) (by decide)
theorem ok_X11_taken_29 : ok_S 136 29 (sf_push (0, (-1)) 30) := ok_iconst (by decide +kernel : decode (mb_ 136) 29 = .ok (.iconst (-1), 1)) ⟨by decide, by decide⟩
theorem ok_X11_taken_30 : ok_S 136 30 (sf_ret 0) := ok_ret0 (by decide +kernel : decode (mb_ 136) 30 = .ok (.ireturn, 1)) rfl
theorem ok_X11_taken_31 : ok_S 136 31 (sf_ld 2 0 32) := ok_aload_n (by decide +kernel : decode (mb_ 136) 31 = .ok (.aload_n 0, 1)) rfl
theorem ok_X11_taken_32 : ok_S 136 32 (sf_ld 0 1 33) := ok_iload_n (by decide +kernel : decode (mb_ 136) 32 = .ok (.iload_n 1, 1)) rfl
theorem ok_X11_taken_33 : ok_S 136 33 (sf_cv 7 [2, 0] 144 36) := ok_cv mt_144 cl_7 (by decide +kernel : decode (mb_ 136) 33 = .ok (.invokevirtual 277, 3)) tw_976 tw_978 ts_28 tw_1 rfl (by decide +kernel) (mh_ok rfl) (by decide) (by decide)
theorem ok_X11_taken_36 : ok_S 136 36 (sf_st 2 4 38) := ok_astore (by decide +kernel : decode (mb_ 136) 36 = .ok (.astore 4, 2))
theorem ok_X11_taken_38 : ok_S 136 38 (sf_ld 2 0 39) := ok_aload_n (by decide +kernel : decode (mb_ 136) 38 = .ok (.aload_n 0, 1)) rfl
theorem ok_X11_taken_39 : ok_S 136 39 (sf_gr 7 7 15 42) := ok_gr fd_7_15 (by decide +kernel : decode (mb_ 136) 39 = .ok (.getfield 76, 3)) tw_221 (Or.inl rfl) rfl
theorem ok_X11_taken_42 : ok_S 136 42 (sf_ld 0 1 43) := ok_iload_n (by decide +kernel : decode (mb_ 136) 42 = .ok (.iload_n 1, 1)) rfl
theorem ok_X11_taken_43 : ok_S 136 43 (sf_aald 23 44) := ok_aald (by decide) (by decide +kernel : decode (mb_ 136) 43 = .ok (.aaload, 1))
theorem ok_X11_taken_44 : ok_S 136 44 (sf_st 2 5 46) := ok_astore (by decide +kernel : decode (mb_ 136) 44 = .ok (.astore 5, 2))
theorem ok_X11_taken_46 : ok_S 136 46 (sf_ld 2 4 48) := ok_aload (by decide +kernel : decode (mb_ 136) 46 = .ok (.aload 4, 2))
theorem ok_X11_taken_48 : ok_S 136 48 (sf_nul 51 59) := ok_nnul (by decide +kernel : decode (mb_ 136) 48 = .ok (.ifnonnull 11, 3)) (by decide)
theorem ok_X11_taken_51 : ok_S 136 51 (sf_ld 2 5 53) := ok_aload (by decide +kernel : decode (mb_ 136) 51 = .ok (.aload 5, 2))
theorem ok_X11_taken_53 : ok_S 136 53 (sf_nul 56 59) := ok_nnul (by decide +kernel : decode (mb_ 136) 53 = .ok (.ifnonnull 6, 3)) (by decide)
theorem ok_X11_taken_56 : ok_S 136 56 (sf_push (0, (-11)) 58) := ok_bipush (by decide +kernel : decode (mb_ 136) 56 = .ok (.bipush (-11), 2)) ⟨by decide, by decide⟩ (by decide +kernel)
theorem ok_X11_taken_58 : ok_S 136 58 (sf_ret 0) := ok_ret0 (by decide +kernel : decode (mb_ 136) 58 = .ok (.ireturn, 1)) rfl
theorem ok_X11_taken_59 : ok_S 136 59 (sf_ld 2 4 61) := ok_aload (by decide +kernel : decode (mb_ 136) 59 = .ok (.aload 4, 2))
theorem ok_X11_taken_61 : ok_S 136 61 (sf_nul 88 64) := ok_nul (by decide +kernel : decode (mb_ 136) 61 = .ok (.ifnull 27, 3)) (by decide)
theorem ok_X11_taken_64 : ok_S 136 64 (sf_ld 0 3 65) := ok_iload_n (by decide +kernel : decode (mb_ 136) 64 = .ok (.iload_n 3, 1)) rfl
theorem ok_X11_taken_65 : ok_S 136 65 (sf_if 1 85 68) := ok_if1 (by decide +kernel : decode (mb_ 136) 65 = .ok (.ifCond .ne 20, 3)) (by decide)
theorem ok_X11_taken_68 : ok_S 136 68 (sf_ld 2 4 70) := ok_aload (by decide +kernel : decode (mb_ 136) 68 = .ok (.aload 4, 2))
theorem ok_X11_taken_70 : ok_S 136 70 (sf_ld 0 2 71) := ok_iload_n (by decide +kernel : decode (mb_ 136) 70 = .ok (.iload_n 2, 1)) rfl
theorem ok_X11_taken_71 : ok_S 136 71 (sf_ci 1 6 [2, 0] 42 74) := ok_cu1 (x := ⟨"RoomNumbers$Note", "isOfKind", "(I)Z"⟩) (ow := "RoomNumbers$Note") ⟨tw_980, tw_983, tw_981, ⟨_, _, _, tw_989⟩, mh_ok rfl, (by decide +kernel)⟩ (by
    intro t h1 h2
    rcases (by omega : t = 1 ∨ t = 2 ∨ t = 3 ∨ t = 4 ∨ t = 5 ∨ t = 6) with e | e | e | e | e | e <;> subst e
    · exact ⟨"RoomNumbers$Note", cl_1, mt_42, tw_982, tw_981, tw_14, by decide, by decide⟩
    · exact ⟨"RoomNumbers$Strokes", cl_2, mt_42, tw_987, tw_981, tw_14, by decide, by decide⟩
    · exact ⟨"RoomNumbers$Broken", cl_3, mt_42, tw_984, tw_981, tw_14, by decide, by decide⟩
    · exact ⟨"RoomNumbers$Left", cl_4, mt_42, tw_986, tw_981, tw_14, by decide, by decide⟩
    · exact ⟨"RoomNumbers$Turned", cl_5, mt_42, tw_988, tw_981, tw_14, by decide, by decide⟩
    · exact ⟨"RoomNumbers$Debt", cl_6, mt_42, tw_985, tw_981, tw_14, by decide, by decide⟩) mt_42 (by decide) (by decide +kernel : decode (mb_ 136) 71 = .ok (.invokevirtual 280, 3)) rfl
theorem ok_X11_taken_74 : ok_S 136 74 (sf_if 0 85 77) := ok_if0 (by decide +kernel : decode (mb_ 136) 74 = .ok (.ifCond .eq 11, 3)) (by decide)
theorem ok_X11_taken_77 : ok_S 136 77 (sf_ld 2 4 79) := ok_aload (by decide +kernel : decode (mb_ 136) 77 = .ok (.aload 4, 2))
theorem ok_X11_taken_79 : ok_S 136 79 (sf_gi 1 6 0 82) := ok_gi fd_1_0 (by decide +kernel : decode (mb_ 136) 79 = .ok (.getfield 283, 3)) tw_405 (Or.inl rfl) rfl
theorem ok_X11_taken_82 : ok_S 136 82 (sf_go 87) := ok_goto (by decide +kernel : decode (mb_ 136) 82 = .ok (.goto 5, 3)) (by decide)
theorem ok_X11_taken_85 : ok_S 136 85 (sf_push (0, (-13)) 87) := ok_bipush (by decide +kernel : decode (mb_ 136) 85 = .ok (.bipush (-13), 2)) ⟨by decide, by decide⟩ (by decide +kernel)
theorem ok_X11_taken_87 : ok_S 136 87 (sf_ret 0) := ok_ret0 (by decide +kernel : decode (mb_ 136) 87 = .ok (.ireturn, 1)) rfl
theorem ok_X11_taken_88 : ok_S 136 88 (sf_ld 0 3 89) := ok_iload_n (by decide +kernel : decode (mb_ 136) 88 = .ok (.iload_n 3, 1)) rfl
theorem ok_X11_taken_89 : ok_S 136 89 (sf_if 0 113 92) := ok_if0 (by decide +kernel : decode (mb_ 136) 89 = .ok (.ifCond .eq 24, 3)) (by decide)
theorem ok_X11_taken_92 : ok_S 136 92 (sf_ld 2 5 94) := ok_aload (by decide +kernel : decode (mb_ 136) 92 = .ok (.aload 5, 2))
theorem ok_X11_taken_94 : ok_S 136 94 (sf_gi 12 12 0 97) := ok_gi fd_12_0 (by decide +kernel : decode (mb_ 136) 94 = .ok (.getfield 253, 3)) tw_945 (Or.inl rfl) rfl
theorem ok_X11_taken_97 : ok_S 136 97 (sf_ld 0 2 98) := ok_iload_n (by decide +kernel : decode (mb_ 136) 97 = .ok (.iload_n 2, 1)) rfl
theorem ok_X11_taken_98 : ok_S 136 98 (sf_push (0, 10) 100) := ok_bipush (by decide +kernel : decode (mb_ 136) 98 = .ok (.bipush 10, 2)) ⟨by decide, by decide⟩ (by decide +kernel)
theorem ok_X11_taken_100 : ok_S 136 100 (sf_i2 mx_sub 101) := ok_isub (by decide +kernel : decode (mb_ 136) 100 = .ok (.isub, 1))
theorem ok_X11_taken_101 : ok_S 136 101 (sf_ic 1 113 104) := ok_ic1 (by decide +kernel : decode (mb_ 136) 101 = .ok (.if_icmp .ne 12, 3)) (by decide)
theorem ok_X11_taken_104 : ok_S 136 104 (sf_ld 2 5 106) := ok_aload (by decide +kernel : decode (mb_ 136) 104 = .ok (.aload 5, 2))
theorem ok_X11_taken_106 : ok_S 136 106 (sf_gr 12 12 1 109) := ok_gr fd_12_1 (by decide +kernel : decode (mb_ 136) 106 = .ok (.getfield 256, 3)) tw_947 (Or.inl rfl) rfl
theorem ok_X11_taken_109 : ok_S 136 109 (sf_alen 110) := ok_alen (by decide +kernel : decode (mb_ 136) 109 = .ok (.arraylength, 1))
theorem ok_X11_taken_110 : ok_S 136 110 (sf_go 115) := ok_goto (by decide +kernel : decode (mb_ 136) 110 = .ok (.goto 5, 3)) (by decide)
theorem ok_X11_taken_113 : ok_S 136 113 (sf_push (0, (-13)) 115) := ok_bipush (by decide +kernel : decode (mb_ 136) 113 = .ok (.bipush (-13), 2)) ⟨by decide, by decide⟩ (by decide +kernel)
theorem ok_X11_taken_115 : ok_S 136 115 (sf_ret 0) := ok_ret0 (by decide +kernel : decode (mb_ 136) 115 = .ok (.ireturn, 1)) rfl
theorem ok_X11_taken (pc : Nat) : ok_S 136 pc (cd_X11_taken pc) :=
  (ok_bf (ok_bf (ok_bf (ok_bf (ok_bf (ok_bf (ok_lf pc ok_X11_taken_115) (ok_lf pc ok_X11_taken_113)) (ok_bf (ok_lf pc ok_X11_taken_110) (ok_lf pc ok_X11_taken_109))) (ok_bf (ok_bf (ok_lf pc ok_X11_taken_106) (ok_lf pc ok_X11_taken_104)) (ok_bf (ok_lf pc ok_X11_taken_101) (ok_lf pc ok_X11_taken_100)))) (ok_bf (ok_bf (ok_bf (ok_lf pc ok_X11_taken_98) (ok_lf pc ok_X11_taken_97)) (ok_bf (ok_lf pc ok_X11_taken_94) (ok_lf pc ok_X11_taken_92))) (ok_bf (ok_bf (ok_lf pc ok_X11_taken_89) (ok_lf pc ok_X11_taken_88)) (ok_lf pc ok_X11_taken_87)))) (ok_bf (ok_bf (ok_bf (ok_bf (ok_lf pc ok_X11_taken_85) (ok_lf pc ok_X11_taken_82)) (ok_bf (ok_lf pc ok_X11_taken_79) (ok_lf pc ok_X11_taken_77))) (ok_bf (ok_bf (ok_lf pc ok_X11_taken_74) (ok_lf pc ok_X11_taken_71)) (ok_bf (ok_lf pc ok_X11_taken_70) (ok_lf pc ok_X11_taken_68)))) (ok_bf (ok_bf (ok_bf (ok_lf pc ok_X11_taken_65) (ok_lf pc ok_X11_taken_64)) (ok_bf (ok_lf pc ok_X11_taken_61) (ok_lf pc ok_X11_taken_59))) (ok_bf (ok_bf (ok_lf pc ok_X11_taken_58) (ok_lf pc ok_X11_taken_56)) (ok_lf pc ok_X11_taken_53))))) (ok_bf (ok_bf (ok_bf (ok_bf (ok_bf (ok_lf pc ok_X11_taken_51) (ok_lf pc ok_X11_taken_48)) (ok_bf (ok_lf pc ok_X11_taken_46) (ok_lf pc ok_X11_taken_44))) (ok_bf (ok_bf (ok_lf pc ok_X11_taken_43) (ok_lf pc ok_X11_taken_42)) (ok_bf (ok_lf pc ok_X11_taken_39) (ok_lf pc ok_X11_taken_38)))) (ok_bf (ok_bf (ok_bf (ok_lf pc ok_X11_taken_36) (ok_lf pc ok_X11_taken_33)) (ok_bf (ok_lf pc ok_X11_taken_32) (ok_lf pc ok_X11_taken_31))) (ok_bf (ok_bf (ok_lf pc ok_X11_taken_30) (ok_lf pc ok_X11_taken_29)) (ok_lf pc ok_X11_taken_26)))) (ok_bf (ok_bf (ok_bf (ok_bf (ok_lf pc ok_X11_taken_23) (ok_lf pc ok_X11_taken_22)) (ok_bf (ok_lf pc ok_X11_taken_21) (ok_lf pc ok_X11_taken_20))) (ok_bf (ok_bf (ok_lf pc ok_X11_taken_17) (ok_lf pc ok_X11_taken_16)) (ok_lf pc ok_X11_taken_13))) (ok_bf (ok_bf (ok_bf (ok_lf pc ok_X11_taken_10) (ok_lf pc ok_X11_taken_9)) (ok_bf (ok_lf pc ok_X11_taken_8) (ok_lf pc ok_X11_taken_5))) (ok_bf (ok_bf (ok_lf pc ok_X11_taken_3) (ok_lf pc ok_X11_taken_1)) (ok_lf pc ok_X11_taken_0))))))
theorem mo_X11_taken (pc : Nat) : mo_S (cd_X11_taken pc) :=
  (mo_bf (mo_bf (mo_bf (mo_bf (mo_bf (mo_bf (mo_bf mo_ret mo_no) (mo_bf mo_push mo_no)) (mo_bf (mo_bf mo_go mo_no) (mo_bf mo_alen mo_no))) (mo_bf (mo_bf (mo_bf mo_gr mo_no) (mo_bf mo_ld mo_no)) (mo_bf (mo_bf mo_ic mo_no) (mo_bf mo_i2 mo_no)))) (mo_bf (mo_bf (mo_bf (mo_bf mo_push mo_no) (mo_bf mo_ld mo_no)) (mo_bf (mo_bf mo_gi mo_no) (mo_bf mo_ld mo_no))) (mo_bf (mo_bf (mo_bf mo_if mo_no) (mo_bf mo_ld mo_no)) (mo_bf mo_ret mo_no)))) (mo_bf (mo_bf (mo_bf (mo_bf (mo_bf mo_push mo_no) (mo_bf mo_go mo_no)) (mo_bf (mo_bf mo_gi mo_no) (mo_bf mo_ld mo_no))) (mo_bf (mo_bf (mo_bf mo_if mo_no) (mo_bf mo_ci mo_no)) (mo_bf (mo_bf mo_ld mo_no) (mo_bf mo_ld mo_no)))) (mo_bf (mo_bf (mo_bf (mo_bf mo_if mo_no) (mo_bf mo_ld mo_no)) (mo_bf (mo_bf mo_nul mo_no) (mo_bf mo_ld mo_no))) (mo_bf (mo_bf (mo_bf mo_ret mo_no) (mo_bf mo_push mo_no)) (mo_bf mo_nul mo_no))))) (mo_bf (mo_bf (mo_bf (mo_bf (mo_bf (mo_bf mo_ld mo_no) (mo_bf mo_nul mo_no)) (mo_bf (mo_bf mo_ld mo_no) (mo_bf mo_st mo_no))) (mo_bf (mo_bf (mo_bf mo_aald mo_no) (mo_bf mo_ld mo_no)) (mo_bf (mo_bf mo_gr mo_no) (mo_bf mo_ld mo_no)))) (mo_bf (mo_bf (mo_bf (mo_bf mo_st mo_no) (mo_bf mo_cv mo_no)) (mo_bf (mo_bf mo_ld mo_no) (mo_bf mo_ld mo_no))) (mo_bf (mo_bf (mo_bf mo_ret mo_no) (mo_bf mo_push mo_no)) (mo_bf mo_if mo_no)))) (mo_bf (mo_bf (mo_bf (mo_bf (mo_bf mo_cs mo_no) (mo_bf mo_push mo_no)) (mo_bf (mo_bf mo_push mo_no) (mo_bf mo_ld mo_no))) (mo_bf (mo_bf (mo_bf mo_if mo_no) (mo_bf mo_ld mo_no)) (mo_bf mo_if mo_no))) (mo_bf (mo_bf (mo_bf (mo_bf mo_cs mo_no) (mo_bf mo_ld mo_no)) (mo_bf (mo_bf mo_st mo_no) (mo_bf mo_cs mo_no))) (mo_bf (mo_bf (mo_bf mo_push mo_no) (mo_bf mo_push mo_no)) (mo_bf mo_ld mo_no))))))
theorem ok_X11_act_0 : ok_S 137 0 (sf_ld 2 0 1) := ok_aload_n (by decide +kernel : decode (mb_ 137) 0 = .ok (.aload_n 0, 1)) rfl
theorem ok_X11_act_1 : ok_S 137 1 (sf_gr 7 7 16 4) := ok_gr fd_7_16 (by decide +kernel : decode (mb_ 137) 1 = .ok (.getfield 82, 3)) tw_222 (Or.inl rfl) rfl
theorem ok_X11_act_4 : ok_S 137 4 (sf_cv 11 [2] 75 7) := ok_cv mt_75 cl_11 (by decide +kernel : decode (mb_ 137) 4 = .ok (.invokevirtual 286, 3)) tw_999 tw_1000 tw_1001 tw_6 rfl (by decide +kernel) (mh_ok rfl) (by decide) (by decide)
theorem ok_X11_act_7 : ok_S 137 7 (sf_ld 0 1 8) := ok_iload_n (by decide +kernel : decode (mb_ 137) 7 = .ok (.iload_n 1, 1)) rfl
theorem ok_X11_act_8 : ok_S 137 8 (sf_cs [0] 149 11) := ok_cs mt_149 (by decide +kernel : decode (mb_ 137) 8 = .ok (.invokestatic 274, 3)) tw_969 tw_970 tw_1 (by decide +kernel) (mh_ok rfl) (by decide) (by decide)
theorem ok_X11_act_11 : ok_S 137 11 (sf_if 0 22 14) := ok_if0 (by decide +kernel : decode (mb_ 137) 11 = .ok (.ifCond .eq 11, 3)) (by decide)
theorem ok_X11_act_14 : ok_S 137 14 (sf_ld 2 0 15) := ok_aload_n (by decide +kernel : decode (mb_ 137) 14 = .ok (.aload_n 0, 1)) rfl
theorem ok_X11_act_15 : ok_S 137 15 (sf_ld 0 1 16) := ok_iload_n (by decide +kernel : decode (mb_ 137) 15 = .ok (.iload_n 1, 1)) rfl
theorem ok_X11_act_16 : ok_S 137 16 (sf_cv 7 [2, 0] 144 19) := ok_cv mt_144 cl_7 (by decide +kernel : decode (mb_ 137) 16 = .ok (.invokevirtual 277, 3)) tw_976 tw_978 ts_28 tw_1 rfl (by decide +kernel) (mh_ok rfl) (by decide) (by decide)
theorem ok_X11_act_19 : ok_S 137 19 (sf_go 23) := ok_goto (by decide +kernel : decode (mb_ 137) 19 = .ok (.goto 4, 3)) (by decide)
theorem ok_X11_act_22 : ok_S 137 22 (sf_push (2, (-1)) 23) := ok_null (by decide +kernel : decode (mb_ 137) 22 = .ok (.aconst_null, 1))
theorem ok_X11_act_23 : ok_S 137 23 (sf_st 2 4 25) := ok_astore (by decide +kernel : decode (mb_ 137) 23 = .ok (.astore 4, 2))
theorem ok_X11_act_25 : ok_S 137 25 (sf_ld 2 4 27) := ok_aload (by decide +kernel : decode (mb_ 137) 25 = .ok (.aload 4, 2))
theorem ok_X11_act_27 : ok_S 137 27 (sf_nul 39 30) := ok_nul (by decide +kernel : decode (mb_ 137) 27 = .ok (.ifnull 12, 3)) (by decide)
theorem ok_X11_act_30 : ok_S 137 30 (sf_ld 0 2 31) := ok_iload_n (by decide +kernel : decode (mb_ 137) 30 = .ok (.iload_n 2, 1)) rfl
theorem ok_X11_act_31 : ok_S 137 31 (sf_push (0, 0) 32) := ok_iconst (by decide +kernel : decode (mb_ 137) 31 = .ok (.iconst 0, 1)) ⟨by decide, by decide⟩
theorem ok_X11_act_32 : ok_S 137 32 (sf_push (0, 3) 33) := ok_iconst (by decide +kernel : decode (mb_ 137) 32 = .ok (.iconst 3, 1)) ⟨by decide, by decide⟩
theorem ok_X11_act_33 : ok_S 137 33 (sf_cs [0, 0, 0] 145 36) := ok_cs mt_145 (by decide +kernel : decode (mb_ 137) 33 = .ok (.invokestatic 92, 3)) tw_262 tw_263 tw_1 (by decide +kernel) (mh_ok rfl) (by decide) (by decide)
theorem ok_X11_act_36 : ok_S 137 36 (sf_if 1 41 39) := ok_if1 (by decide +kernel : decode (mb_ 137) 36 = .ok (.ifCond .ne 5, 3)) (by decide)
theorem ok_X11_act_39 : ok_S 137 39 (sf_push (0, 0) 40) := ok_iconst (by decide +kernel : decode (mb_ 137) 39 = .ok (.iconst 0, 1)) ⟨by decide, by decide⟩
theorem ok_X11_act_40 : ok_S 137 40 (sf_ret 0) := ok_ret0 (by decide +kernel : decode (mb_ 137) 40 = .ok (.ireturn, 1)) rfl
theorem ok_X11_act_41 : ok_S 137 41 (sf_ld 0 2 42) := ok_iload_n (by decide +kernel : decode (mb_ 137) 41 = .ok (.iload_n 2, 1)) rfl
theorem ok_X11_act_42 : ok_S 137 42 (sf_sw [(0, 68), (1, 83), (2, 98)] 113) := ok_tsw (by decide +kernel : decode (mb_ 137) 42 = .ok (.tableswitch 71 0 2 #[26, 41, 56], 26)) (by decide) (by decide) (by decide) (by decide)
theorem ok_X11_act_68 : ok_S 137 68 (sf_ld 2 4 70) := ok_aload (by decide +kernel : decode (mb_ 137) 68 = .ok (.aload 4, 2))
theorem ok_X11_act_70 : ok_S 137 70 (sf_ld 0 3 71) := ok_iload_n (by decide +kernel : decode (mb_ 137) 70 = .ok (.iload_n 3, 1)) rfl
theorem ok_X11_act_71 : ok_S 137 71 (sf_ld 2 0 72) := ok_aload_n (by decide +kernel : decode (mb_ 137) 71 = .ok (.aload_n 0, 1)) rfl
theorem ok_X11_act_72 : ok_S 137 72 (sf_gr 7 7 16 75) := ok_gr fd_7_16 (by decide +kernel : decode (mb_ 137) 72 = .ok (.getfield 82, 3)) tw_222 (Or.inl rfl) rfl
theorem ok_X11_act_75 : ok_S 137 75 (sf_cu [(1, 48), (2, 48), (3, 5), (4, 36), (5, 48), (6, 11)] [2, 0, 2] 78) := ok_cu (x := ⟨"RoomNumbers$Note", "reads", "(ILRoomNumbers$Trace;)I"⟩) (ow := "RoomNumbers$Note") ⟨tw_1003, tw_1006, tw_1004, ⟨_, _, _, tw_1023⟩, mh_ok rfl, (by decide +kernel)⟩ (List.forall_mem_cons.mpr ⟨⟨"RoomNumbers$Note", cl_1, mt_48, tw_1005, tw_1004, tw_14, by decide, by decide⟩, (List.forall_mem_cons.mpr ⟨⟨"RoomNumbers$Strokes", cl_2, mt_48, tw_1021, tw_1004, tw_14, by decide, by decide⟩, (List.forall_mem_cons.mpr ⟨⟨"RoomNumbers$Broken", cl_3, mt_5, tw_1007, tw_1008, tw_16, by decide, by decide⟩, (List.forall_mem_cons.mpr ⟨⟨"RoomNumbers$Left", cl_4, mt_36, tw_1017, tw_1018, tw_17, by decide, by decide⟩, (List.forall_mem_cons.mpr ⟨⟨"RoomNumbers$Turned", cl_5, mt_48, tw_1022, tw_1004, tw_14, by decide, by decide⟩, (List.forall_mem_cons.mpr ⟨⟨"RoomNumbers$Debt", cl_6, mt_11, tw_1011, tw_1012, tw_19, by decide, by decide⟩, (fun _ h => absurd h List.not_mem_nil)⟩)⟩)⟩)⟩)⟩)⟩) (by decide +kernel : decode (mb_ 137) 75 = .ok (.invokevirtual 289, 3)) rfl
theorem ok_X11_act_78 : ok_S 137 78 (sf_st 0 5 80) := ok_istore (by decide +kernel : decode (mb_ 137) 78 = .ok (.istore 5, 2))
theorem ok_X11_act_80 : ok_S 137 80 (sf_go 125) := ok_goto (by decide +kernel : decode (mb_ 137) 80 = .ok (.goto 45, 3)) (by decide)
theorem ok_X11_act_83 : ok_S 137 83 (sf_ld 2 4 85) := ok_aload (by decide +kernel : decode (mb_ 137) 83 = .ok (.aload 4, 2))
theorem ok_X11_act_85 : ok_S 137 85 (sf_ld 0 3 86) := ok_iload_n (by decide +kernel : decode (mb_ 137) 85 = .ok (.iload_n 3, 1)) rfl
theorem ok_X11_act_86 : ok_S 137 86 (sf_ld 2 0 87) := ok_aload_n (by decide +kernel : decode (mb_ 137) 86 = .ok (.aload_n 0, 1)) rfl
theorem ok_X11_act_87 : ok_S 137 87 (sf_gr 7 7 16 90) := ok_gr fd_7_16 (by decide +kernel : decode (mb_ 137) 87 = .ok (.getfield 82, 3)) tw_222 (Or.inl rfl) rfl
theorem ok_X11_act_90 : ok_S 137 90 (sf_cu [(1, 49), (2, 58), (3, 49), (4, 37), (5, 49), (6, 58)] [2, 0, 2] 93) := ok_cu (x := ⟨"RoomNumbers$Note", "writes", "(ILRoomNumbers$Trace;)I"⟩) (ow := "RoomNumbers$Note") ⟨tw_1024, tw_1027, tw_1025, ⟨_, _, _, tw_1042⟩, mh_ok rfl, (by decide +kernel)⟩ (List.forall_mem_cons.mpr ⟨⟨"RoomNumbers$Note", cl_1, mt_49, tw_1026, tw_1025, tw_14, by decide, by decide⟩, (List.forall_mem_cons.mpr ⟨⟨"RoomNumbers$Strokes", cl_2, mt_58, tw_1040, tw_1030, tw_15, by decide, by decide⟩, (List.forall_mem_cons.mpr ⟨⟨"RoomNumbers$Broken", cl_3, mt_49, tw_1028, tw_1025, tw_14, by decide, by decide⟩, (List.forall_mem_cons.mpr ⟨⟨"RoomNumbers$Left", cl_4, mt_37, tw_1033, tw_1034, tw_17, by decide, by decide⟩, (List.forall_mem_cons.mpr ⟨⟨"RoomNumbers$Turned", cl_5, mt_49, tw_1041, tw_1025, tw_14, by decide, by decide⟩, (List.forall_mem_cons.mpr ⟨⟨"RoomNumbers$Debt", cl_6, mt_58, tw_1029, tw_1030, tw_15, by decide, by decide⟩, (fun _ h => absurd h List.not_mem_nil)⟩)⟩)⟩)⟩)⟩)⟩) (by decide +kernel : decode (mb_ 137) 90 = .ok (.invokevirtual 293, 3)) rfl
theorem ok_X11_act_93 : ok_S 137 93 (sf_st 0 5 95) := ok_istore (by decide +kernel : decode (mb_ 137) 93 = .ok (.istore 5, 2))
theorem ok_X11_act_95 : ok_S 137 95 (sf_go 125) := ok_goto (by decide +kernel : decode (mb_ 137) 95 = .ok (.goto 30, 3)) (by decide)
theorem ok_X11_act_98 : ok_S 137 98 (sf_ld 2 4 100) := ok_aload (by decide +kernel : decode (mb_ 137) 98 = .ok (.aload 4, 2))
theorem ok_X11_act_100 : ok_S 137 100 (sf_ld 0 3 101) := ok_iload_n (by decide +kernel : decode (mb_ 137) 100 = .ok (.iload_n 3, 1)) rfl
theorem ok_X11_act_101 : ok_S 137 101 (sf_ld 2 0 102) := ok_aload_n (by decide +kernel : decode (mb_ 137) 101 = .ok (.aload_n 0, 1)) rfl
theorem ok_X11_act_102 : ok_S 137 102 (sf_gr 7 7 16 105) := ok_gr fd_7_16 (by decide +kernel : decode (mb_ 137) 102 = .ok (.getfield 82, 3)) tw_222 (Or.inl rfl) rfl
theorem ok_X11_act_105 : ok_S 137 105 (sf_cu [(1, 50), (2, 50), (3, 50), (4, 50), (5, 83), (6, 10)] [2, 0, 2] 108) := ok_cu (x := ⟨"RoomNumbers$Note", "shares", "(ILRoomNumbers$Trace;)I"⟩) (ow := "RoomNumbers$Note") ⟨tw_1044, tw_1047, tw_1045, ⟨_, _, _, tw_1064⟩, mh_ok rfl, (by decide +kernel)⟩ (List.forall_mem_cons.mpr ⟨⟨"RoomNumbers$Note", cl_1, mt_50, tw_1046, tw_1045, tw_14, by decide, by decide⟩, (List.forall_mem_cons.mpr ⟨⟨"RoomNumbers$Strokes", cl_2, mt_50, tw_1056, tw_1045, tw_14, by decide, by decide⟩, (List.forall_mem_cons.mpr ⟨⟨"RoomNumbers$Broken", cl_3, mt_50, tw_1048, tw_1045, tw_14, by decide, by decide⟩, (List.forall_mem_cons.mpr ⟨⟨"RoomNumbers$Left", cl_4, mt_50, tw_1055, tw_1045, tw_14, by decide, by decide⟩, (List.forall_mem_cons.mpr ⟨⟨"RoomNumbers$Turned", cl_5, mt_83, tw_1057, tw_1058, tw_18, by decide, by decide⟩, (List.forall_mem_cons.mpr ⟨⟨"RoomNumbers$Debt", cl_6, mt_10, tw_1049, tw_1050, tw_19, by decide, by decide⟩, (fun _ h => absurd h List.not_mem_nil)⟩)⟩)⟩)⟩)⟩)⟩) (by decide +kernel : decode (mb_ 137) 105 = .ok (.invokevirtual 296, 3)) rfl
theorem ok_X11_act_108 : ok_S 137 108 (sf_st 0 5 110) := ok_istore (by decide +kernel : decode (mb_ 137) 108 = .ok (.istore 5, 2))
theorem ok_X11_act_110 : ok_S 137 110 (sf_go 125) := ok_goto (by decide +kernel : decode (mb_ 137) 110 = .ok (.goto 15, 3)) (by decide)
theorem ok_X11_act_113 : ok_S 137 113 (sf_ld 2 4 115) := ok_aload (by decide +kernel : decode (mb_ 137) 113 = .ok (.aload 4, 2))
theorem ok_X11_act_115 : ok_S 137 115 (sf_ld 0 3 116) := ok_iload_n (by decide +kernel : decode (mb_ 137) 115 = .ok (.iload_n 3, 1)) rfl
theorem ok_X11_act_116 : ok_S 137 116 (sf_ld 2 0 117) := ok_aload_n (by decide +kernel : decode (mb_ 137) 116 = .ok (.aload_n 0, 1)) rfl
theorem ok_X11_act_117 : ok_S 137 117 (sf_gr 7 7 16 120) := ok_gr fd_7_16 (by decide +kernel : decode (mb_ 137) 117 = .ok (.getfield 82, 3)) tw_222 (Or.inl rfl) rfl
theorem ok_X11_act_120 : ok_S 137 120 (sf_cu [(1, 51), (2, 51), (3, 6), (4, 6), (5, 82), (6, 51)] [2, 0, 2] 123) := ok_cu (x := ⟨"RoomNumbers$Note", "tells", "(ILRoomNumbers$Trace;)I"⟩) (ow := "RoomNumbers$Note") ⟨tw_1069, tw_1072, tw_1070, ⟨_, _, _, tw_1088⟩, mh_ok rfl, (by decide +kernel)⟩ (List.forall_mem_cons.mpr ⟨⟨"RoomNumbers$Note", cl_1, mt_51, tw_1071, tw_1070, tw_14, by decide, by decide⟩, (List.forall_mem_cons.mpr ⟨⟨"RoomNumbers$Strokes", cl_2, mt_51, tw_1083, tw_1070, tw_14, by decide, by decide⟩, (List.forall_mem_cons.mpr ⟨⟨"RoomNumbers$Broken", cl_3, mt_6, tw_1073, tw_1074, tw_16, by decide, by decide⟩, (List.forall_mem_cons.mpr ⟨⟨"RoomNumbers$Left", cl_4, mt_6, tw_1082, tw_1074, tw_16, by decide, by decide⟩, (List.forall_mem_cons.mpr ⟨⟨"RoomNumbers$Turned", cl_5, mt_82, tw_1084, tw_1085, tw_18, by decide, by decide⟩, (List.forall_mem_cons.mpr ⟨⟨"RoomNumbers$Debt", cl_6, mt_51, tw_1081, tw_1070, tw_14, by decide, by decide⟩, (fun _ h => absurd h List.not_mem_nil)⟩)⟩)⟩)⟩)⟩)⟩) (by decide +kernel : decode (mb_ 137) 120 = .ok (.invokevirtual 299, 3)) rfl
theorem ok_X11_act_123 : ok_S 137 123 (sf_st 0 5 125) := ok_istore (by decide +kernel : decode (mb_ 137) 123 = .ok (.istore 5, 2))
theorem ok_X11_act_125 : ok_S 137 125 (sf_ld 2 0 126) := ok_aload_n (by decide +kernel : decode (mb_ 137) 125 = .ok (.aload_n 0, 1)) rfl
theorem ok_X11_act_126 : ok_S 137 126 (sf_gr 7 7 16 129) := ok_gr fd_7_16 (by decide +kernel : decode (mb_ 137) 126 = .ok (.getfield 82, 3)) tw_222 (Or.inl rfl) rfl
theorem ok_X11_act_129 : ok_S 137 129 (sf_cv 11 [2] 77 132) := ok_cv mt_77 cl_11 (by decide +kernel : decode (mb_ 137) 129 = .ok (.invokevirtual 302, 3)) tw_1090 tw_1091 tw_1092 tw_6 rfl (by decide +kernel) (mh_ok rfl) (by decide) (by decide)
theorem ok_X11_act_132 : ok_S 137 132 (sf_if 0 140 135) := ok_if0 (by decide +kernel : decode (mb_ 137) 132 = .ok (.ifCond .eq 8, 3)) (by decide)
theorem ok_X11_act_135 : ok_S 137 135 (sf_push (0, (-15)) 137) := ok_bipush (by decide +kernel : decode (mb_ 137) 135 = .ok (.bipush (-15), 2)) ⟨by decide, by decide⟩ (by decide +kernel)
theorem ok_X11_act_137 : ok_S 137 137 (sf_go 142) := ok_goto (by decide +kernel : decode (mb_ 137) 137 = .ok (.goto 5, 3)) (by decide)
theorem ok_X11_act_140 : ok_S 137 140 (sf_ld 0 5 142) := ok_iload (by decide +kernel : decode (mb_ 137) 140 = .ok (.iload 5, 2))
theorem ok_X11_act_142 : ok_S 137 142 (sf_ret 0) := ok_ret0 (by decide +kernel : decode (mb_ 137) 142 = .ok (.ireturn, 1)) rfl
theorem ok_X11_act (pc : Nat) : ok_S 137 pc (cd_X11_act pc) :=
  (ok_bf (ok_bf (ok_bf (ok_bf (ok_bf (ok_bf (ok_lf pc ok_X11_act_142) (ok_lf pc ok_X11_act_140)) (ok_bf (ok_lf pc ok_X11_act_137) (ok_lf pc ok_X11_act_135))) (ok_bf (ok_bf (ok_lf pc ok_X11_act_132) (ok_lf pc ok_X11_act_129)) (ok_bf (ok_lf pc ok_X11_act_126) (ok_lf pc ok_X11_act_125)))) (ok_bf (ok_bf (ok_bf (ok_lf pc ok_X11_act_123) (ok_lf pc ok_X11_act_120)) (ok_bf (ok_lf pc ok_X11_act_117) (ok_lf pc ok_X11_act_116))) (ok_bf (ok_bf (ok_lf pc ok_X11_act_115) (ok_lf pc ok_X11_act_113)) (ok_lf pc ok_X11_act_110)))) (ok_bf (ok_bf (ok_bf (ok_bf (ok_lf pc ok_X11_act_108) (ok_lf pc ok_X11_act_105)) (ok_bf (ok_lf pc ok_X11_act_102) (ok_lf pc ok_X11_act_101))) (ok_bf (ok_bf (ok_lf pc ok_X11_act_100) (ok_lf pc ok_X11_act_98)) (ok_lf pc ok_X11_act_95))) (ok_bf (ok_bf (ok_bf (ok_lf pc ok_X11_act_93) (ok_lf pc ok_X11_act_90)) (ok_bf (ok_lf pc ok_X11_act_87) (ok_lf pc ok_X11_act_86))) (ok_bf (ok_bf (ok_lf pc ok_X11_act_85) (ok_lf pc ok_X11_act_83)) (ok_lf pc ok_X11_act_80))))) (ok_bf (ok_bf (ok_bf (ok_bf (ok_bf (ok_lf pc ok_X11_act_78) (ok_lf pc ok_X11_act_75)) (ok_bf (ok_lf pc ok_X11_act_72) (ok_lf pc ok_X11_act_71))) (ok_bf (ok_bf (ok_lf pc ok_X11_act_70) (ok_lf pc ok_X11_act_68)) (ok_bf (ok_lf pc ok_X11_act_42) (ok_lf pc ok_X11_act_41)))) (ok_bf (ok_bf (ok_bf (ok_lf pc ok_X11_act_40) (ok_lf pc ok_X11_act_39)) (ok_bf (ok_lf pc ok_X11_act_36) (ok_lf pc ok_X11_act_33))) (ok_bf (ok_bf (ok_lf pc ok_X11_act_32) (ok_lf pc ok_X11_act_31)) (ok_lf pc ok_X11_act_30)))) (ok_bf (ok_bf (ok_bf (ok_bf (ok_lf pc ok_X11_act_27) (ok_lf pc ok_X11_act_25)) (ok_bf (ok_lf pc ok_X11_act_23) (ok_lf pc ok_X11_act_22))) (ok_bf (ok_bf (ok_lf pc ok_X11_act_19) (ok_lf pc ok_X11_act_16)) (ok_lf pc ok_X11_act_15))) (ok_bf (ok_bf (ok_bf (ok_lf pc ok_X11_act_14) (ok_lf pc ok_X11_act_11)) (ok_bf (ok_lf pc ok_X11_act_8) (ok_lf pc ok_X11_act_7))) (ok_bf (ok_bf (ok_lf pc ok_X11_act_4) (ok_lf pc ok_X11_act_1)) (ok_lf pc ok_X11_act_0))))))
theorem mo_X11_act (pc : Nat) : mo_S (cd_X11_act pc) :=
  (mo_bf (mo_bf (mo_bf (mo_bf (mo_bf (mo_bf (mo_bf mo_ret mo_no) (mo_bf mo_ld mo_no)) (mo_bf (mo_bf mo_go mo_no) (mo_bf mo_push mo_no))) (mo_bf (mo_bf (mo_bf mo_if mo_no) (mo_bf mo_cv mo_no)) (mo_bf (mo_bf mo_gr mo_no) (mo_bf mo_ld mo_no)))) (mo_bf (mo_bf (mo_bf (mo_bf mo_st mo_no) (mo_bf mo_cu mo_no)) (mo_bf (mo_bf mo_gr mo_no) (mo_bf mo_ld mo_no))) (mo_bf (mo_bf (mo_bf mo_ld mo_no) (mo_bf mo_ld mo_no)) (mo_bf mo_go mo_no)))) (mo_bf (mo_bf (mo_bf (mo_bf (mo_bf mo_st mo_no) (mo_bf mo_cu mo_no)) (mo_bf (mo_bf mo_gr mo_no) (mo_bf mo_ld mo_no))) (mo_bf (mo_bf (mo_bf mo_ld mo_no) (mo_bf mo_ld mo_no)) (mo_bf mo_go mo_no))) (mo_bf (mo_bf (mo_bf (mo_bf mo_st mo_no) (mo_bf mo_cu mo_no)) (mo_bf (mo_bf mo_gr mo_no) (mo_bf mo_ld mo_no))) (mo_bf (mo_bf (mo_bf mo_ld mo_no) (mo_bf mo_ld mo_no)) (mo_bf mo_go mo_no))))) (mo_bf (mo_bf (mo_bf (mo_bf (mo_bf (mo_bf mo_st mo_no) (mo_bf mo_cu mo_no)) (mo_bf (mo_bf mo_gr mo_no) (mo_bf mo_ld mo_no))) (mo_bf (mo_bf (mo_bf mo_ld mo_no) (mo_bf mo_ld mo_no)) (mo_bf (mo_bf mo_sw mo_no) (mo_bf mo_ld mo_no)))) (mo_bf (mo_bf (mo_bf (mo_bf mo_ret mo_no) (mo_bf mo_push mo_no)) (mo_bf (mo_bf mo_if mo_no) (mo_bf mo_cs mo_no))) (mo_bf (mo_bf (mo_bf mo_push mo_no) (mo_bf mo_push mo_no)) (mo_bf mo_ld mo_no)))) (mo_bf (mo_bf (mo_bf (mo_bf (mo_bf mo_nul mo_no) (mo_bf mo_ld mo_no)) (mo_bf (mo_bf mo_st mo_no) (mo_bf mo_push mo_no))) (mo_bf (mo_bf (mo_bf mo_go mo_no) (mo_bf mo_cv mo_no)) (mo_bf mo_ld mo_no))) (mo_bf (mo_bf (mo_bf (mo_bf mo_ld mo_no) (mo_bf mo_if mo_no)) (mo_bf (mo_bf mo_cs mo_no) (mo_bf mo_ld mo_no))) (mo_bf (mo_bf (mo_bf mo_cv mo_no) (mo_bf mo_gr mo_no)) (mo_bf mo_ld mo_no))))))
theorem ok_X11_trace_0 : ok_S 138 0 (sf_ld 0 1 1) := ok_iload_n (by decide +kernel : decode (mb_ 138) 0 = .ok (.iload_n 1, 1)) rfl
theorem ok_X11_trace_1 : ok_S 138 1 (sf_push (0, 0) 2) := ok_iconst (by decide +kernel : decode (mb_ 138) 1 = .ok (.iconst 0, 1)) ⟨by decide, by decide⟩
theorem ok_X11_trace_2 : ok_S 138 2 (sf_ld 2 0 3) := ok_aload_n (by decide +kernel : decode (mb_ 138) 2 = .ok (.aload_n 0, 1)) rfl
theorem ok_X11_trace_3 : ok_S 138 3 (sf_gr 7 7 16 6) := ok_gr fd_7_16 (by decide +kernel : decode (mb_ 138) 3 = .ok (.getfield 82, 3)) tw_222 (Or.inl rfl) rfl
theorem ok_X11_trace_6 : ok_S 138 6 (sf_cv 11 [2] 78 9) := ok_cv mt_78 cl_11 (by decide +kernel : decode (mb_ 138) 6 = .ok (.invokevirtual 305, 3)) tw_1098 tw_1099 tw_1100 tw_6 rfl (by decide +kernel) (mh_ok rfl) (by decide) (by decide)
theorem ok_X11_trace_9 : ok_S 138 9 (sf_push (0, 1) 10) := ok_iconst (by decide +kernel : decode (mb_ 138) 9 = .ok (.iconst 1, 1)) ⟨by decide, by decide⟩
theorem ok_X11_trace_10 : ok_S 138 10 (sf_i2 mx_sub 11) := ok_isub (by decide +kernel : decode (mb_ 138) 10 = .ok (.isub, 1))
theorem ok_X11_trace_11 : ok_S 138 11 (sf_cs [0, 0, 0] 145 14) := ok_cs mt_145 (by decide +kernel : decode (mb_ 138) 11 = .ok (.invokestatic 92, 3)) tw_262 tw_263 tw_1 (by decide +kernel) (mh_ok rfl) (by decide) (by decide)
theorem ok_X11_trace_14 : ok_S 138 14 (sf_if 0 29 17) := ok_if0 (by decide +kernel : decode (mb_ 138) 14 = .ok (.ifCond .eq 15, 3)) (by decide)
theorem ok_X11_trace_17 : ok_S 138 17 (sf_ld 2 0 18) := ok_aload_n (by decide +kernel : decode (mb_ 138) 17 = .ok (.aload_n 0, 1)) rfl
theorem ok_X11_trace_18 : ok_S 138 18 (sf_gr 7 7 16 21) := ok_gr fd_7_16 (by decide +kernel : decode (mb_ 138) 18 = .ok (.getfield 82, 3)) tw_222 (Or.inl rfl) rfl
theorem ok_X11_trace_21 : ok_S 138 21 (sf_gr 11 11 0 24) := ok_gr fd_11_0 (by decide +kernel : decode (mb_ 138) 21 = .ok (.getfield 306, 3)) tw_188 (Or.inl rfl) rfl
theorem ok_X11_trace_24 : ok_S 138 24 (sf_ld 0 1 25) := ok_iload_n (by decide +kernel : decode (mb_ 138) 24 = .ok (.iload_n 1, 1)) rfl
theorem ok_X11_trace_25 : ok_S 138 25 (sf_iald 26) := ok_iald (by decide +kernel : decode (mb_ 138) 25 = .ok (.iaload, 1))
theorem ok_X11_trace_26 : ok_S 138 26 (sf_go 31) := ok_goto (by decide +kernel : decode (mb_ 138) 26 = .ok (.goto 5, 3)) (by decide)
theorem ok_X11_trace_29 : ok_S 138 29 (sf_push (0, (-3)) 31) := ok_bipush (by decide +kernel : decode (mb_ 138) 29 = .ok (.bipush (-3), 2)) ⟨by decide, by decide⟩ (by decide +kernel)
theorem ok_X11_trace_31 : ok_S 138 31 (sf_ret 0) := ok_ret0 (by decide +kernel : decode (mb_ 138) 31 = .ok (.ireturn, 1)) rfl
theorem ok_X11_trace (pc : Nat) : ok_S 138 pc (cd_X11_trace pc) :=
  (ok_bf (ok_bf (ok_bf (ok_bf (ok_bf (ok_lf pc ok_X11_trace_31) (ok_lf pc ok_X11_trace_29)) (ok_lf pc ok_X11_trace_26)) (ok_bf (ok_lf pc ok_X11_trace_25) (ok_lf pc ok_X11_trace_24))) (ok_bf (ok_bf (ok_lf pc ok_X11_trace_21) (ok_lf pc ok_X11_trace_18)) (ok_bf (ok_lf pc ok_X11_trace_17) (ok_lf pc ok_X11_trace_14)))) (ok_bf (ok_bf (ok_bf (ok_lf pc ok_X11_trace_11) (ok_lf pc ok_X11_trace_10)) (ok_bf (ok_lf pc ok_X11_trace_9) (ok_lf pc ok_X11_trace_6))) (ok_bf (ok_bf (ok_lf pc ok_X11_trace_3) (ok_lf pc ok_X11_trace_2)) (ok_bf (ok_lf pc ok_X11_trace_1) (ok_lf pc ok_X11_trace_0)))))
theorem mo_X11_trace (pc : Nat) : mo_S (cd_X11_trace pc) :=
  (mo_bf (mo_bf (mo_bf (mo_bf (mo_bf (mo_bf mo_ret mo_no) (mo_bf mo_push mo_no)) (mo_bf mo_go mo_no)) (mo_bf (mo_bf mo_iald mo_no) (mo_bf mo_ld mo_no))) (mo_bf (mo_bf (mo_bf mo_gr mo_no) (mo_bf mo_gr mo_no)) (mo_bf (mo_bf mo_ld mo_no) (mo_bf mo_if mo_no)))) (mo_bf (mo_bf (mo_bf (mo_bf mo_cs mo_no) (mo_bf mo_i2 mo_no)) (mo_bf (mo_bf mo_push mo_no) (mo_bf mo_cv mo_no))) (mo_bf (mo_bf (mo_bf mo_gr mo_no) (mo_bf mo_ld mo_no)) (mo_bf (mo_bf mo_push mo_no) (mo_bf mo_ld mo_no)))))
theorem ok_X11_many_0 : ok_S 139 0 (sf_ld 0 1 1) := ok_iload_n (by decide +kernel : decode (mb_ 139) 0 = .ok (.iload_n 1, 1)) rfl
theorem ok_X11_many_1 : ok_S 139 1 (sf_sw [(0, 36), (1, 44), (2, 52), (3, 57), (4, 62)] 70) := ok_tsw (by decide +kernel : decode (mb_ 139) 1 = .ok (.tableswitch 69 0 4 #[35, 43, 51, 56, 61], 35)) (by decide) (by decide) (by decide) (by decide)
theorem ok_X11_many_36 : ok_S 139 36 (sf_ld 2 0 37) := ok_aload_n (by decide +kernel : decode (mb_ 139) 36 = .ok (.aload_n 0, 1)) rfl
theorem ok_X11_many_37 : ok_S 139 37 (sf_gr 7 7 3 40) := ok_gr fd_7_3 (by decide +kernel : decode (mb_ 139) 37 = .ok (.getfield 28, 3)) tw_209 (Or.inl rfl) rfl
theorem ok_X11_many_40 : ok_S 139 40 (sf_gi 8 8 3 43) := ok_gi fd_8_3 (by decide +kernel : decode (mb_ 139) 40 = .ok (.getfield 110, 3)) tw_55 (Or.inl rfl) rfl
theorem ok_X11_many_43 : ok_S 139 43 (sf_ret 0) := ok_ret0 (by decide +kernel : decode (mb_ 139) 43 = .ok (.ireturn, 1)) rfl
theorem ok_X11_many_44 : ok_S 139 44 (sf_ld 2 0 45) := ok_aload_n (by decide +kernel : decode (mb_ 139) 44 = .ok (.aload_n 0, 1)) rfl
theorem ok_X11_many_45 : ok_S 139 45 (sf_gr 7 7 3 48) := ok_gr fd_7_3 (by decide +kernel : decode (mb_ 139) 45 = .ok (.getfield 28, 3)) tw_209 (Or.inl rfl) rfl
theorem ok_X11_many_48 : ok_S 139 48 (sf_gi 8 8 4 51) := ok_gi fd_8_4 (by decide +kernel : decode (mb_ 139) 48 = .ok (.getfield 171, 3)) tw_61 (Or.inl rfl) rfl
theorem ok_X11_many_51 : ok_S 139 51 (sf_ret 0) := ok_ret0 (by decide +kernel : decode (mb_ 139) 51 = .ok (.ireturn, 1)) rfl
theorem ok_X11_many_52 : ok_S 139 52 (sf_ld 2 0 53) := ok_aload_n (by decide +kernel : decode (mb_ 139) 52 = .ok (.aload_n 0, 1)) rfl
theorem ok_X11_many_53 : ok_S 139 53 (sf_gi 7 7 10 56) := ok_gi fd_7_10 (by decide +kernel : decode (mb_ 139) 53 = .ok (.getfield 58, 3)) tw_216 (Or.inl rfl) rfl
theorem ok_X11_many_56 : ok_S 139 56 (sf_ret 0) := ok_ret0 (by decide +kernel : decode (mb_ 139) 56 = .ok (.ireturn, 1)) rfl
theorem ok_X11_many_57 : ok_S 139 57 (sf_ld 2 0 58) := ok_aload_n (by decide +kernel : decode (mb_ 139) 57 = .ok (.aload_n 0, 1)) rfl
theorem ok_X11_many_58 : ok_S 139 58 (sf_gi 7 7 1 61) := ok_gi fd_7_1 (by decide +kernel : decode (mb_ 139) 58 = .ok (.getfield 13, 3)) tw_207 (Or.inl rfl) rfl
theorem ok_X11_many_61 : ok_S 139 61 (sf_ret 0) := ok_ret0 (by decide +kernel : decode (mb_ 139) 61 = .ok (.ireturn, 1)) rfl
theorem ok_X11_many_62 : ok_S 139 62 (sf_ld 2 0 63) := ok_aload_n (by decide +kernel : decode (mb_ 139) 62 = .ok (.aload_n 0, 1)) rfl
theorem ok_X11_many_63 : ok_S 139 63 (sf_gr 7 7 16 66) := ok_gr fd_7_16 (by decide +kernel : decode (mb_ 139) 63 = .ok (.getfield 82, 3)) tw_222 (Or.inl rfl) rfl
theorem ok_X11_many_66 : ok_S 139 66 (sf_cv 11 [2] 78 69) := ok_cv mt_78 cl_11 (by decide +kernel : decode (mb_ 139) 66 = .ok (.invokevirtual 305, 3)) tw_1098 tw_1099 tw_1100 tw_6 rfl (by decide +kernel) (mh_ok rfl) (by decide) (by decide)
theorem ok_X11_many_69 : ok_S 139 69 (sf_ret 0) := ok_ret0 (by decide +kernel : decode (mb_ 139) 69 = .ok (.ireturn, 1)) rfl
theorem ok_X11_many_70 : ok_S 139 70 (sf_push (0, (-1)) 71) := ok_iconst (by decide +kernel : decode (mb_ 139) 70 = .ok (.iconst (-1), 1)) ⟨by decide, by decide⟩
theorem ok_X11_many_71 : ok_S 139 71 (sf_ret 0) := ok_ret0 (by decide +kernel : decode (mb_ 139) 71 = .ok (.ireturn, 1)) rfl
theorem ok_X11_many (pc : Nat) : ok_S 139 pc (cd_X11_many pc) :=
  (ok_bf (ok_bf (ok_bf (ok_bf (ok_bf (ok_lf pc ok_X11_many_71) (ok_lf pc ok_X11_many_70)) (ok_lf pc ok_X11_many_69)) (ok_bf (ok_bf (ok_lf pc ok_X11_many_66) (ok_lf pc ok_X11_many_63)) (ok_lf pc ok_X11_many_62))) (ok_bf (ok_bf (ok_bf (ok_lf pc ok_X11_many_61) (ok_lf pc ok_X11_many_58)) (ok_lf pc ok_X11_many_57)) (ok_bf (ok_lf pc ok_X11_many_56) (ok_lf pc ok_X11_many_53)))) (ok_bf (ok_bf (ok_bf (ok_bf (ok_lf pc ok_X11_many_52) (ok_lf pc ok_X11_many_51)) (ok_lf pc ok_X11_many_48)) (ok_bf (ok_bf (ok_lf pc ok_X11_many_45) (ok_lf pc ok_X11_many_44)) (ok_lf pc ok_X11_many_43))) (ok_bf (ok_bf (ok_bf (ok_lf pc ok_X11_many_40) (ok_lf pc ok_X11_many_37)) (ok_lf pc ok_X11_many_36)) (ok_bf (ok_lf pc ok_X11_many_1) (ok_lf pc ok_X11_many_0)))))
theorem mo_X11_many (pc : Nat) : mo_S (cd_X11_many pc) :=
  (mo_bf (mo_bf (mo_bf (mo_bf (mo_bf (mo_bf mo_ret mo_no) (mo_bf mo_push mo_no)) (mo_bf mo_ret mo_no)) (mo_bf (mo_bf (mo_bf mo_cv mo_no) (mo_bf mo_gr mo_no)) (mo_bf mo_ld mo_no))) (mo_bf (mo_bf (mo_bf (mo_bf mo_ret mo_no) (mo_bf mo_gi mo_no)) (mo_bf mo_ld mo_no)) (mo_bf (mo_bf mo_ret mo_no) (mo_bf mo_gi mo_no)))) (mo_bf (mo_bf (mo_bf (mo_bf (mo_bf mo_ld mo_no) (mo_bf mo_ret mo_no)) (mo_bf mo_gi mo_no)) (mo_bf (mo_bf (mo_bf mo_gr mo_no) (mo_bf mo_ld mo_no)) (mo_bf mo_ret mo_no))) (mo_bf (mo_bf (mo_bf (mo_bf mo_gi mo_no) (mo_bf mo_gr mo_no)) (mo_bf mo_ld mo_no)) (mo_bf (mo_bf mo_sw mo_no) (mo_bf mo_ld mo_no)))))
theorem ok_X11_keep_0 : ok_S 140 0 (sf_ld 2 0 1) := ok_aload_n (by decide +kernel : decode (mb_ 140) 0 = .ok (.aload_n 0, 1)) rfl
theorem ok_X11_keep_1 : ok_S 140 1 (sf_gr 7 7 4 4) := ok_gr fd_7_4 (by decide +kernel : decode (mb_ 140) 1 = .ok (.getfield 34, 3)) tw_210 (Or.inl rfl) rfl
theorem ok_X11_keep_4 : ok_S 140 4 (sf_ld 2 0 5) := ok_aload_n (by decide +kernel : decode (mb_ 140) 4 = .ok (.aload_n 0, 1)) rfl
theorem ok_X11_keep_5 : ok_S 140 5 (sf_gr 7 7 3 8) := ok_gr fd_7_3 (by decide +kernel : decode (mb_ 140) 5 = .ok (.getfield 28, 3)) tw_209 (Or.inl rfl) rfl
theorem ok_X11_keep_8 : ok_S 140 8 (sf_cv 8 [2, 2] 86 11) := ok_cv mt_86 cl_8 (by decide +kernel : decode (mb_ 140) 8 = .ok (.invokevirtual 106, 3)) tw_507 tw_508 tw_509 tw_3 rfl (by decide +kernel) (mh_ok rfl) (by decide) (by decide)
theorem ok_X11_keep_11 : ok_S 140 11 (sf_ld 2 0 12) := ok_aload_n (by decide +kernel : decode (mb_ 140) 11 = .ok (.aload_n 0, 1)) rfl
theorem ok_X11_keep_12 : ok_S 140 12 (sf_ld 2 0 13) := ok_aload_n (by decide +kernel : decode (mb_ 140) 12 = .ok (.aload_n 0, 1)) rfl
theorem ok_X11_keep_13 : ok_S 140 13 (sf_gi 7 7 6 16) := ok_gi fd_7_6 (by decide +kernel : decode (mb_ 140) 13 = .ok (.getfield 41, 3)) tw_212 (Or.inl rfl) rfl
theorem ok_X11_keep_16 : ok_S 140 16 (sf_pi 7 7 7 19) := ok_pi fd_7_7 (by decide +kernel : decode (mb_ 140) 16 = .ok (.putfield 44, 3)) tw_213 rfl (Or.inl ff_7_7) rfl
theorem ok_X11_keep_19 : ok_S 140 19 (sf_ld 2 0 20) := ok_aload_n (by decide +kernel : decode (mb_ 140) 19 = .ok (.aload_n 0, 1)) rfl
theorem ok_X11_keep_20 : ok_S 140 20 (sf_push (0, 1) 21) := ok_iconst (by decide +kernel : decode (mb_ 140) 20 = .ok (.iconst 1, 1)) ⟨by decide, by decide⟩
theorem ok_X11_keep_21 : ok_S 140 21 (sf_pz 7 7 5 24) := ok_pz fd_7_5 (by decide +kernel : decode (mb_ 140) 21 = .ok (.putfield 37, 3)) tw_211 rfl (Or.inl ff_7_5) rfl
theorem ok_X11_keep_24 : ok_S 140 24 (sf_push (0, 1) 25) := ok_iconst (by decide +kernel : decode (mb_ 140) 24 = .ok (.iconst 1, 1)) ⟨by decide, by decide⟩
theorem ok_X11_keep_25 : ok_S 140 25 (sf_ret 0) := ok_ret0 (by decide +kernel : decode (mb_ 140) 25 = .ok (.ireturn, 1)) rfl
theorem ok_X11_keep (pc : Nat) : ok_S 140 pc (cd_X11_keep pc) :=
  (ok_bf (ok_bf (ok_bf (ok_bf (ok_lf pc ok_X11_keep_25) (ok_lf pc ok_X11_keep_24)) (ok_bf (ok_lf pc ok_X11_keep_21) (ok_lf pc ok_X11_keep_20))) (ok_bf (ok_bf (ok_lf pc ok_X11_keep_19) (ok_lf pc ok_X11_keep_16)) (ok_lf pc ok_X11_keep_13))) (ok_bf (ok_bf (ok_bf (ok_lf pc ok_X11_keep_12) (ok_lf pc ok_X11_keep_11)) (ok_bf (ok_lf pc ok_X11_keep_8) (ok_lf pc ok_X11_keep_5))) (ok_bf (ok_bf (ok_lf pc ok_X11_keep_4) (ok_lf pc ok_X11_keep_1)) (ok_lf pc ok_X11_keep_0))))
theorem mo_X11_keep (pc : Nat) : mo_S (cd_X11_keep pc) :=
  (mo_bf (mo_bf (mo_bf (mo_bf (mo_bf mo_ret mo_no) (mo_bf mo_push mo_no)) (mo_bf (mo_bf mo_pz mo_no) (mo_bf mo_push mo_no))) (mo_bf (mo_bf (mo_bf mo_ld mo_no) (mo_bf mo_pi mo_no)) (mo_bf mo_gi mo_no))) (mo_bf (mo_bf (mo_bf (mo_bf mo_ld mo_no) (mo_bf mo_ld mo_no)) (mo_bf (mo_bf mo_cv mo_no) (mo_bf mo_gr mo_no))) (mo_bf (mo_bf (mo_bf mo_ld mo_no) (mo_bf mo_gr mo_no)) (mo_bf mo_ld mo_no))))
theorem ok_X11_again_0 : ok_S 141 0 (sf_ld 2 0 1) := ok_aload_n (by decide +kernel : decode (mb_ 141) 0 = .ok (.aload_n 0, 1)) rfl
theorem ok_X11_again_1 : ok_S 141 1 (sf_gi 7 7 5 4) := ok_gi fd_7_5 (by decide +kernel : decode (mb_ 141) 1 = .ok (.getfield 37, 3)) tw_211 (Or.inl rfl) rfl
theorem ok_X11_again_4 : ok_S 141 4 (sf_if 1 10 7) := ok_if1 (by decide +kernel : decode (mb_ 141) 4 = .ok (.ifCond .ne 6, 3)) (by decide)
theorem ok_X11_again_7 : ok_S 141 7 (sf_push (0, (-3)) 9) := ok_bipush (by decide +kernel : decode (mb_ 141) 7 = .ok (.bipush (-3), 2)) ⟨by decide, by decide⟩ (by decide +kernel)
theorem ok_X11_again_9 : ok_S 141 9 (sf_ret 0) := ok_ret0 (by decide +kernel : decode (mb_ 141) 9 = .ok (.ireturn, 1)) rfl
theorem ok_X11_again_10 : ok_S 141 10 (sf_ld 2 0 11) := ok_aload_n (by decide +kernel : decode (mb_ 141) 10 = .ok (.aload_n 0, 1)) rfl
theorem ok_X11_again_11 : ok_S 141 11 (sf_gr 7 7 3 14) := ok_gr fd_7_3 (by decide +kernel : decode (mb_ 141) 11 = .ok (.getfield 28, 3)) tw_209 (Or.inl rfl) rfl
theorem ok_X11_again_14 : ok_S 141 14 (sf_ld 2 0 15) := ok_aload_n (by decide +kernel : decode (mb_ 141) 14 = .ok (.aload_n 0, 1)) rfl
theorem ok_X11_again_15 : ok_S 141 15 (sf_gr 7 7 4 18) := ok_gr fd_7_4 (by decide +kernel : decode (mb_ 141) 15 = .ok (.getfield 34, 3)) tw_210 (Or.inl rfl) rfl
theorem ok_X11_again_18 : ok_S 141 18 (sf_cv 8 [2, 2] 86 21) := ok_cv mt_86 cl_8 (by decide +kernel : decode (mb_ 141) 18 = .ok (.invokevirtual 106, 3)) tw_507 tw_508 tw_509 tw_3 rfl (by decide +kernel) (mh_ok rfl) (by decide) (by decide)
theorem ok_X11_again_21 : ok_S 141 21 (sf_ld 2 0 22) := ok_aload_n (by decide +kernel : decode (mb_ 141) 21 = .ok (.aload_n 0, 1)) rfl
theorem ok_X11_again_22 : ok_S 141 22 (sf_ld 2 0 23) := ok_aload_n (by decide +kernel : decode (mb_ 141) 22 = .ok (.aload_n 0, 1)) rfl
theorem ok_X11_again_23 : ok_S 141 23 (sf_gi 7 7 7 26) := ok_gi fd_7_7 (by decide +kernel : decode (mb_ 141) 23 = .ok (.getfield 44, 3)) tw_213 (Or.inl rfl) rfl
theorem ok_X11_again_26 : ok_S 141 26 (sf_pi 7 7 6 29) := ok_pi fd_7_6 (by decide +kernel : decode (mb_ 141) 26 = .ok (.putfield 41, 3)) tw_212 rfl (Or.inl ff_7_6) rfl
theorem ok_X11_again_29 : ok_S 141 29 (sf_ld 2 0 30) := ok_aload_n (by decide +kernel : decode (mb_ 141) 29 = .ok (.aload_n 0, 1)) rfl
theorem ok_X11_again_30 : ok_S 141 30 (sf_gr 7 7 3 33) := ok_gr fd_7_3 (by decide +kernel : decode (mb_ 141) 30 = .ok (.getfield 28, 3)) tw_209 (Or.inl rfl) rfl
theorem ok_X11_again_33 : ok_S 141 33 (sf_gi 8 8 3 36) := ok_gi fd_8_3 (by decide +kernel : decode (mb_ 141) 33 = .ok (.getfield 110, 3)) tw_55 (Or.inl rfl) rfl
theorem ok_X11_again_36 : ok_S 141 36 (sf_ret 0) := ok_ret0 (by decide +kernel : decode (mb_ 141) 36 = .ok (.ireturn, 1)) rfl
theorem ok_X11_again (pc : Nat) : ok_S 141 pc (cd_X11_again pc) :=
  (ok_bf (ok_bf (ok_bf (ok_bf (ok_bf (ok_lf pc ok_X11_again_36) (ok_lf pc ok_X11_again_33)) (ok_lf pc ok_X11_again_30)) (ok_bf (ok_lf pc ok_X11_again_29) (ok_lf pc ok_X11_again_26))) (ok_bf (ok_bf (ok_lf pc ok_X11_again_23) (ok_lf pc ok_X11_again_22)) (ok_bf (ok_lf pc ok_X11_again_21) (ok_lf pc ok_X11_again_18)))) (ok_bf (ok_bf (ok_bf (ok_bf (ok_lf pc ok_X11_again_15) (ok_lf pc ok_X11_again_14)) (ok_lf pc ok_X11_again_11)) (ok_bf (ok_lf pc ok_X11_again_10) (ok_lf pc ok_X11_again_9))) (ok_bf (ok_bf (ok_lf pc ok_X11_again_7) (ok_lf pc ok_X11_again_4)) (ok_bf (ok_lf pc ok_X11_again_1) (ok_lf pc ok_X11_again_0)))))
theorem mo_X11_again (pc : Nat) : mo_S (cd_X11_again pc) :=
  (mo_bf (mo_bf (mo_bf (mo_bf (mo_bf (mo_bf mo_ret mo_no) (mo_bf mo_gi mo_no)) (mo_bf mo_gr mo_no)) (mo_bf (mo_bf mo_ld mo_no) (mo_bf mo_pi mo_no))) (mo_bf (mo_bf (mo_bf mo_gi mo_no) (mo_bf mo_ld mo_no)) (mo_bf (mo_bf mo_ld mo_no) (mo_bf mo_cv mo_no)))) (mo_bf (mo_bf (mo_bf (mo_bf (mo_bf mo_gr mo_no) (mo_bf mo_ld mo_no)) (mo_bf mo_gr mo_no)) (mo_bf (mo_bf mo_ld mo_no) (mo_bf mo_ret mo_no))) (mo_bf (mo_bf (mo_bf mo_push mo_no) (mo_bf mo_if mo_no)) (mo_bf (mo_bf mo_gi mo_no) (mo_bf mo_ld mo_no)))))
theorem ok_X11_hasRow_0 : ok_S 142 0 (sf_ld 0 1 1) := ok_iload_n (by decide +kernel : decode (mb_ 142) 0 = .ok (.iload_n 1, 1)) rfl
theorem ok_X11_hasRow_1 : ok_S 142 1 (sf_push (0, 0) 2) := ok_iconst (by decide +kernel : decode (mb_ 142) 1 = .ok (.iconst 0, 1)) ⟨by decide, by decide⟩
theorem ok_X11_hasRow_2 : ok_S 142 2 (sf_ld 2 0 3) := ok_aload_n (by decide +kernel : decode (mb_ 142) 2 = .ok (.aload_n 0, 1)) rfl
theorem ok_X11_hasRow_3 : ok_S 142 3 (sf_gi 7 7 10 6) := ok_gi fd_7_10 (by decide +kernel : decode (mb_ 142) 3 = .ok (.getfield 58, 3)) tw_216 (Or.inl rfl) rfl
theorem ok_X11_hasRow_6 : ok_S 142 6 (sf_push (0, 1) 7) := ok_iconst (by decide +kernel : decode (mb_ 142) 6 = .ok (.iconst 1, 1)) ⟨by decide, by decide⟩
theorem ok_X11_hasRow_7 : ok_S 142 7 (sf_i2 mx_sub 8) := ok_isub (by decide +kernel : decode (mb_ 142) 7 = .ok (.isub, 1))
theorem ok_X11_hasRow_8 : ok_S 142 8 (sf_cs [0, 0, 0] 145 11) := ok_cs mt_145 (by decide +kernel : decode (mb_ 142) 8 = .ok (.invokestatic 92, 3)) tw_262 tw_263 tw_1 (by decide +kernel) (mh_ok rfl) (by decide) (by decide)
theorem ok_X11_hasRow_11 : ok_S 142 11 (sf_if 0 27 14) := ok_if0 (by decide +kernel : decode (mb_ 142) 11 = .ok (.ifCond .eq 16, 3)) (by decide)
theorem ok_X11_hasRow_14 : ok_S 142 14 (sf_ld 0 2 15) := ok_iload_n (by decide +kernel : decode (mb_ 142) 14 = .ok (.iload_n 2, 1)) rfl
theorem ok_X11_hasRow_15 : ok_S 142 15 (sf_push (0, 0) 16) := ok_iconst (by decide +kernel : decode (mb_ 142) 15 = .ok (.iconst 0, 1)) ⟨by decide, by decide⟩
theorem ok_X11_hasRow_16 : ok_S 142 16 (sf_push (0, 2) 17) := ok_iconst (by decide +kernel : decode (mb_ 142) 16 = .ok (.iconst 2, 1)) ⟨by decide, by decide⟩
theorem ok_X11_hasRow_17 : ok_S 142 17 (sf_cs [0, 0, 0] 145 20) := ok_cs mt_145 (by decide +kernel : decode (mb_ 142) 17 = .ok (.invokestatic 92, 3)) tw_262 tw_263 tw_1 (by decide +kernel) (mh_ok rfl) (by decide) (by decide)
theorem ok_X11_hasRow_20 : ok_S 142 20 (sf_if 0 27 23) := ok_if0 (by decide +kernel : decode (mb_ 142) 20 = .ok (.ifCond .eq 7, 3)) (by decide)
theorem ok_X11_hasRow_23 : ok_S 142 23 (sf_push (0, 1) 24) := ok_iconst (by decide +kernel : decode (mb_ 142) 23 = .ok (.iconst 1, 1)) ⟨by decide, by decide⟩
theorem ok_X11_hasRow_24 : ok_S 142 24 (sf_go 28) := ok_goto (by decide +kernel : decode (mb_ 142) 24 = .ok (.goto 4, 3)) (by decide)
theorem ok_X11_hasRow_27 : ok_S 142 27 (sf_push (0, 0) 28) := ok_iconst (by decide +kernel : decode (mb_ 142) 27 = .ok (.iconst 0, 1)) ⟨by decide, by decide⟩
theorem ok_X11_hasRow_28 : ok_S 142 28 (sf_rr 0 1) := ok_rr (by decide +kernel : decode (mb_ 142) 28 = .ok (.ireturn, 1)) rfl (so_nz .boolean rfl rfl)
theorem ok_X11_hasRow (pc : Nat) : ok_S 142 pc (cd_X11_hasRow pc) :=
  (ok_bf (ok_bf (ok_bf (ok_bf (ok_bf (ok_lf pc ok_X11_hasRow_28) (ok_lf pc ok_X11_hasRow_27)) (ok_lf pc ok_X11_hasRow_24)) (ok_bf (ok_lf pc ok_X11_hasRow_23) (ok_lf pc ok_X11_hasRow_20))) (ok_bf (ok_bf (ok_lf pc ok_X11_hasRow_17) (ok_lf pc ok_X11_hasRow_16)) (ok_bf (ok_lf pc ok_X11_hasRow_15) (ok_lf pc ok_X11_hasRow_14)))) (ok_bf (ok_bf (ok_bf (ok_lf pc ok_X11_hasRow_11) (ok_lf pc ok_X11_hasRow_8)) (ok_bf (ok_lf pc ok_X11_hasRow_7) (ok_lf pc ok_X11_hasRow_6))) (ok_bf (ok_bf (ok_lf pc ok_X11_hasRow_3) (ok_lf pc ok_X11_hasRow_2)) (ok_bf (ok_lf pc ok_X11_hasRow_1) (ok_lf pc ok_X11_hasRow_0)))))
theorem mo_X11_hasRow (pc : Nat) : mo_S (cd_X11_hasRow pc) :=
  (mo_bf (mo_bf (mo_bf (mo_bf (mo_bf (mo_bf mo_rr mo_no) (mo_bf mo_push mo_no)) (mo_bf mo_go mo_no)) (mo_bf (mo_bf mo_push mo_no) (mo_bf mo_if mo_no))) (mo_bf (mo_bf (mo_bf mo_cs mo_no) (mo_bf mo_push mo_no)) (mo_bf (mo_bf mo_push mo_no) (mo_bf mo_ld mo_no)))) (mo_bf (mo_bf (mo_bf (mo_bf mo_if mo_no) (mo_bf mo_cs mo_no)) (mo_bf (mo_bf mo_i2 mo_no) (mo_bf mo_push mo_no))) (mo_bf (mo_bf (mo_bf mo_gi mo_no) (mo_bf mo_ld mo_no)) (mo_bf (mo_bf mo_push mo_no) (mo_bf mo_ld mo_no)))))
theorem ok_X11_isRightRow_0 : ok_S 143 0 (sf_ld 2 0 1) := ok_aload_n (by decide +kernel : decode (mb_ 143) 0 = .ok (.aload_n 0, 1)) rfl
theorem ok_X11_isRightRow_1 : ok_S 143 1 (sf_gr 7 7 3 4) := ok_gr fd_7_3 (by decide +kernel : decode (mb_ 143) 1 = .ok (.getfield 28, 3)) tw_209 (Or.inl rfl) rfl
theorem ok_X11_isRightRow_4 : ok_S 143 4 (sf_ld 0 1 5) := ok_iload_n (by decide +kernel : decode (mb_ 143) 4 = .ok (.iload_n 1, 1)) rfl
theorem ok_X11_isRightRow_5 : ok_S 143 5 (sf_cv 8 [2, 0] 90 8) := ok_cv mt_90 cl_8 (by decide +kernel : decode (mb_ 143) 5 = .ok (.invokevirtual 138, 3)) tw_573 tw_514 tw_515 tw_3 rfl (by decide +kernel) (mh_ok rfl) (by decide) (by decide)
theorem ok_X11_isRightRow_8 : ok_S 143 8 (sf_st 2 2 9) := ok_astore_n (by decide +kernel : decode (mb_ 143) 8 = .ok (.astore_n 2, 1)) rfl
theorem ok_X11_isRightRow_9 : ok_S 143 9 (sf_ld 2 2 10) := ok_aload_n (by decide +kernel : decode (mb_ 143) 9 = .ok (.aload_n 2, 1)) rfl
theorem ok_X11_isRightRow_10 : ok_S 143 10 (sf_nul 27 13) := ok_nul (by decide +kernel : decode (mb_ 143) 10 = .ok (.ifnull 17, 3)) (by decide)
theorem ok_X11_isRightRow_13 : ok_S 143 13 (sf_ld 2 0 14) := ok_aload_n (by decide +kernel : decode (mb_ 143) 13 = .ok (.aload_n 0, 1)) rfl
theorem ok_X11_isRightRow_14 : ok_S 143 14 (sf_gr 7 7 9 17) := ok_gr fd_7_9 (by decide +kernel : decode (mb_ 143) 14 = .ok (.getfield 54, 3)) tw_215 (Or.inl rfl) rfl
theorem ok_X11_isRightRow_17 : ok_S 143 17 (sf_ld 0 1 18) := ok_iload_n (by decide +kernel : decode (mb_ 143) 17 = .ok (.iload_n 1, 1)) rfl
theorem ok_X11_isRightRow_18 : ok_S 143 18 (sf_push (0, 3) 19) := ok_iconst (by decide +kernel : decode (mb_ 143) 18 = .ok (.iconst 3, 1)) ⟨by decide, by decide⟩
theorem ok_X11_isRightRow_19 : ok_S 143 19 (sf_i2 mx_mul 20) := ok_imul (by decide +kernel : decode (mb_ 143) 19 = .ok (.imul, 1))
theorem ok_X11_isRightRow_20 : ok_S 143 20 (sf_lald 21) := ok_lald (by decide +kernel : decode (mb_ 143) 20 = .ok (.laload, 1))
theorem ok_X11_isRightRow_21 : ok_S 143 21 (sf_ld 0 1 22) := ok_iload_n (by decide +kernel : decode (mb_ 143) 21 = .ok (.iload_n 1, 1)) rfl
theorem ok_X11_isRightRow_22 : ok_S 143 22 (sf_i2l 23) := ok_i2l (by decide +kernel : decode (mb_ 143) 22 = .ok (.i2l, 1))
theorem ok_X11_isRightRow_23 : ok_S 143 23 (sf_lcmp 24) := ok_lcmp (by decide +kernel : decode (mb_ 143) 23 = .ok (.lcmp, 1))
theorem ok_X11_isRightRow_24 : ok_S 143 24 (sf_if 0 29 27) := ok_if0 (by decide +kernel : decode (mb_ 143) 24 = .ok (.ifCond .eq 5, 3)) (by decide)
theorem ok_X11_isRightRow_27 : ok_S 143 27 (sf_push (0, 0) 28) := ok_iconst (by decide +kernel : decode (mb_ 143) 27 = .ok (.iconst 0, 1)) ⟨by decide, by decide⟩
theorem ok_X11_isRightRow_28 : ok_S 143 28 (sf_rr 0 1) := ok_rr (by decide +kernel : decode (mb_ 143) 28 = .ok (.ireturn, 1)) rfl (so_nz .boolean rfl rfl)
theorem ok_X11_isRightRow_29 : ok_S 143 29 (sf_ld 2 0 30) := ok_aload_n (by decide +kernel : decode (mb_ 143) 29 = .ok (.aload_n 0, 1)) rfl
theorem ok_X11_isRightRow_30 : ok_S 143 30 (sf_gr 7 7 9 33) := ok_gr fd_7_9 (by decide +kernel : decode (mb_ 143) 30 = .ok (.getfield 54, 3)) tw_215 (Or.inl rfl) rfl
theorem ok_X11_isRightRow_33 : ok_S 143 33 (sf_ld 0 1 34) := ok_iload_n (by decide +kernel : decode (mb_ 143) 33 = .ok (.iload_n 1, 1)) rfl
theorem ok_X11_isRightRow_34 : ok_S 143 34 (sf_push (0, 3) 35) := ok_iconst (by decide +kernel : decode (mb_ 143) 34 = .ok (.iconst 3, 1)) ⟨by decide, by decide⟩
theorem ok_X11_isRightRow_35 : ok_S 143 35 (sf_i2 mx_mul 36) := ok_imul (by decide +kernel : decode (mb_ 143) 35 = .ok (.imul, 1))
theorem ok_X11_isRightRow_36 : ok_S 143 36 (sf_push (0, 1) 37) := ok_iconst (by decide +kernel : decode (mb_ 143) 36 = .ok (.iconst 1, 1)) ⟨by decide, by decide⟩
theorem ok_X11_isRightRow_37 : ok_S 143 37 (sf_i2 mx_add 38) := ok_iadd (by decide +kernel : decode (mb_ 143) 37 = .ok (.iadd, 1))
theorem ok_X11_isRightRow_38 : ok_S 143 38 (sf_lald 39) := ok_lald (by decide +kernel : decode (mb_ 143) 38 = .ok (.laload, 1))
theorem ok_X11_isRightRow_39 : ok_S 143 39 (sf_st2 3 40) := ok_lstore_n (by decide +kernel : decode (mb_ 143) 39 = .ok (.lstore_n 3, 1)) rfl
theorem ok_X11_isRightRow_40 : ok_S 143 40 (sf_ld 1 3 41) := ok_lload_n (by decide +kernel : decode (mb_ 143) 40 = .ok (.lload_n 3, 1)) rfl
theorem ok_X11_isRightRow_41 : ok_S 143 41 (sf_ld 2 0 42) := ok_aload_n (by decide +kernel : decode (mb_ 143) 41 = .ok (.aload_n 0, 1)) rfl
theorem ok_X11_isRightRow_42 : ok_S 143 42 (sf_gr 7 7 3 45) := ok_gr fd_7_3 (by decide +kernel : decode (mb_ 143) 42 = .ok (.getfield 28, 3)) tw_209 (Or.inl rfl) rfl
theorem ok_X11_isRightRow_45 : ok_S 143 45 (sf_gr 8 8 0 48) := ok_gr fd_8_0 (by decide +kernel : decode (mb_ 143) 45 = .ok (.getfield 124, 3)) tw_48 (Or.inl rfl) rfl
theorem ok_X11_isRightRow_48 : ok_S 143 48 (sf_ld 2 2 49) := ok_aload_n (by decide +kernel : decode (mb_ 143) 48 = .ok (.aload_n 2, 1)) rfl
theorem ok_X11_isRightRow_49 : ok_S 143 49 (sf_gi 1 6 3 52) := ok_gi fd_1_3 (by decide +kernel : decode (mb_ 143) 49 = .ok (.getfield 148, 3)) tw_427 (Or.inl rfl) rfl
theorem ok_X11_isRightRow_52 : ok_S 143 52 (sf_iald 53) := ok_iald (by decide +kernel : decode (mb_ 143) 52 = .ok (.iaload, 1))
theorem ok_X11_isRightRow_53 : ok_S 143 53 (sf_i2l 54) := ok_i2l (by decide +kernel : decode (mb_ 143) 53 = .ok (.i2l, 1))
theorem ok_X11_isRightRow_54 : ok_S 143 54 (sf_lcmp 55) := ok_lcmp (by decide +kernel : decode (mb_ 143) 54 = .ok (.lcmp, 1))
theorem ok_X11_isRightRow_55 : ok_S 143 55 (sf_if 2 76 58) := ok_if2 (by decide +kernel : decode (mb_ 143) 55 = .ok (.ifCond .lt 21, 3)) (by decide)
theorem ok_X11_isRightRow_58 : ok_S 143 58 (sf_ld 1 3 59) := ok_lload_n (by decide +kernel : decode (mb_ 143) 58 = .ok (.lload_n 3, 1)) rfl
theorem ok_X11_isRightRow_59 : ok_S 143 59 (sf_ld 2 0 60) := ok_aload_n (by decide +kernel : decode (mb_ 143) 59 = .ok (.aload_n 0, 1)) rfl
theorem ok_X11_isRightRow_60 : ok_S 143 60 (sf_gr 7 7 3 63) := ok_gr fd_7_3 (by decide +kernel : decode (mb_ 143) 60 = .ok (.getfield 28, 3)) tw_209 (Or.inl rfl) rfl
theorem ok_X11_isRightRow_63 : ok_S 143 63 (sf_gr 8 8 1 66) := ok_gr fd_8_1 (by decide +kernel : decode (mb_ 143) 63 = .ok (.getfield 127, 3)) tw_50 (Or.inl rfl) rfl
theorem ok_X11_isRightRow_66 : ok_S 143 66 (sf_ld 2 2 67) := ok_aload_n (by decide +kernel : decode (mb_ 143) 66 = .ok (.aload_n 2, 1)) rfl
theorem ok_X11_isRightRow_67 : ok_S 143 67 (sf_gi 1 6 3 70) := ok_gi fd_1_3 (by decide +kernel : decode (mb_ 143) 67 = .ok (.getfield 148, 3)) tw_427 (Or.inl rfl) rfl
theorem ok_X11_isRightRow_70 : ok_S 143 70 (sf_iald 71) := ok_iald (by decide +kernel : decode (mb_ 143) 70 = .ok (.iaload, 1))
theorem ok_X11_isRightRow_71 : ok_S 143 71 (sf_i2l 72) := ok_i2l (by decide +kernel : decode (mb_ 143) 71 = .ok (.i2l, 1))
theorem ok_X11_isRightRow_72 : ok_S 143 72 (sf_lcmp 73) := ok_lcmp (by decide +kernel : decode (mb_ 143) 72 = .ok (.lcmp, 1))
theorem ok_X11_isRightRow_73 : ok_S 143 73 (sf_if 5 78 76) := ok_if5 (by decide +kernel : decode (mb_ 143) 73 = .ok (.ifCond .le 5, 3)) (by decide)
theorem ok_X11_isRightRow_76 : ok_S 143 76 (sf_push (0, 0) 77) := ok_iconst (by decide +kernel : decode (mb_ 143) 76 = .ok (.iconst 0, 1)) ⟨by decide, by decide⟩
theorem ok_X11_isRightRow_77 : ok_S 143 77 (sf_rr 0 1) := ok_rr (by decide +kernel : decode (mb_ 143) 77 = .ok (.ireturn, 1)) rfl (so_nz .boolean rfl rfl)
theorem ok_X11_isRightRow_78 : ok_S 143 78 (sf_ld 1 3 79) := ok_lload_n (by decide +kernel : decode (mb_ 143) 78 = .ok (.lload_n 3, 1)) rfl
theorem ok_X11_isRightRow_79 : ok_S 143 79 (sf_l2i 80) := ok_l2i (by decide +kernel : decode (mb_ 143) 79 = .ok (.l2i, 1))
theorem ok_X11_isRightRow_80 : ok_S 143 80 (sf_st 0 5 82) := ok_istore (by decide +kernel : decode (mb_ 143) 80 = .ok (.istore 5, 2))
theorem ok_X11_isRightRow_82 : ok_S 143 82 (sf_ld 2 0 83) := ok_aload_n (by decide +kernel : decode (mb_ 143) 82 = .ok (.aload_n 0, 1)) rfl
theorem ok_X11_isRightRow_83 : ok_S 143 83 (sf_gr 7 7 11 86) := ok_gr fd_7_11 (by decide +kernel : decode (mb_ 143) 83 = .ok (.getfield 61, 3)) tw_217 (Or.inl rfl) rfl
theorem ok_X11_isRightRow_86 : ok_S 143 86 (sf_ld 2 2 87) := ok_aload_n (by decide +kernel : decode (mb_ 143) 86 = .ok (.aload_n 2, 1)) rfl
theorem ok_X11_isRightRow_87 : ok_S 143 87 (sf_gi 1 6 3 90) := ok_gi fd_1_3 (by decide +kernel : decode (mb_ 143) 87 = .ok (.getfield 148, 3)) tw_427 (Or.inl rfl) rfl
theorem ok_X11_isRightRow_90 : ok_S 143 90 (sf_iald 91) := ok_iald (by decide +kernel : decode (mb_ 143) 90 = .ok (.iaload, 1))
theorem ok_X11_isRightRow_91 : ok_S 143 91 (sf_if 0 110 94) := ok_if0 (by decide +kernel : decode (mb_ 143) 91 = .ok (.ifCond .eq 19, 3)) (by decide)
theorem ok_X11_isRightRow_94 : ok_S 143 94 (sf_ld 2 0 95) := ok_aload_n (by decide +kernel : decode (mb_ 143) 94 = .ok (.aload_n 0, 1)) rfl
theorem ok_X11_isRightRow_95 : ok_S 143 95 (sf_gr 7 7 11 98) := ok_gr fd_7_11 (by decide +kernel : decode (mb_ 143) 95 = .ok (.getfield 61, 3)) tw_217 (Or.inl rfl) rfl
theorem ok_X11_isRightRow_98 : ok_S 143 98 (sf_ld 2 2 99) := ok_aload_n (by decide +kernel : decode (mb_ 143) 98 = .ok (.aload_n 2, 1)) rfl
theorem ok_X11_isRightRow_99 : ok_S 143 99 (sf_gi 1 6 3 102) := ok_gi fd_1_3 (by decide +kernel : decode (mb_ 143) 99 = .ok (.getfield 148, 3)) tw_427 (Or.inl rfl) rfl
theorem ok_X11_isRightRow_102 : ok_S 143 102 (sf_iald 103) := ok_iald (by decide +kernel : decode (mb_ 143) 102 = .ok (.iaload, 1))
theorem ok_X11_isRightRow_103 : ok_S 143 103 (sf_ld 0 5 105) := ok_iload (by decide +kernel : decode (mb_ 143) 103 = .ok (.iload 5, 2))
theorem ok_X11_isRightRow_105 : ok_S 143 105 (sf_ic 0 110 108) := ok_ic0 (by decide +kernel : decode (mb_ 143) 105 = .ok (.if_icmp .eq 5, 3)) (by decide)
theorem ok_X11_isRightRow_108 : ok_S 143 108 (sf_push (0, 0) 109) := ok_iconst (by decide +kernel : decode (mb_ 143) 108 = .ok (.iconst 0, 1)) ⟨by decide, by decide⟩
theorem ok_X11_isRightRow_109 : ok_S 143 109 (sf_rr 0 1) := ok_rr (by decide +kernel : decode (mb_ 143) 109 = .ok (.ireturn, 1)) rfl (so_nz .boolean rfl rfl)
theorem ok_X11_isRightRow_110 : ok_S 143 110 (sf_ld 2 0 111) := ok_aload_n (by decide +kernel : decode (mb_ 143) 110 = .ok (.aload_n 0, 1)) rfl
theorem ok_X11_isRightRow_111 : ok_S 143 111 (sf_gr 7 7 11 114) := ok_gr fd_7_11 (by decide +kernel : decode (mb_ 143) 111 = .ok (.getfield 61, 3)) tw_217 (Or.inl rfl) rfl
theorem ok_X11_isRightRow_114 : ok_S 143 114 (sf_ld 2 2 115) := ok_aload_n (by decide +kernel : decode (mb_ 143) 114 = .ok (.aload_n 2, 1)) rfl
theorem ok_X11_isRightRow_115 : ok_S 143 115 (sf_gi 1 6 3 118) := ok_gi fd_1_3 (by decide +kernel : decode (mb_ 143) 115 = .ok (.getfield 148, 3)) tw_427 (Or.inl rfl) rfl
theorem ok_X11_isRightRow_118 : ok_S 143 118 (sf_ld 0 5 120) := ok_iload (by decide +kernel : decode (mb_ 143) 118 = .ok (.iload 5, 2))
theorem ok_X11_isRightRow_120 : ok_S 143 120 (sf_iast 121) := ok_iast (by decide +kernel : decode (mb_ 143) 120 = .ok (.iastore, 1))
theorem ok_X11_isRightRow_121 : ok_S 143 121 (sf_ld 2 2 122) := ok_aload_n (by decide +kernel : decode (mb_ 143) 121 = .ok (.aload_n 2, 1)) rfl
theorem ok_X11_isRightRow_122 : ok_S 143 122 (sf_ld 0 5 124) := ok_iload (by decide +kernel : decode (mb_ 143) 122 = .ok (.iload 5, 2))
theorem ok_X11_isRightRow_124 : ok_S 143 124 (sf_cu [(1, 44), (2, 57), (3, 4), (4, 4), (5, 44), (6, 57)] [2, 0] 127) := ok_cu (x := ⟨"RoomNumbers$Note", "canBeIn", "(I)Z"⟩) (ow := "RoomNumbers$Note") ⟨tw_919, tw_651, tw_649, ⟨_, _, _, tw_668⟩, mh_ok rfl, (by decide +kernel)⟩ (List.forall_mem_cons.mpr ⟨⟨"RoomNumbers$Note", cl_1, mt_44, tw_650, tw_649, tw_14, by decide, by decide⟩, (List.forall_mem_cons.mpr ⟨⟨"RoomNumbers$Strokes", cl_2, mt_57, tw_666, tw_663, tw_15, by decide, by decide⟩, (List.forall_mem_cons.mpr ⟨⟨"RoomNumbers$Broken", cl_3, mt_4, tw_652, tw_653, tw_16, by decide, by decide⟩, (List.forall_mem_cons.mpr ⟨⟨"RoomNumbers$Left", cl_4, mt_4, tw_665, tw_653, tw_16, by decide, by decide⟩, (List.forall_mem_cons.mpr ⟨⟨"RoomNumbers$Turned", cl_5, mt_44, tw_667, tw_649, tw_14, by decide, by decide⟩, (List.forall_mem_cons.mpr ⟨⟨"RoomNumbers$Debt", cl_6, mt_57, tw_662, tw_663, tw_15, by decide, by decide⟩, (fun _ h => absurd h List.not_mem_nil)⟩)⟩)⟩)⟩)⟩)⟩) (by decide +kernel : decode (mb_ 143) 124 = .ok (.invokevirtual 309, 3)) rfl
theorem ok_X11_isRightRow_127 : ok_S 143 127 (sf_if 0 155 130) := ok_if0 (by decide +kernel : decode (mb_ 143) 127 = .ok (.ifCond .eq 28, 3)) (by decide)
theorem ok_X11_isRightRow_130 : ok_S 143 130 (sf_ld 2 2 131) := ok_aload_n (by decide +kernel : decode (mb_ 143) 130 = .ok (.aload_n 2, 1)) rfl
theorem ok_X11_isRightRow_131 : ok_S 143 131 (sf_ld 0 5 133) := ok_iload (by decide +kernel : decode (mb_ 143) 131 = .ok (.iload 5, 2))
theorem ok_X11_isRightRow_133 : ok_S 143 133 (sf_cu [(1, 43), (2, 56), (3, 3), (4, 3), (5, 81), (6, 9)] [2, 0] 136) := ok_cu (x := ⟨"RoomNumbers$Note", "worthBy", "(I)I"⟩) (ow := "RoomNumbers$Note") ⟨tw_598, tw_601, tw_599, ⟨_, _, _, tw_632⟩, mh_ok rfl, (by decide +kernel)⟩ (List.forall_mem_cons.mpr ⟨⟨"RoomNumbers$Note", cl_1, mt_43, tw_600, tw_599, tw_14, by decide, by decide⟩, (List.forall_mem_cons.mpr ⟨⟨"RoomNumbers$Strokes", cl_2, mt_56, tw_628, tw_625, tw_15, by decide, by decide⟩, (List.forall_mem_cons.mpr ⟨⟨"RoomNumbers$Broken", cl_3, mt_3, tw_602, tw_603, tw_16, by decide, by decide⟩, (List.forall_mem_cons.mpr ⟨⟨"RoomNumbers$Left", cl_4, mt_3, tw_627, tw_603, tw_16, by decide, by decide⟩, (List.forall_mem_cons.mpr ⟨⟨"RoomNumbers$Turned", cl_5, mt_81, tw_629, tw_630, tw_18, by decide, by decide⟩, (List.forall_mem_cons.mpr ⟨⟨"RoomNumbers$Debt", cl_6, mt_9, tw_621, tw_622, tw_19, by decide, by decide⟩, (fun _ h => absurd h List.not_mem_nil)⟩)⟩)⟩)⟩)⟩)⟩) (by decide +kernel : decode (mb_ 143) 133 = .ok (.invokevirtual 165, 3)) rfl
theorem ok_X11_isRightRow_136 : ok_S 143 136 (sf_i2l 137) := ok_i2l (by decide +kernel : decode (mb_ 143) 136 = .ok (.i2l, 1))
theorem ok_X11_isRightRow_137 : ok_S 143 137 (sf_ld 2 0 138) := ok_aload_n (by decide +kernel : decode (mb_ 143) 137 = .ok (.aload_n 0, 1)) rfl
theorem ok_X11_isRightRow_138 : ok_S 143 138 (sf_gr 7 7 9 141) := ok_gr fd_7_9 (by decide +kernel : decode (mb_ 143) 138 = .ok (.getfield 54, 3)) tw_215 (Or.inl rfl) rfl
theorem ok_X11_isRightRow_141 : ok_S 143 141 (sf_ld 0 1 142) := ok_iload_n (by decide +kernel : decode (mb_ 143) 141 = .ok (.iload_n 1, 1)) rfl
theorem ok_X11_isRightRow_142 : ok_S 143 142 (sf_push (0, 3) 143) := ok_iconst (by decide +kernel : decode (mb_ 143) 142 = .ok (.iconst 3, 1)) ⟨by decide, by decide⟩
theorem ok_X11_isRightRow_143 : ok_S 143 143 (sf_i2 mx_mul 144) := ok_imul (by decide +kernel : decode (mb_ 143) 143 = .ok (.imul, 1))
theorem ok_X11_isRightRow_144 : ok_S 143 144 (sf_push (0, 2) 145) := ok_iconst (by decide +kernel : decode (mb_ 143) 144 = .ok (.iconst 2, 1)) ⟨by decide, by decide⟩
theorem ok_X11_isRightRow_145 : ok_S 143 145 (sf_i2 mx_add 146) := ok_iadd (by decide +kernel : decode (mb_ 143) 145 = .ok (.iadd, 1))
theorem ok_X11_isRightRow_146 : ok_S 143 146 (sf_lald 147) := ok_lald (by decide +kernel : decode (mb_ 143) 146 = .ok (.laload, 1))
theorem ok_X11_isRightRow_147 : ok_S 143 147 (sf_lcmp 148) := ok_lcmp (by decide +kernel : decode (mb_ 143) 147 = .ok (.lcmp, 1))
theorem ok_X11_isRightRow_148 : ok_S 143 148 (sf_if 1 155 151) := ok_if1 (by decide +kernel : decode (mb_ 143) 148 = .ok (.ifCond .ne 7, 3)) (by decide)
theorem ok_X11_isRightRow_151 : ok_S 143 151 (sf_push (0, 1) 152) := ok_iconst (by decide +kernel : decode (mb_ 143) 151 = .ok (.iconst 1, 1)) ⟨by decide, by decide⟩
theorem ok_X11_isRightRow_152 : ok_S 143 152 (sf_go 156) := ok_goto (by decide +kernel : decode (mb_ 143) 152 = .ok (.goto 4, 3)) (by decide)
theorem ok_X11_isRightRow_155 : ok_S 143 155 (sf_push (0, 0) 156) := ok_iconst (by decide +kernel : decode (mb_ 143) 155 = .ok (.iconst 0, 1)) ⟨by decide, by decide⟩
theorem ok_X11_isRightRow_156 : ok_S 143 156 (sf_rr 0 1) := ok_rr (by decide +kernel : decode (mb_ 143) 156 = .ok (.ireturn, 1)) rfl (so_nz .boolean rfl rfl)
theorem ok_X11_isRightRow (pc : Nat) : ok_S 143 pc (cd_X11_isRightRow pc) :=
  (ok_bf (ok_bf (ok_bf (ok_bf (ok_bf (ok_bf (ok_bf (ok_lf pc ok_X11_isRightRow_156) (ok_lf pc ok_X11_isRightRow_155)) (ok_lf pc ok_X11_isRightRow_152)) (ok_bf (ok_bf (ok_lf pc ok_X11_isRightRow_151) (ok_lf pc ok_X11_isRightRow_148)) (ok_lf pc ok_X11_isRightRow_147))) (ok_bf (ok_bf (ok_bf (ok_lf pc ok_X11_isRightRow_146) (ok_lf pc ok_X11_isRightRow_145)) (ok_lf pc ok_X11_isRightRow_144)) (ok_bf (ok_bf (ok_lf pc ok_X11_isRightRow_143) (ok_lf pc ok_X11_isRightRow_142)) (ok_lf pc ok_X11_isRightRow_141)))) (ok_bf (ok_bf (ok_bf (ok_bf (ok_lf pc ok_X11_isRightRow_138) (ok_lf pc ok_X11_isRightRow_137)) (ok_lf pc ok_X11_isRightRow_136)) (ok_bf (ok_bf (ok_lf pc ok_X11_isRightRow_133) (ok_lf pc ok_X11_isRightRow_131)) (ok_lf pc ok_X11_isRightRow_130))) (ok_bf (ok_bf (ok_bf (ok_lf pc ok_X11_isRightRow_127) (ok_lf pc ok_X11_isRightRow_124)) (ok_lf pc ok_X11_isRightRow_122)) (ok_bf (ok_bf (ok_lf pc ok_X11_isRightRow_121) (ok_lf pc ok_X11_isRightRow_120)) (ok_lf pc ok_X11_isRightRow_118))))) (ok_bf (ok_bf (ok_bf (ok_bf (ok_bf (ok_lf pc ok_X11_isRightRow_115) (ok_lf pc ok_X11_isRightRow_114)) (ok_lf pc ok_X11_isRightRow_111)) (ok_bf (ok_bf (ok_lf pc ok_X11_isRightRow_110) (ok_lf pc ok_X11_isRightRow_109)) (ok_lf pc ok_X11_isRightRow_108))) (ok_bf (ok_bf (ok_bf (ok_lf pc ok_X11_isRightRow_105) (ok_lf pc ok_X11_isRightRow_103)) (ok_lf pc ok_X11_isRightRow_102)) (ok_bf (ok_bf (ok_lf pc ok_X11_isRightRow_99) (ok_lf pc ok_X11_isRightRow_98)) (ok_lf pc ok_X11_isRightRow_95)))) (ok_bf (ok_bf (ok_bf (ok_bf (ok_lf pc ok_X11_isRightRow_94) (ok_lf pc ok_X11_isRightRow_91)) (ok_lf pc ok_X11_isRightRow_90)) (ok_bf (ok_bf (ok_lf pc ok_X11_isRightRow_87) (ok_lf pc ok_X11_isRightRow_86)) (ok_lf pc ok_X11_isRightRow_83))) (ok_bf (ok_bf (ok_bf (ok_lf pc ok_X11_isRightRow_82) (ok_lf pc ok_X11_isRightRow_80)) (ok_lf pc ok_X11_isRightRow_79)) (ok_bf (ok_bf (ok_lf pc ok_X11_isRightRow_78) (ok_lf pc ok_X11_isRightRow_77)) (ok_lf pc ok_X11_isRightRow_76)))))) (ok_bf (ok_bf (ok_bf (ok_bf (ok_bf (ok_bf (ok_lf pc ok_X11_isRightRow_73) (ok_lf pc ok_X11_isRightRow_72)) (ok_lf pc ok_X11_isRightRow_71)) (ok_bf (ok_bf (ok_lf pc ok_X11_isRightRow_70) (ok_lf pc ok_X11_isRightRow_67)) (ok_lf pc ok_X11_isRightRow_66))) (ok_bf (ok_bf (ok_bf (ok_lf pc ok_X11_isRightRow_63) (ok_lf pc ok_X11_isRightRow_60)) (ok_lf pc ok_X11_isRightRow_59)) (ok_bf (ok_bf (ok_lf pc ok_X11_isRightRow_58) (ok_lf pc ok_X11_isRightRow_55)) (ok_lf pc ok_X11_isRightRow_54)))) (ok_bf (ok_bf (ok_bf (ok_bf (ok_lf pc ok_X11_isRightRow_53) (ok_lf pc ok_X11_isRightRow_52)) (ok_lf pc ok_X11_isRightRow_49)) (ok_bf (ok_bf (ok_lf pc ok_X11_isRightRow_48) (ok_lf pc ok_X11_isRightRow_45)) (ok_lf pc ok_X11_isRightRow_42))) (ok_bf (ok_bf (ok_bf (ok_lf pc ok_X11_isRightRow_41) (ok_lf pc ok_X11_isRightRow_40)) (ok_lf pc ok_X11_isRightRow_39)) (ok_bf (ok_bf (ok_lf pc ok_X11_isRightRow_38) (ok_lf pc ok_X11_isRightRow_37)) (ok_lf pc ok_X11_isRightRow_36))))) (ok_bf (ok_bf (ok_bf (ok_bf (ok_bf (ok_lf pc ok_X11_isRightRow_35) (ok_lf pc ok_X11_isRightRow_34)) (ok_lf pc ok_X11_isRightRow_33)) (ok_bf (ok_bf (ok_lf pc ok_X11_isRightRow_30) (ok_lf pc ok_X11_isRightRow_29)) (ok_lf pc ok_X11_isRightRow_28))) (ok_bf (ok_bf (ok_bf (ok_lf pc ok_X11_isRightRow_27) (ok_lf pc ok_X11_isRightRow_24)) (ok_lf pc ok_X11_isRightRow_23)) (ok_bf (ok_bf (ok_lf pc ok_X11_isRightRow_22) (ok_lf pc ok_X11_isRightRow_21)) (ok_lf pc ok_X11_isRightRow_20)))) (ok_bf (ok_bf (ok_bf (ok_bf (ok_lf pc ok_X11_isRightRow_19) (ok_lf pc ok_X11_isRightRow_18)) (ok_lf pc ok_X11_isRightRow_17)) (ok_bf (ok_bf (ok_lf pc ok_X11_isRightRow_14) (ok_lf pc ok_X11_isRightRow_13)) (ok_lf pc ok_X11_isRightRow_10))) (ok_bf (ok_bf (ok_bf (ok_lf pc ok_X11_isRightRow_9) (ok_lf pc ok_X11_isRightRow_8)) (ok_lf pc ok_X11_isRightRow_5)) (ok_bf (ok_bf (ok_lf pc ok_X11_isRightRow_4) (ok_lf pc ok_X11_isRightRow_1)) (ok_lf pc ok_X11_isRightRow_0)))))))
theorem mo_X11_isRightRow (pc : Nat) : mo_S (cd_X11_isRightRow pc) :=
  (mo_bf (mo_bf (mo_bf (mo_bf (mo_bf (mo_bf (mo_bf (mo_bf mo_rr mo_no) (mo_bf mo_push mo_no)) (mo_bf mo_go mo_no)) (mo_bf (mo_bf (mo_bf mo_push mo_no) (mo_bf mo_if mo_no)) (mo_bf mo_lcmp mo_no))) (mo_bf (mo_bf (mo_bf (mo_bf mo_lald mo_no) (mo_bf mo_i2 mo_no)) (mo_bf mo_push mo_no)) (mo_bf (mo_bf (mo_bf mo_i2 mo_no) (mo_bf mo_push mo_no)) (mo_bf mo_ld mo_no)))) (mo_bf (mo_bf (mo_bf (mo_bf (mo_bf mo_gr mo_no) (mo_bf mo_ld mo_no)) (mo_bf mo_i2l mo_no)) (mo_bf (mo_bf (mo_bf mo_cu mo_no) (mo_bf mo_ld mo_no)) (mo_bf mo_ld mo_no))) (mo_bf (mo_bf (mo_bf (mo_bf mo_if mo_no) (mo_bf mo_cu mo_no)) (mo_bf mo_ld mo_no)) (mo_bf (mo_bf (mo_bf mo_ld mo_no) (mo_bf mo_iast mo_no)) (mo_bf mo_ld mo_no))))) (mo_bf (mo_bf (mo_bf (mo_bf (mo_bf (mo_bf mo_gi mo_no) (mo_bf mo_ld mo_no)) (mo_bf mo_gr mo_no)) (mo_bf (mo_bf (mo_bf mo_ld mo_no) (mo_bf mo_rr mo_no)) (mo_bf mo_push mo_no))) (mo_bf (mo_bf (mo_bf (mo_bf mo_ic mo_no) (mo_bf mo_ld mo_no)) (mo_bf mo_iald mo_no)) (mo_bf (mo_bf (mo_bf mo_gi mo_no) (mo_bf mo_ld mo_no)) (mo_bf mo_gr mo_no)))) (mo_bf (mo_bf (mo_bf (mo_bf (mo_bf mo_ld mo_no) (mo_bf mo_if mo_no)) (mo_bf mo_iald mo_no)) (mo_bf (mo_bf (mo_bf mo_gi mo_no) (mo_bf mo_ld mo_no)) (mo_bf mo_gr mo_no))) (mo_bf (mo_bf (mo_bf (mo_bf mo_ld mo_no) (mo_bf mo_st mo_no)) (mo_bf mo_l2i mo_no)) (mo_bf (mo_bf (mo_bf mo_ld mo_no) (mo_bf mo_rr mo_no)) (mo_bf mo_push mo_no)))))) (mo_bf (mo_bf (mo_bf (mo_bf (mo_bf (mo_bf (mo_bf mo_if mo_no) (mo_bf mo_lcmp mo_no)) (mo_bf mo_i2l mo_no)) (mo_bf (mo_bf (mo_bf mo_iald mo_no) (mo_bf mo_gi mo_no)) (mo_bf mo_ld mo_no))) (mo_bf (mo_bf (mo_bf (mo_bf mo_gr mo_no) (mo_bf mo_gr mo_no)) (mo_bf mo_ld mo_no)) (mo_bf (mo_bf (mo_bf mo_ld mo_no) (mo_bf mo_if mo_no)) (mo_bf mo_lcmp mo_no)))) (mo_bf (mo_bf (mo_bf (mo_bf (mo_bf mo_i2l mo_no) (mo_bf mo_iald mo_no)) (mo_bf mo_gi mo_no)) (mo_bf (mo_bf (mo_bf mo_ld mo_no) (mo_bf mo_gr mo_no)) (mo_bf mo_gr mo_no))) (mo_bf (mo_bf (mo_bf (mo_bf mo_ld mo_no) (mo_bf mo_ld mo_no)) (mo_bf mo_st2 mo_no)) (mo_bf (mo_bf (mo_bf mo_lald mo_no) (mo_bf mo_i2 mo_no)) (mo_bf mo_push mo_no))))) (mo_bf (mo_bf (mo_bf (mo_bf (mo_bf (mo_bf mo_i2 mo_no) (mo_bf mo_push mo_no)) (mo_bf mo_ld mo_no)) (mo_bf (mo_bf (mo_bf mo_gr mo_no) (mo_bf mo_ld mo_no)) (mo_bf mo_rr mo_no))) (mo_bf (mo_bf (mo_bf (mo_bf mo_push mo_no) (mo_bf mo_if mo_no)) (mo_bf mo_lcmp mo_no)) (mo_bf (mo_bf (mo_bf mo_i2l mo_no) (mo_bf mo_ld mo_no)) (mo_bf mo_lald mo_no)))) (mo_bf (mo_bf (mo_bf (mo_bf (mo_bf mo_i2 mo_no) (mo_bf mo_push mo_no)) (mo_bf mo_ld mo_no)) (mo_bf (mo_bf (mo_bf mo_gr mo_no) (mo_bf mo_ld mo_no)) (mo_bf mo_nul mo_no))) (mo_bf (mo_bf (mo_bf (mo_bf mo_ld mo_no) (mo_bf mo_st mo_no)) (mo_bf mo_cv mo_no)) (mo_bf (mo_bf (mo_bf mo_ld mo_no) (mo_bf mo_gr mo_no)) (mo_bf mo_ld mo_no)))))))
theorem ok_X11_noteOn_0 : ok_S 144 0 (sf_ld 2 0 1) := ok_aload_n (by decide +kernel : decode (mb_ 144) 0 = .ok (.aload_n 0, 1)) rfl
theorem ok_X11_noteOn_1 : ok_S 144 1 (sf_gr 7 7 13 4) := ok_gr fd_7_13 (by decide +kernel : decode (mb_ 144) 1 = .ok (.getfield 70, 3)) tw_219 (Or.inl rfl) rfl
theorem ok_X11_noteOn_4 : ok_S 144 4 (sf_ld 0 1 5) := ok_iload_n (by decide +kernel : decode (mb_ 144) 4 = .ok (.iload_n 1, 1)) rfl
theorem ok_X11_noteOn_5 : ok_S 144 5 (sf_iald 6) := ok_iald (by decide +kernel : decode (mb_ 144) 5 = .ok (.iaload, 1))
theorem ok_X11_noteOn_6 : ok_S 144 6 (sf_if 1 25 9) := ok_if1 (by decide +kernel : decode (mb_ 144) 6 = .ok (.ifCond .ne 19, 3)) (by decide)
theorem ok_X11_noteOn_9 : ok_S 144 9 (sf_ld 2 0 10) := ok_aload_n (by decide +kernel : decode (mb_ 144) 9 = .ok (.aload_n 0, 1)) rfl
theorem ok_X11_noteOn_10 : ok_S 144 10 (sf_gr 7 7 3 13) := ok_gr fd_7_3 (by decide +kernel : decode (mb_ 144) 10 = .ok (.getfield 28, 3)) tw_209 (Or.inl rfl) rfl
theorem ok_X11_noteOn_13 : ok_S 144 13 (sf_ld 2 0 14) := ok_aload_n (by decide +kernel : decode (mb_ 144) 13 = .ok (.aload_n 0, 1)) rfl
theorem ok_X11_noteOn_14 : ok_S 144 14 (sf_gr 7 7 14 17) := ok_gr fd_7_14 (by decide +kernel : decode (mb_ 144) 14 = .ok (.getfield 73, 3)) tw_220 (Or.inl rfl) rfl
theorem ok_X11_noteOn_17 : ok_S 144 17 (sf_ld 0 1 18) := ok_iload_n (by decide +kernel : decode (mb_ 144) 17 = .ok (.iload_n 1, 1)) rfl
theorem ok_X11_noteOn_18 : ok_S 144 18 (sf_iald 19) := ok_iald (by decide +kernel : decode (mb_ 144) 18 = .ok (.iaload, 1))
theorem ok_X11_noteOn_19 : ok_S 144 19 (sf_cv 8 [2, 0] 90 22) := ok_cv mt_90 cl_8 (by decide +kernel : decode (mb_ 144) 19 = .ok (.invokevirtual 138, 3)) tw_573 tw_514 tw_515 tw_3 rfl (by decide +kernel) (mh_ok rfl) (by decide) (by decide)
theorem ok_X11_noteOn_22 : ok_S 144 22 (sf_go 26) := ok_goto (by decide +kernel : decode (mb_ 144) 22 = .ok (.goto 4, 3)) (by decide)
theorem ok_X11_noteOn_25 : ok_S 144 25 (sf_push (2, (-1)) 26) := ok_null (by decide +kernel : decode (mb_ 144) 25 = .ok (.aconst_null, 1))
theorem ok_X11_noteOn_26 : ok_S 144 26 (sf_ret 2) := ok_ret2 (by decide +kernel : decode (mb_ 144) 26 = .ok (.areturn, 1)) rfl
theorem ok_X11_noteOn (pc : Nat) : ok_S 144 pc (cd_X11_noteOn pc) :=
  (ok_bf (ok_bf (ok_bf (ok_bf (ok_lf pc ok_X11_noteOn_26) (ok_lf pc ok_X11_noteOn_25)) (ok_bf (ok_lf pc ok_X11_noteOn_22) (ok_lf pc ok_X11_noteOn_19))) (ok_bf (ok_bf (ok_lf pc ok_X11_noteOn_18) (ok_lf pc ok_X11_noteOn_17)) (ok_bf (ok_lf pc ok_X11_noteOn_14) (ok_lf pc ok_X11_noteOn_13)))) (ok_bf (ok_bf (ok_bf (ok_lf pc ok_X11_noteOn_10) (ok_lf pc ok_X11_noteOn_9)) (ok_bf (ok_lf pc ok_X11_noteOn_6) (ok_lf pc ok_X11_noteOn_5))) (ok_bf (ok_bf (ok_lf pc ok_X11_noteOn_4) (ok_lf pc ok_X11_noteOn_1)) (ok_lf pc ok_X11_noteOn_0))))
theorem mo_X11_noteOn (pc : Nat) : mo_S (cd_X11_noteOn pc) :=
  (mo_bf (mo_bf (mo_bf (mo_bf (mo_bf mo_ret mo_no) (mo_bf mo_push mo_no)) (mo_bf (mo_bf mo_go mo_no) (mo_bf mo_cv mo_no))) (mo_bf (mo_bf (mo_bf mo_iald mo_no) (mo_bf mo_ld mo_no)) (mo_bf (mo_bf mo_gr mo_no) (mo_bf mo_ld mo_no)))) (mo_bf (mo_bf (mo_bf (mo_bf mo_gr mo_no) (mo_bf mo_ld mo_no)) (mo_bf (mo_bf mo_if mo_no) (mo_bf mo_iald mo_no))) (mo_bf (mo_bf (mo_bf mo_ld mo_no) (mo_bf mo_gr mo_no)) (mo_bf mo_ld mo_no))))
theorem ok_X11_within_0 : ok_S 145 0 (sf_ld 0 0 1) := ok_iload_n (by decide +kernel : decode (mb_ 145) 0 = .ok (.iload_n 0, 1)) rfl
theorem ok_X11_within_1 : ok_S 145 1 (sf_ld 0 1 2) := ok_iload_n (by decide +kernel : decode (mb_ 145) 1 = .ok (.iload_n 1, 1)) rfl
theorem ok_X11_within_2 : ok_S 145 2 (sf_ic 2 14 5) := ok_ic2 (by decide +kernel : decode (mb_ 145) 2 = .ok (.if_icmp .lt 12, 3)) (by decide)
theorem ok_X11_within_5 : ok_S 145 5 (sf_ld 0 0 6) := ok_iload_n (by decide +kernel : decode (mb_ 145) 5 = .ok (.iload_n 0, 1)) rfl
theorem ok_X11_within_6 : ok_S 145 6 (sf_ld 0 2 7) := ok_iload_n (by decide +kernel : decode (mb_ 145) 6 = .ok (.iload_n 2, 1)) rfl
theorem ok_X11_within_7 : ok_S 145 7 (sf_ic 4 14 10) := ok_ic4 (by decide +kernel : decode (mb_ 145) 7 = .ok (.if_icmp .gt 7, 3)) (by decide)
theorem ok_X11_within_10 : ok_S 145 10 (sf_push (0, 1) 11) := ok_iconst (by decide +kernel : decode (mb_ 145) 10 = .ok (.iconst 1, 1)) ⟨by decide, by decide⟩
theorem ok_X11_within_11 : ok_S 145 11 (sf_go 15) := ok_goto (by decide +kernel : decode (mb_ 145) 11 = .ok (.goto 4, 3)) (by decide)
theorem ok_X11_within_14 : ok_S 145 14 (sf_push (0, 0) 15) := ok_iconst (by decide +kernel : decode (mb_ 145) 14 = .ok (.iconst 0, 1)) ⟨by decide, by decide⟩
theorem ok_X11_within_15 : ok_S 145 15 (sf_rr 0 1) := ok_rr (by decide +kernel : decode (mb_ 145) 15 = .ok (.ireturn, 1)) rfl (so_nz .boolean rfl rfl)
theorem ok_X11_within (pc : Nat) : ok_S 145 pc (cd_X11_within pc) :=
  (ok_bf (ok_bf (ok_bf (ok_bf (ok_lf pc ok_X11_within_15) (ok_lf pc ok_X11_within_14)) (ok_lf pc ok_X11_within_11)) (ok_bf (ok_lf pc ok_X11_within_10) (ok_lf pc ok_X11_within_7))) (ok_bf (ok_bf (ok_bf (ok_lf pc ok_X11_within_6) (ok_lf pc ok_X11_within_5)) (ok_lf pc ok_X11_within_2)) (ok_bf (ok_lf pc ok_X11_within_1) (ok_lf pc ok_X11_within_0))))
theorem mo_X11_within (pc : Nat) : mo_S (cd_X11_within pc) :=
  (mo_bf (mo_bf (mo_bf (mo_bf (mo_bf mo_rr mo_no) (mo_bf mo_push mo_no)) (mo_bf mo_go mo_no)) (mo_bf (mo_bf mo_push mo_no) (mo_bf mo_ic mo_no))) (mo_bf (mo_bf (mo_bf (mo_bf mo_ld mo_no) (mo_bf mo_ld mo_no)) (mo_bf mo_ic mo_no)) (mo_bf (mo_bf mo_ld mo_no) (mo_bf mo_ld mo_no))))
theorem ok_X11_isEvening_0 : ok_S 146 0 (sf_ld 0 0 1) := ok_iload_n (by decide +kernel : decode (mb_ 146) 0 = .ok (.iload_n 0, 1)) rfl
theorem ok_X11_isEvening_1 : ok_S 146 1 (sf_push (0, 0) 2) := ok_iconst (by decide +kernel : decode (mb_ 146) 1 = .ok (.iconst 0, 1)) ⟨by decide, by decide⟩
theorem ok_X11_isEvening_2 : ok_S 146 2 (sf_push (0, 2) 3) := ok_iconst (by decide +kernel : decode (mb_ 146) 2 = .ok (.iconst 2, 1)) ⟨by decide, by decide⟩
theorem ok_X11_isEvening_3 : ok_S 146 3 (sf_cs [0, 0, 0] 145 6) := ok_cs mt_145 (by decide +kernel : decode (mb_ 146) 3 = .ok (.invokestatic 92, 3)) tw_262 tw_263 tw_1 (by decide +kernel) (mh_ok rfl) (by decide) (by decide)
theorem ok_X11_isEvening_6 : ok_S 146 6 (sf_rr 0 1) := ok_rr (by decide +kernel : decode (mb_ 146) 6 = .ok (.ireturn, 1)) rfl (so_nz .boolean rfl rfl)
theorem ok_X11_isEvening (pc : Nat) : ok_S 146 pc (cd_X11_isEvening pc) :=
  (ok_bf (ok_bf (ok_bf (ok_lf pc ok_X11_isEvening_6) (ok_lf pc ok_X11_isEvening_3)) (ok_lf pc ok_X11_isEvening_2)) (ok_bf (ok_lf pc ok_X11_isEvening_1) (ok_lf pc ok_X11_isEvening_0)))
theorem mo_X11_isEvening (pc : Nat) : mo_S (cd_X11_isEvening pc) :=
  (mo_bf (mo_bf (mo_bf (mo_bf mo_rr mo_no) (mo_bf mo_cs mo_no)) (mo_bf mo_push mo_no)) (mo_bf (mo_bf mo_push mo_no) (mo_bf mo_ld mo_no)))
theorem ok_X11_isBase_0 : ok_S 147 0 (sf_ld 0 0 1) := ok_iload_n (by decide +kernel : decode (mb_ 147) 0 = .ok (.iload_n 0, 1)) rfl
theorem ok_X11_isBase_1 : ok_S 147 1 (sf_push (0, 2) 2) := ok_iconst (by decide +kernel : decode (mb_ 147) 1 = .ok (.iconst 2, 1)) ⟨by decide, by decide⟩
theorem ok_X11_isBase_2 : ok_S 147 2 (sf_push (0, 16) 4) := ok_bipush (by decide +kernel : decode (mb_ 147) 2 = .ok (.bipush 16, 2)) ⟨by decide, by decide⟩ (by decide +kernel)
theorem ok_X11_isBase_4 : ok_S 147 4 (sf_cs [0, 0, 0] 145 7) := ok_cs mt_145 (by decide +kernel : decode (mb_ 147) 4 = .ok (.invokestatic 92, 3)) tw_262 tw_263 tw_1 (by decide +kernel) (mh_ok rfl) (by decide) (by decide)
theorem ok_X11_isBase_7 : ok_S 147 7 (sf_rr 0 1) := ok_rr (by decide +kernel : decode (mb_ 147) 7 = .ok (.ireturn, 1)) rfl (so_nz .boolean rfl rfl)
theorem ok_X11_isBase (pc : Nat) : ok_S 147 pc (cd_X11_isBase pc) :=
  (ok_bf (ok_bf (ok_bf (ok_lf pc ok_X11_isBase_7) (ok_lf pc ok_X11_isBase_4)) (ok_lf pc ok_X11_isBase_2)) (ok_bf (ok_lf pc ok_X11_isBase_1) (ok_lf pc ok_X11_isBase_0)))
theorem mo_X11_isBase (pc : Nat) : mo_S (cd_X11_isBase pc) :=
  (mo_bf (mo_bf (mo_bf (mo_bf mo_rr mo_no) (mo_bf mo_cs mo_no)) (mo_bf mo_push mo_no)) (mo_bf (mo_bf mo_push mo_no) (mo_bf mo_ld mo_no)))
theorem ok_X11_isSheet_0 : ok_S 148 0 (sf_ld 0 0 1) := ok_iload_n (by decide +kernel : decode (mb_ 148) 0 = .ok (.iload_n 0, 1)) rfl
theorem ok_X11_isSheet_1 : ok_S 148 1 (sf_push (0, 0) 2) := ok_iconst (by decide +kernel : decode (mb_ 148) 1 = .ok (.iconst 0, 1)) ⟨by decide, by decide⟩
theorem ok_X11_isSheet_2 : ok_S 148 2 (sf_push (0, 3) 3) := ok_iconst (by decide +kernel : decode (mb_ 148) 2 = .ok (.iconst 3, 1)) ⟨by decide, by decide⟩
theorem ok_X11_isSheet_3 : ok_S 148 3 (sf_cs [0, 0, 0] 145 6) := ok_cs mt_145 (by decide +kernel : decode (mb_ 148) 3 = .ok (.invokestatic 92, 3)) tw_262 tw_263 tw_1 (by decide +kernel) (mh_ok rfl) (by decide) (by decide)
theorem ok_X11_isSheet_6 : ok_S 148 6 (sf_rr 0 1) := ok_rr (by decide +kernel : decode (mb_ 148) 6 = .ok (.ireturn, 1)) rfl (so_nz .boolean rfl rfl)
theorem ok_X11_isSheet (pc : Nat) : ok_S 148 pc (cd_X11_isSheet pc) :=
  (ok_bf (ok_bf (ok_bf (ok_lf pc ok_X11_isSheet_6) (ok_lf pc ok_X11_isSheet_3)) (ok_lf pc ok_X11_isSheet_2)) (ok_bf (ok_lf pc ok_X11_isSheet_1) (ok_lf pc ok_X11_isSheet_0)))
theorem mo_X11_isSheet (pc : Nat) : mo_S (cd_X11_isSheet pc) :=
  (mo_bf (mo_bf (mo_bf (mo_bf mo_rr mo_no) (mo_bf mo_cs mo_no)) (mo_bf mo_push mo_no)) (mo_bf (mo_bf mo_push mo_no) (mo_bf mo_ld mo_no)))
theorem ok_X11_isShelf_0 : ok_S 149 0 (sf_ld 0 0 1) := ok_iload_n (by decide +kernel : decode (mb_ 149) 0 = .ok (.iload_n 0, 1)) rfl
theorem ok_X11_isShelf_1 : ok_S 149 1 (sf_push (0, 0) 2) := ok_iconst (by decide +kernel : decode (mb_ 149) 1 = .ok (.iconst 0, 1)) ⟨by decide, by decide⟩
theorem ok_X11_isShelf_2 : ok_S 149 2 (sf_push (0, 3) 3) := ok_iconst (by decide +kernel : decode (mb_ 149) 2 = .ok (.iconst 3, 1)) ⟨by decide, by decide⟩
theorem ok_X11_isShelf_3 : ok_S 149 3 (sf_cs [0, 0, 0] 145 6) := ok_cs mt_145 (by decide +kernel : decode (mb_ 149) 3 = .ok (.invokestatic 92, 3)) tw_262 tw_263 tw_1 (by decide +kernel) (mh_ok rfl) (by decide) (by decide)
theorem ok_X11_isShelf_6 : ok_S 149 6 (sf_rr 0 1) := ok_rr (by decide +kernel : decode (mb_ 149) 6 = .ok (.ireturn, 1)) rfl (so_nz .boolean rfl rfl)
theorem ok_X11_isShelf (pc : Nat) : ok_S 149 pc (cd_X11_isShelf pc) :=
  (ok_bf (ok_bf (ok_bf (ok_lf pc ok_X11_isShelf_6) (ok_lf pc ok_X11_isShelf_3)) (ok_lf pc ok_X11_isShelf_2)) (ok_bf (ok_lf pc ok_X11_isShelf_1) (ok_lf pc ok_X11_isShelf_0)))
theorem mo_X11_isShelf (pc : Nat) : mo_S (cd_X11_isShelf pc) :=
  (mo_bf (mo_bf (mo_bf (mo_bf mo_rr mo_no) (mo_bf mo_cs mo_no)) (mo_bf mo_push mo_no)) (mo_bf (mo_bf mo_push mo_no) (mo_bf mo_ld mo_no)))
theorem ok_X11_isSetOfBases_0 : ok_S 150 0 (sf_ld 0 0 1) := ok_iload_n (by decide +kernel : decode (mb_ 150) 0 = .ok (.iload_n 0, 1)) rfl
theorem ok_X11_isSetOfBases_1 : ok_S 150 1 (sf_if 0 16 4) := ok_if0 (by decide +kernel : decode (mb_ 150) 1 = .ok (.ifCond .eq 15, 3)) (by decide)
theorem ok_X11_isSetOfBases_4 : ok_S 150 4 (sf_ld 0 0 5) := ok_iload_n (by decide +kernel : decode (mb_ 150) 4 = .ok (.iload_n 0, 1)) rfl
theorem ok_X11_isSetOfBases_5 : ok_S 150 5 (sf_push (0, (-131069)) 8) := ok_ldcw (by decide +kernel : decode (mb_ 150) 5 = .ok (.ldc_w 312, 3)) ⟨by decide, by decide⟩ tw_863
theorem ok_X11_isSetOfBases_8 : ok_S 150 8 (sf_i2 mx_and 9) := ok_iand (by decide +kernel : decode (mb_ 150) 8 = .ok (.iand, 1))
theorem ok_X11_isSetOfBases_9 : ok_S 150 9 (sf_if 1 16 12) := ok_if1 (by decide +kernel : decode (mb_ 150) 9 = .ok (.ifCond .ne 7, 3)) (by decide)
theorem ok_X11_isSetOfBases_12 : ok_S 150 12 (sf_push (0, 1) 13) := ok_iconst (by decide +kernel : decode (mb_ 150) 12 = .ok (.iconst 1, 1)) ⟨by decide, by decide⟩
theorem ok_X11_isSetOfBases_13 : ok_S 150 13 (sf_go 17) := ok_goto (by decide +kernel : decode (mb_ 150) 13 = .ok (.goto 4, 3)) (by decide)
theorem ok_X11_isSetOfBases_16 : ok_S 150 16 (sf_push (0, 0) 17) := ok_iconst (by decide +kernel : decode (mb_ 150) 16 = .ok (.iconst 0, 1)) ⟨by decide, by decide⟩
theorem ok_X11_isSetOfBases_17 : ok_S 150 17 (sf_rr 0 1) := ok_rr (by decide +kernel : decode (mb_ 150) 17 = .ok (.ireturn, 1)) rfl (so_nz .boolean rfl rfl)
theorem ok_X11_isSetOfBases (pc : Nat) : ok_S 150 pc (cd_X11_isSetOfBases pc) :=
  (ok_bf (ok_bf (ok_bf (ok_bf (ok_lf pc ok_X11_isSetOfBases_17) (ok_lf pc ok_X11_isSetOfBases_16)) (ok_lf pc ok_X11_isSetOfBases_13)) (ok_bf (ok_lf pc ok_X11_isSetOfBases_12) (ok_lf pc ok_X11_isSetOfBases_9))) (ok_bf (ok_bf (ok_bf (ok_lf pc ok_X11_isSetOfBases_8) (ok_lf pc ok_X11_isSetOfBases_5)) (ok_lf pc ok_X11_isSetOfBases_4)) (ok_bf (ok_lf pc ok_X11_isSetOfBases_1) (ok_lf pc ok_X11_isSetOfBases_0))))
theorem mo_X11_isSetOfBases (pc : Nat) : mo_S (cd_X11_isSetOfBases pc) :=
  (mo_bf (mo_bf (mo_bf (mo_bf (mo_bf mo_rr mo_no) (mo_bf mo_push mo_no)) (mo_bf mo_go mo_no)) (mo_bf (mo_bf mo_push mo_no) (mo_bf mo_if mo_no))) (mo_bf (mo_bf (mo_bf (mo_bf mo_i2 mo_no) (mo_bf mo_push mo_no)) (mo_bf mo_ld mo_no)) (mo_bf (mo_bf mo_if mo_no) (mo_bf mo_ld mo_no))))
theorem ok_X11_baseAt_0 : ok_S 151 0 (sf_ld 0 1 1) := ok_iload_n (by decide +kernel : decode (mb_ 151) 0 = .ok (.iload_n 1, 1)) rfl
theorem ok_X11_baseAt_1 : ok_S 151 1 (sf_st 0 2 2) := ok_istore_n (by decide +kernel : decode (mb_ 151) 1 = .ok (.istore_n 2, 1)) rfl
theorem ok_X11_baseAt_2 : ok_S 151 2 (sf_push (0, 2) 3) := ok_iconst (by decide +kernel : decode (mb_ 151) 2 = .ok (.iconst 2, 1)) ⟨by decide, by decide⟩
theorem ok_X11_baseAt_3 : ok_S 151 3 (sf_st 0 3 4) := ok_istore_n (by decide +kernel : decode (mb_ 151) 3 = .ok (.istore_n 3, 1)) rfl
theorem ok_X11_baseAt_4 : ok_S 151 4 (sf_ld 0 3 5) := ok_iload_n (by decide +kernel : decode (mb_ 151) 4 = .ok (.iload_n 3, 1)) rfl
theorem ok_X11_baseAt_5 : ok_S 151 5 (sf_push (0, 16) 7) := ok_bipush (by decide +kernel : decode (mb_ 151) 5 = .ok (.bipush 16, 2)) ⟨by decide, by decide⟩ (by decide +kernel)
theorem ok_X11_baseAt_7 : ok_S 151 7 (sf_ic 4 36 10) := ok_ic4 (by decide +kernel : decode (mb_ 151) 7 = .ok (.if_icmp .gt 29, 3)) (by decide)
theorem ok_X11_baseAt_10 : ok_S 151 10 (sf_ld 0 0 11) := ok_iload_n (by decide +kernel : decode (mb_ 151) 10 = .ok (.iload_n 0, 1)) rfl
theorem ok_X11_baseAt_11 : ok_S 151 11 (sf_ld 0 3 12) := ok_iload_n (by decide +kernel : decode (mb_ 151) 11 = .ok (.iload_n 3, 1)) rfl
theorem ok_X11_baseAt_12 : ok_S 151 12 (sf_i2 mx_shr 13) := ok_ishr (by decide +kernel : decode (mb_ 151) 12 = .ok (.ishr, 1))
theorem ok_X11_baseAt_13 : ok_S 151 13 (sf_push (0, 1) 14) := ok_iconst (by decide +kernel : decode (mb_ 151) 13 = .ok (.iconst 1, 1)) ⟨by decide, by decide⟩
theorem ok_X11_baseAt_14 : ok_S 151 14 (sf_i2 mx_and 15) := ok_iand (by decide +kernel : decode (mb_ 151) 14 = .ok (.iand, 1))
theorem ok_X11_baseAt_15 : ok_S 151 15 (sf_if 1 21 18) := ok_if1 (by decide +kernel : decode (mb_ 151) 15 = .ok (.ifCond .ne 6, 3)) (by decide)
theorem ok_X11_baseAt_18 : ok_S 151 18 (sf_go 30) := ok_goto (by decide +kernel : decode (mb_ 151) 18 = .ok (.goto 12, 3)) (by decide)
theorem ok_X11_baseAt_21 : ok_S 151 21 (sf_ld 0 2 22) := ok_iload_n (by decide +kernel : decode (mb_ 151) 21 = .ok (.iload_n 2, 1)) rfl
theorem ok_X11_baseAt_22 : ok_S 151 22 (sf_if 1 27 25) := ok_if1 (by decide +kernel : decode (mb_ 151) 22 = .ok (.ifCond .ne 5, 3)) (by decide)
theorem ok_X11_baseAt_25 : ok_S 151 25 (sf_ld 0 3 26) := ok_iload_n (by decide +kernel : decode (mb_ 151) 25 = .ok (.iload_n 3, 1)) rfl
theorem ok_X11_baseAt_26 : ok_S 151 26 (sf_ret 0) := ok_ret0 (by decide +kernel : decode (mb_ 151) 26 = .ok (.ireturn, 1)) rfl
theorem ok_X11_baseAt_27 : ok_S 151 27 (sf_inc 2 (-1) 30) := ok_iinc (by decide +kernel : decode (mb_ 151) 27 = .ok (.iinc 2 (-1), 3))
theorem ok_X11_baseAt_30 : ok_S 151 30 (sf_inc 3 1 33) := ok_iinc (by decide +kernel : decode (mb_ 151) 30 = .ok (.iinc 3 1, 3))
theorem ok_X11_baseAt_33 : ok_S 151 33 (sf_go 4) := ok_goto (by decide +kernel : decode (mb_ 151) 33 = .ok (.goto (-29), 3)) (by decide)
theorem ok_X11_baseAt_36 : ok_S 151 36 (sf_push (0, 0) 37) := ok_iconst (by decide +kernel : decode (mb_ 151) 36 = .ok (.iconst 0, 1)) ⟨by decide, by decide⟩
theorem ok_X11_baseAt_37 : ok_S 151 37 (sf_ret 0) := ok_ret0 (by decide +kernel : decode (mb_ 151) 37 = .ok (.ireturn, 1)) rfl
theorem ok_X11_baseAt (pc : Nat) : ok_S 151 pc (cd_X11_baseAt pc) :=
  (ok_bf (ok_bf (ok_bf (ok_bf (ok_bf (ok_lf pc ok_X11_baseAt_37) (ok_lf pc ok_X11_baseAt_36)) (ok_lf pc ok_X11_baseAt_33)) (ok_bf (ok_bf (ok_lf pc ok_X11_baseAt_30) (ok_lf pc ok_X11_baseAt_27)) (ok_lf pc ok_X11_baseAt_26))) (ok_bf (ok_bf (ok_bf (ok_lf pc ok_X11_baseAt_25) (ok_lf pc ok_X11_baseAt_22)) (ok_lf pc ok_X11_baseAt_21)) (ok_bf (ok_bf (ok_lf pc ok_X11_baseAt_18) (ok_lf pc ok_X11_baseAt_15)) (ok_lf pc ok_X11_baseAt_14)))) (ok_bf (ok_bf (ok_bf (ok_bf (ok_lf pc ok_X11_baseAt_13) (ok_lf pc ok_X11_baseAt_12)) (ok_lf pc ok_X11_baseAt_11)) (ok_bf (ok_bf (ok_lf pc ok_X11_baseAt_10) (ok_lf pc ok_X11_baseAt_7)) (ok_lf pc ok_X11_baseAt_5))) (ok_bf (ok_bf (ok_bf (ok_lf pc ok_X11_baseAt_4) (ok_lf pc ok_X11_baseAt_3)) (ok_lf pc ok_X11_baseAt_2)) (ok_bf (ok_lf pc ok_X11_baseAt_1) (ok_lf pc ok_X11_baseAt_0)))))
theorem mo_X11_baseAt (pc : Nat) : mo_S (cd_X11_baseAt pc) :=
  (mo_bf (mo_bf (mo_bf (mo_bf (mo_bf (mo_bf mo_ret mo_no) (mo_bf mo_push mo_no)) (mo_bf mo_go mo_no)) (mo_bf (mo_bf (mo_bf mo_inc mo_no) (mo_bf mo_inc mo_no)) (mo_bf mo_ret mo_no))) (mo_bf (mo_bf (mo_bf (mo_bf mo_ld mo_no) (mo_bf mo_if mo_no)) (mo_bf mo_ld mo_no)) (mo_bf (mo_bf (mo_bf mo_go mo_no) (mo_bf mo_if mo_no)) (mo_bf mo_i2 mo_no)))) (mo_bf (mo_bf (mo_bf (mo_bf (mo_bf mo_push mo_no) (mo_bf mo_i2 mo_no)) (mo_bf mo_ld mo_no)) (mo_bf (mo_bf (mo_bf mo_ld mo_no) (mo_bf mo_ic mo_no)) (mo_bf mo_push mo_no))) (mo_bf (mo_bf (mo_bf (mo_bf mo_ld mo_no) (mo_bf mo_st mo_no)) (mo_bf mo_push mo_no)) (mo_bf (mo_bf mo_st mo_no) (mo_bf mo_ld mo_no)))))
theorem ok_X11_howLong_0 : ok_S 152 0 (sf_push (0, 1) 1) := ok_iconst (by decide +kernel : decode (mb_ 152) 0 = .ok (.iconst 1, 1)) ⟨by decide, by decide⟩
theorem ok_X11_howLong_1 : ok_S 152 1 (sf_st 0 2 2) := ok_istore_n (by decide +kernel : decode (mb_ 152) 1 = .ok (.istore_n 2, 1)) rfl
theorem ok_X11_howLong_2 : ok_S 152 2 (sf_ld 0 1 3) := ok_iload_n (by decide +kernel : decode (mb_ 152) 2 = .ok (.iload_n 1, 1)) rfl
theorem ok_X11_howLong_3 : ok_S 152 3 (sf_push (0, 2) 4) := ok_iconst (by decide +kernel : decode (mb_ 152) 3 = .ok (.iconst 2, 1)) ⟨by decide, by decide⟩
theorem ok_X11_howLong_4 : ok_S 152 4 (sf_ic 3 11 7) := ok_ic3 (by decide +kernel : decode (mb_ 152) 4 = .ok (.if_icmp .ge 7, 3)) (by decide)
theorem ok_X11_howLong_7 : ok_S 152 7 (sf_push (0, 0) 8) := ok_iconst (by decide +kernel : decode (mb_ 152) 7 = .ok (.iconst 0, 1)) ⟨by decide, by decide⟩
theorem ok_X11_howLong_8 : ok_S 152 8 (sf_go 14) := ok_goto (by decide +kernel : decode (mb_ 152) 8 = .ok (.goto 6, 3)) (by decide)
theorem ok_X11_howLong_11 : ok_S 152 11 (sf_ld 0 0 12) := ok_iload_n (by decide +kernel : decode (mb_ 152) 11 = .ok (.iload_n 0, 1)) rfl
theorem ok_X11_howLong_12 : ok_S 152 12 (sf_ld 0 1 13) := ok_iload_n (by decide +kernel : decode (mb_ 152) 12 = .ok (.iload_n 1, 1)) rfl
theorem ok_X11_howLong_13 : ok_S 152 13 (sf_i2d mx_div 14) := ok_idiv (by decide +kernel : decode (mb_ 152) 13 = .ok (.idiv, 1))
theorem ok_X11_howLong_14 : ok_S 152 14 (sf_st 0 3 15) := ok_istore_n (by decide +kernel : decode (mb_ 152) 14 = .ok (.istore_n 3, 1)) rfl
theorem ok_X11_howLong_15 : ok_S 152 15 (sf_ld 0 3 16) := ok_iload_n (by decide +kernel : decode (mb_ 152) 15 = .ok (.iload_n 3, 1)) rfl
theorem ok_X11_howLong_16 : ok_S 152 16 (sf_if 5 35 19) := ok_if5 (by decide +kernel : decode (mb_ 152) 16 = .ok (.ifCond .le 19, 3)) (by decide)
theorem ok_X11_howLong_19 : ok_S 152 19 (sf_ld 0 2 20) := ok_iload_n (by decide +kernel : decode (mb_ 152) 19 = .ok (.iload_n 2, 1)) rfl
theorem ok_X11_howLong_20 : ok_S 152 20 (sf_push (0, 32) 22) := ok_bipush (by decide +kernel : decode (mb_ 152) 20 = .ok (.bipush 32, 2)) ⟨by decide, by decide⟩ (by decide +kernel)
theorem ok_X11_howLong_22 : ok_S 152 22 (sf_ic 3 35 25) := ok_ic3 (by decide +kernel : decode (mb_ 152) 22 = .ok (.if_icmp .ge 13, 3)) (by decide)
theorem ok_X11_howLong_25 : ok_S 152 25 (sf_ld 0 3 26) := ok_iload_n (by decide +kernel : decode (mb_ 152) 25 = .ok (.iload_n 3, 1)) rfl
theorem ok_X11_howLong_26 : ok_S 152 26 (sf_ld 0 1 27) := ok_iload_n (by decide +kernel : decode (mb_ 152) 26 = .ok (.iload_n 1, 1)) rfl
theorem ok_X11_howLong_27 : ok_S 152 27 (sf_i2d mx_div 28) := ok_idiv (by decide +kernel : decode (mb_ 152) 27 = .ok (.idiv, 1))
theorem ok_X11_howLong_28 : ok_S 152 28 (sf_st 0 3 29) := ok_istore_n (by decide +kernel : decode (mb_ 152) 28 = .ok (.istore_n 3, 1)) rfl
theorem ok_X11_howLong_29 : ok_S 152 29 (sf_inc 2 1 32) := ok_iinc (by decide +kernel : decode (mb_ 152) 29 = .ok (.iinc 2 1, 3))
theorem ok_X11_howLong_32 : ok_S 152 32 (sf_go 15) := ok_goto (by decide +kernel : decode (mb_ 152) 32 = .ok (.goto (-17), 3)) (by decide)
theorem ok_X11_howLong_35 : ok_S 152 35 (sf_ld 0 2 36) := ok_iload_n (by decide +kernel : decode (mb_ 152) 35 = .ok (.iload_n 2, 1)) rfl
theorem ok_X11_howLong_36 : ok_S 152 36 (sf_ret 0) := ok_ret0 (by decide +kernel : decode (mb_ 152) 36 = .ok (.ireturn, 1)) rfl
theorem ok_X11_howLong (pc : Nat) : ok_S 152 pc (cd_X11_howLong pc) :=
  (ok_bf (ok_bf (ok_bf (ok_bf (ok_bf (ok_lf pc ok_X11_howLong_36) (ok_lf pc ok_X11_howLong_35)) (ok_lf pc ok_X11_howLong_32)) (ok_bf (ok_bf (ok_lf pc ok_X11_howLong_29) (ok_lf pc ok_X11_howLong_28)) (ok_lf pc ok_X11_howLong_27))) (ok_bf (ok_bf (ok_bf (ok_lf pc ok_X11_howLong_26) (ok_lf pc ok_X11_howLong_25)) (ok_lf pc ok_X11_howLong_22)) (ok_bf (ok_bf (ok_lf pc ok_X11_howLong_20) (ok_lf pc ok_X11_howLong_19)) (ok_lf pc ok_X11_howLong_16)))) (ok_bf (ok_bf (ok_bf (ok_bf (ok_lf pc ok_X11_howLong_15) (ok_lf pc ok_X11_howLong_14)) (ok_lf pc ok_X11_howLong_13)) (ok_bf (ok_bf (ok_lf pc ok_X11_howLong_12) (ok_lf pc ok_X11_howLong_11)) (ok_lf pc ok_X11_howLong_8))) (ok_bf (ok_bf (ok_bf (ok_lf pc ok_X11_howLong_7) (ok_lf pc ok_X11_howLong_4)) (ok_lf pc ok_X11_howLong_3)) (ok_bf (ok_bf (ok_lf pc ok_X11_howLong_2) (ok_lf pc ok_X11_howLong_1)) (ok_lf pc ok_X11_howLong_0)))))
theorem mo_X11_howLong (pc : Nat) : mo_S (cd_X11_howLong pc) :=
  (mo_bf (mo_bf (mo_bf (mo_bf (mo_bf (mo_bf mo_ret mo_no) (mo_bf mo_ld mo_no)) (mo_bf mo_go mo_no)) (mo_bf (mo_bf (mo_bf mo_inc mo_no) (mo_bf mo_st mo_no)) (mo_bf mo_i2d mo_no))) (mo_bf (mo_bf (mo_bf (mo_bf mo_ld mo_no) (mo_bf mo_ld mo_no)) (mo_bf mo_ic mo_no)) (mo_bf (mo_bf (mo_bf mo_push mo_no) (mo_bf mo_ld mo_no)) (mo_bf mo_if mo_no)))) (mo_bf (mo_bf (mo_bf (mo_bf (mo_bf mo_ld mo_no) (mo_bf mo_st mo_no)) (mo_bf mo_i2d mo_no)) (mo_bf (mo_bf (mo_bf mo_ld mo_no) (mo_bf mo_ld mo_no)) (mo_bf mo_go mo_no))) (mo_bf (mo_bf (mo_bf (mo_bf mo_push mo_no) (mo_bf mo_ic mo_no)) (mo_bf mo_push mo_no)) (mo_bf (mo_bf (mo_bf mo_ld mo_no) (mo_bf mo_st mo_no)) (mo_bf mo_push mo_no)))))
theorem ok_X11_sortHolds_0 : ok_S 153 0 (sf_ld 0 0 1) := ok_iload_n (by decide +kernel : decode (mb_ 153) 0 = .ok (.iload_n 0, 1)) rfl
theorem ok_X11_sortHolds_1 : ok_S 153 1 (sf_sw [(0, 28), (1, 39), (2, 50)] 63) := ok_tsw (by decide +kernel : decode (mb_ 153) 1 = .ok (.tableswitch 62 0 2 #[27, 38, 49], 27)) (by decide) (by decide) (by decide) (by decide)
theorem ok_X11_sortHolds_28 : ok_S 153 28 (sf_ld 0 1 29) := ok_iload_n (by decide +kernel : decode (mb_ 153) 28 = .ok (.iload_n 1, 1)) rfl
theorem ok_X11_sortHolds_29 : ok_S 153 29 (sf_ld 0 2 30) := ok_iload_n (by decide +kernel : decode (mb_ 153) 29 = .ok (.iload_n 2, 1)) rfl
theorem ok_X11_sortHolds_30 : ok_S 153 30 (sf_ic 1 37 33) := ok_ic1 (by decide +kernel : decode (mb_ 153) 30 = .ok (.if_icmp .ne 7, 3)) (by decide)
theorem ok_X11_sortHolds_33 : ok_S 153 33 (sf_push (0, 1) 34) := ok_iconst (by decide +kernel : decode (mb_ 153) 33 = .ok (.iconst 1, 1)) ⟨by decide, by decide⟩
theorem ok_X11_sortHolds_34 : ok_S 153 34 (sf_go 38) := ok_goto (by decide +kernel : decode (mb_ 153) 34 = .ok (.goto 4, 3)) (by decide)
theorem ok_X11_sortHolds_37 : ok_S 153 37 (sf_push (0, 0) 38) := ok_iconst (by decide +kernel : decode (mb_ 153) 37 = .ok (.iconst 0, 1)) ⟨by decide, by decide⟩
theorem ok_X11_sortHolds_38 : ok_S 153 38 (sf_rr 0 1) := ok_rr (by decide +kernel : decode (mb_ 153) 38 = .ok (.ireturn, 1)) rfl (so_nz .boolean rfl rfl)
theorem ok_X11_sortHolds_39 : ok_S 153 39 (sf_ld 0 1 40) := ok_iload_n (by decide +kernel : decode (mb_ 153) 39 = .ok (.iload_n 1, 1)) rfl
theorem ok_X11_sortHolds_40 : ok_S 153 40 (sf_ld 0 2 41) := ok_iload_n (by decide +kernel : decode (mb_ 153) 40 = .ok (.iload_n 2, 1)) rfl
theorem ok_X11_sortHolds_41 : ok_S 153 41 (sf_ic 5 48 44) := ok_ic5 (by decide +kernel : decode (mb_ 153) 41 = .ok (.if_icmp .le 7, 3)) (by decide)
theorem ok_X11_sortHolds_44 : ok_S 153 44 (sf_push (0, 1) 45) := ok_iconst (by decide +kernel : decode (mb_ 153) 44 = .ok (.iconst 1, 1)) ⟨by decide, by decide⟩
theorem ok_X11_sortHolds_45 : ok_S 153 45 (sf_go 49) := ok_goto (by decide +kernel : decode (mb_ 153) 45 = .ok (.goto 4, 3)) (by decide)
theorem ok_X11_sortHolds_48 : ok_S 153 48 (sf_push (0, 0) 49) := ok_iconst (by decide +kernel : decode (mb_ 153) 48 = .ok (.iconst 0, 1)) ⟨by decide, by decide⟩
theorem ok_X11_sortHolds_49 : ok_S 153 49 (sf_rr 0 1) := ok_rr (by decide +kernel : decode (mb_ 153) 49 = .ok (.ireturn, 1)) rfl (so_nz .boolean rfl rfl)
theorem ok_X11_sortHolds_50 : ok_S 153 50 (sf_ld 0 1 51) := ok_iload_n (by decide +kernel : decode (mb_ 153) 50 = .ok (.iload_n 1, 1)) rfl
theorem ok_X11_sortHolds_51 : ok_S 153 51 (sf_ld 0 2 52) := ok_iload_n (by decide +kernel : decode (mb_ 153) 51 = .ok (.iload_n 2, 1)) rfl
theorem ok_X11_sortHolds_52 : ok_S 153 52 (sf_i2 mx_add 53) := ok_iadd (by decide +kernel : decode (mb_ 153) 52 = .ok (.iadd, 1))
theorem ok_X11_sortHolds_53 : ok_S 153 53 (sf_ld 0 3 54) := ok_iload_n (by decide +kernel : decode (mb_ 153) 53 = .ok (.iload_n 3, 1)) rfl
theorem ok_X11_sortHolds_54 : ok_S 153 54 (sf_ic 1 61 57) := ok_ic1 (by decide +kernel : decode (mb_ 153) 54 = .ok (.if_icmp .ne 7, 3)) (by decide)
theorem ok_X11_sortHolds_57 : ok_S 153 57 (sf_push (0, 1) 58) := ok_iconst (by decide +kernel : decode (mb_ 153) 57 = .ok (.iconst 1, 1)) ⟨by decide, by decide⟩
theorem ok_X11_sortHolds_58 : ok_S 153 58 (sf_go 62) := ok_goto (by decide +kernel : decode (mb_ 153) 58 = .ok (.goto 4, 3)) (by decide)
theorem ok_X11_sortHolds_61 : ok_S 153 61 (sf_push (0, 0) 62) := ok_iconst (by decide +kernel : decode (mb_ 153) 61 = .ok (.iconst 0, 1)) ⟨by decide, by decide⟩
theorem ok_X11_sortHolds_62 : ok_S 153 62 (sf_rr 0 1) := ok_rr (by decide +kernel : decode (mb_ 153) 62 = .ok (.ireturn, 1)) rfl (so_nz .boolean rfl rfl)
theorem ok_X11_sortHolds_63 : ok_S 153 63 (sf_ld 0 3 64) := ok_iload_n (by decide +kernel : decode (mb_ 153) 63 = .ok (.iload_n 3, 1)) rfl
theorem ok_X11_sortHolds_64 : ok_S 153 64 (sf_if 0 77 67) := ok_if0 (by decide +kernel : decode (mb_ 153) 64 = .ok (.ifCond .eq 13, 3)) (by decide)
theorem ok_X11_sortHolds_67 : ok_S 153 67 (sf_ld 0 1 68) := ok_iload_n (by decide +kernel : decode (mb_ 153) 67 = .ok (.iload_n 1, 1)) rfl
theorem ok_X11_sortHolds_68 : ok_S 153 68 (sf_ld 0 3 69) := ok_iload_n (by decide +kernel : decode (mb_ 153) 68 = .ok (.iload_n 3, 1)) rfl
theorem ok_X11_sortHolds_69 : ok_S 153 69 (sf_i2d mx_rem 70) := ok_irem (by decide +kernel : decode (mb_ 153) 69 = .ok (.irem, 1))
theorem ok_X11_sortHolds_70 : ok_S 153 70 (sf_if 1 77 73) := ok_if1 (by decide +kernel : decode (mb_ 153) 70 = .ok (.ifCond .ne 7, 3)) (by decide)
theorem ok_X11_sortHolds_73 : ok_S 153 73 (sf_push (0, 1) 74) := ok_iconst (by decide +kernel : decode (mb_ 153) 73 = .ok (.iconst 1, 1)) ⟨by decide, by decide⟩
theorem ok_X11_sortHolds_74 : ok_S 153 74 (sf_go 78) := ok_goto (by decide +kernel : decode (mb_ 153) 74 = .ok (.goto 4, 3)) (by decide)
theorem ok_X11_sortHolds_77 : ok_S 153 77 (sf_push (0, 0) 78) := ok_iconst (by decide +kernel : decode (mb_ 153) 77 = .ok (.iconst 0, 1)) ⟨by decide, by decide⟩
theorem ok_X11_sortHolds_78 : ok_S 153 78 (sf_rr 0 1) := ok_rr (by decide +kernel : decode (mb_ 153) 78 = .ok (.ireturn, 1)) rfl (so_nz .boolean rfl rfl)
theorem ok_X11_sortHolds (pc : Nat) : ok_S 153 pc (cd_X11_sortHolds pc) :=
  (ok_bf (ok_bf (ok_bf (ok_bf (ok_bf (ok_bf (ok_lf pc ok_X11_sortHolds_78) (ok_lf pc ok_X11_sortHolds_77)) (ok_lf pc ok_X11_sortHolds_74)) (ok_bf (ok_lf pc ok_X11_sortHolds_73) (ok_lf pc ok_X11_sortHolds_70))) (ok_bf (ok_bf (ok_lf pc ok_X11_sortHolds_69) (ok_lf pc ok_X11_sortHolds_68)) (ok_bf (ok_lf pc ok_X11_sortHolds_67) (ok_lf pc ok_X11_sortHolds_64)))) (ok_bf (ok_bf (ok_bf (ok_bf (ok_lf pc ok_X11_sortHolds_63) (ok_lf pc ok_X11_sortHolds_62)) (ok_lf pc ok_X11_sortHolds_61)) (ok_bf (ok_lf pc ok_X11_sortHolds_58) (ok_lf pc ok_X11_sortHolds_57))) (ok_bf (ok_bf (ok_lf pc ok_X11_sortHolds_54) (ok_lf pc ok_X11_sortHolds_53)) (ok_bf (ok_lf pc ok_X11_sortHolds_52) (ok_lf pc ok_X11_sortHolds_51))))) (ok_bf (ok_bf (ok_bf (ok_bf (ok_bf (ok_lf pc ok_X11_sortHolds_50) (ok_lf pc ok_X11_sortHolds_49)) (ok_lf pc ok_X11_sortHolds_48)) (ok_bf (ok_lf pc ok_X11_sortHolds_45) (ok_lf pc ok_X11_sortHolds_44))) (ok_bf (ok_bf (ok_lf pc ok_X11_sortHolds_41) (ok_lf pc ok_X11_sortHolds_40)) (ok_bf (ok_lf pc ok_X11_sortHolds_39) (ok_lf pc ok_X11_sortHolds_38)))) (ok_bf (ok_bf (ok_bf (ok_lf pc ok_X11_sortHolds_37) (ok_lf pc ok_X11_sortHolds_34)) (ok_bf (ok_lf pc ok_X11_sortHolds_33) (ok_lf pc ok_X11_sortHolds_30))) (ok_bf (ok_bf (ok_lf pc ok_X11_sortHolds_29) (ok_lf pc ok_X11_sortHolds_28)) (ok_bf (ok_lf pc ok_X11_sortHolds_1) (ok_lf pc ok_X11_sortHolds_0))))))
theorem mo_X11_sortHolds (pc : Nat) : mo_S (cd_X11_sortHolds pc) :=
  (mo_bf (mo_bf (mo_bf (mo_bf (mo_bf (mo_bf (mo_bf mo_rr mo_no) (mo_bf mo_push mo_no)) (mo_bf mo_go mo_no)) (mo_bf (mo_bf mo_push mo_no) (mo_bf mo_if mo_no))) (mo_bf (mo_bf (mo_bf mo_i2d mo_no) (mo_bf mo_ld mo_no)) (mo_bf (mo_bf mo_ld mo_no) (mo_bf mo_if mo_no)))) (mo_bf (mo_bf (mo_bf (mo_bf (mo_bf mo_ld mo_no) (mo_bf mo_rr mo_no)) (mo_bf mo_push mo_no)) (mo_bf (mo_bf mo_go mo_no) (mo_bf mo_push mo_no))) (mo_bf (mo_bf (mo_bf mo_ic mo_no) (mo_bf mo_ld mo_no)) (mo_bf (mo_bf mo_i2 mo_no) (mo_bf mo_ld mo_no))))) (mo_bf (mo_bf (mo_bf (mo_bf (mo_bf (mo_bf mo_ld mo_no) (mo_bf mo_rr mo_no)) (mo_bf mo_push mo_no)) (mo_bf (mo_bf mo_go mo_no) (mo_bf mo_push mo_no))) (mo_bf (mo_bf (mo_bf mo_ic mo_no) (mo_bf mo_ld mo_no)) (mo_bf (mo_bf mo_ld mo_no) (mo_bf mo_rr mo_no)))) (mo_bf (mo_bf (mo_bf (mo_bf mo_push mo_no) (mo_bf mo_go mo_no)) (mo_bf (mo_bf mo_push mo_no) (mo_bf mo_ic mo_no))) (mo_bf (mo_bf (mo_bf mo_ld mo_no) (mo_bf mo_ld mo_no)) (mo_bf (mo_bf mo_sw mo_no) (mo_bf mo_ld mo_no))))))
