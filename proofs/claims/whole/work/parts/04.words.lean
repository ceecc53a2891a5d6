/-! PRINTED (gen_names.py): each word of the tables -/
theorem tw_0 : (Jvm.Cond.initialized "RoomNumbersLaw") ∈ tb_g := tb_c1 0 rfl rfl
theorem tw_1 : (Jvm.Cond.initialized "RoomNumbers") ∈ tb_g := tb_c1 1 rfl rfl
theorem tw_2 : (Jvm.Cond.initialized "RoomNumbers$Finder") ∈ tb_g := tb_c1 2 rfl rfl
theorem tw_3 : (Jvm.Cond.initialized "RoomNumbers$Valley") ∈ tb_g := tb_c1 3 rfl rfl
theorem tw_4 : (Jvm.Cond.initialized "java/util/Arrays") ∈ tb_g := tb_c1 4 rfl rfl
theorem tw_5 : (Jvm.Cond.initialized "RoomNumbers$Teller") ∈ tb_g := tb_c1 5 rfl rfl
theorem tw_6 : (Jvm.Cond.initialized "RoomNumbers$Trace") ∈ tb_g := tb_c1 6 rfl rfl
theorem tw_7 : (Jvm.Cond.initialized "RoomNumbersModel") ∈ tb_g := tb_c1 7 rfl rfl
theorem tw_8 : (Jvm.Cond.initialized "java/lang/Math") ∈ tb_g := tb_c1 8 rfl rfl
theorem tw_9 : (Jvm.Cond.initialized "java/lang/String") ∈ tb_g := tb_c1 9 rfl rfl
theorem tw_10 : (Jvm.Cond.initialized "java/lang/StringLatin1") ∈ tb_g := tb_c1 10 rfl rfl
theorem tw_11 : (Jvm.Cond.initialized "jdk/internal/util/Preconditions") ∈ tb_g := tb_c1 11 rfl rfl
theorem tw_12 : (Jvm.Cond.initialized "java/lang/StringUTF16") ∈ tb_g := tb_c1 12 rfl rfl
theorem tw_13 : (Jvm.Cond.initialized "java/lang/System") ∈ tb_g := tb_c1 13 rfl rfl
theorem tw_14 : (Jvm.Cond.initialized "RoomNumbers$Note") ∈ tb_g := tb_c1 14 rfl rfl
theorem tw_15 : (Jvm.Cond.initialized "RoomNumbers$Strokes") ∈ tb_g := tb_c1 15 rfl rfl
theorem tw_16 : (Jvm.Cond.initialized "RoomNumbers$Broken") ∈ tb_g := tb_c1 16 rfl rfl
theorem tw_17 : (Jvm.Cond.initialized "RoomNumbers$Left") ∈ tb_g := tb_c1 17 rfl rfl
theorem tw_18 : (Jvm.Cond.initialized "RoomNumbers$Turned") ∈ tb_g := tb_c1 18 rfl rfl
theorem tw_19 : (Jvm.Cond.initialized "RoomNumbers$Debt") ∈ tb_g := tb_c1 19 rfl rfl
theorem tw_20 : (Jvm.Cond.initialized "java/lang/Integer") ∈ tb_g := tb_c1 20 rfl rfl
theorem tw_21 : (Jvm.Cond.initialized "RoomNumbers$SheetRow") ∈ tb_g := tb_c1 21 rfl rfl
theorem tw_22 : (Jvm.Cond.classLink "RoomNumbersLaw" (7 : Nat) "RoomNumbers") ∈ tb_g := tb_c1 22 rfl rfl
theorem tw_23 : (Jvm.Cond.instantiable "RoomNumbers" (17 : Nat)) ∈ tb_g := tb_c1 23 rfl rfl
theorem tw_24 : (Jvm.Cond.methodLink "RoomNumbersLaw" (9 : Nat) ({ cls := "RoomNumbers", name := "<init>", desc := "()V" } : Jvm.MethodName)) ∈ tb_g := tb_c1 24 rfl rfl
theorem tw_25 : (Jvm.Cond.instanceMethod ({ cls := "RoomNumbers", name := "<init>", desc := "()V" } : Jvm.MethodName)) ∈ tb_g := tb_c1 25 rfl rfl
theorem tw_26 : (Jvm.Cond.code ({ cls := "RoomNumbers", name := "<init>", desc := "()V" } : Jvm.MethodName) prog_1_method_1_code (1 : Nat) (Option.none : Option Jvm.ClassFile.FieldType)) ∈ tb_g := tb_c1 26 rfl rfl
theorem tw_27 : (Jvm.Cond.methodLink "RoomNumbers" (1 : Nat) ({ cls := "java/lang/Object", name := "<init>", desc := "()V" } : Jvm.MethodName)) ∈ tb_g := tb_c1 27 rfl rfl
theorem tw_28 : (Jvm.Cond.instanceMethod ({ cls := "java/lang/Object", name := "<init>", desc := "()V" } : Jvm.MethodName)) ∈ tb_g := tb_c1 28 rfl rfl
theorem tw_29 : (Jvm.Cond.code ({ cls := "java/lang/Object", name := "<init>", desc := "()V" } : Jvm.MethodName) object_method_1_code (1 : Nat) (Option.none : Option Jvm.ClassFile.FieldType)) ∈ tb_g := tb_c1 29 rfl rfl
theorem tw_30 : (Jvm.Cond.classLink "RoomNumbers" (17 : Nat) "RoomNumbers$Finder") ∈ tb_g := tb_c1 30 rfl rfl
theorem tw_31 : (Jvm.Cond.instantiable "RoomNumbers$Finder" (16 : Nat)) ∈ tb_g := tb_c1 31 rfl rfl
theorem tw_32 : (Jvm.Cond.methodLink "RoomNumbers" (19 : Nat) ({ cls := "RoomNumbers$Finder", name := "<init>", desc := "()V" } : Jvm.MethodName)) ∈ tb_g := tb_c1 32 rfl rfl
theorem tw_33 : (Jvm.Cond.instanceMethod ({ cls := "RoomNumbers$Finder", name := "<init>", desc := "()V" } : Jvm.MethodName)) ∈ tb_g := tb_c1 33 rfl rfl
theorem tw_34 : (Jvm.Cond.code ({ cls := "RoomNumbers$Finder", name := "<init>", desc := "()V" } : Jvm.MethodName) prog_4_method_1_code (1 : Nat) (Option.none : Option Jvm.ClassFile.FieldType)) ∈ tb_g := tb_c1 34 rfl rfl
theorem tw_35 : (Jvm.Cond.methodLink "RoomNumbers$Finder" (3 : Nat) ({ cls := "java/lang/Object", name := "<init>", desc := "()V" } : Jvm.MethodName)) ∈ tb_g := tb_c1 35 rfl rfl
theorem tw_36 : (Jvm.Cond.classLink "RoomNumbers$Finder" (9 : Nat) "RoomNumbers$Valley") ∈ tb_g := tb_c1 36 rfl rfl
theorem tw_37 : (Jvm.Cond.instantiable "RoomNumbers$Valley" (7 : Nat)) ∈ tb_g := tb_c1 37 rfl rfl
theorem tw_38 : (Jvm.Cond.methodLink "RoomNumbers$Finder" (11 : Nat) ({ cls := "RoomNumbers$Valley", name := "<init>", desc := "()V" } : Jvm.MethodName)) ∈ tb_g := tb_c1 38 rfl rfl
theorem tw_39 : (Jvm.Cond.instanceMethod ({ cls := "RoomNumbers$Valley", name := "<init>", desc := "()V" } : Jvm.MethodName)) ∈ tb_g := tb_c1 39 rfl rfl
theorem tw_40 : (Jvm.Cond.code ({ cls := "RoomNumbers$Valley", name := "<init>", desc := "()V" } : Jvm.MethodName) prog_12_method_1_code (1 : Nat) (Option.none : Option Jvm.ClassFile.FieldType)) ∈ tb_g := tb_c1 40 rfl rfl
theorem tw_41 : (Jvm.Cond.methodLink "RoomNumbers$Valley" (3 : Nat) ({ cls := "java/lang/Object", name := "<init>", desc := "()V" } : Jvm.MethodName)) ∈ tb_g := tb_c1 41 rfl rfl
theorem tw_42 : (Jvm.Cond.classLink "RoomNumbers$Valley" (31 : Nat) "RoomNumbers$Note") ∈ tb_g := tb_c1 42 rfl rfl
theorem tw_43 : (Jvm.Cond.arrayOver (Jvm.ClassFile.FieldType.object "RoomNumbers$Note")) ∈ lw_tbl := tb_l1 (List.mem_of_getElem? (i := 43) rfl)
theorem tw_44 : (Jvm.Cond.methodLink "RoomNumbers$Valley" (37 : Nat) ({ cls := "java/util/Arrays", name := "fill", desc := "([II)V" } : Jvm.MethodName)) ∈ tb_g := tb_c1 44 rfl rfl
theorem tw_45 : (Jvm.Cond.static ({ cls := "java/util/Arrays", name := "fill", desc := "([II)V" } : Jvm.MethodName)) ∈ tb_g := tb_c1 45 rfl rfl
theorem tw_46 : (Jvm.Cond.code ({ cls := "java/util/Arrays", name := "fill", desc := "([II)V" } : Jvm.MethodName) prog_22_method_103_code (4 : Nat) (Option.none : Option Jvm.ClassFile.FieldType)) ∈ tb_g := tb_c1 46 rfl rfl
theorem tw_47 : (Jvm.Cond.fieldLink "RoomNumbers$Valley" (9 : Nat) "RoomNumbers$Valley" "least" "[I") ∈ tb_g := tb_c1 47 rfl rfl
theorem tw_48 : (Jvm.Cond.fieldLink "RoomNumbers" (124 : Nat) "RoomNumbers$Valley" "least" "[I") ∈ tb_g := tb_c1 48 rfl rfl
theorem tw_49 : (Jvm.Cond.fieldLink "RoomNumbers$Valley" (15 : Nat) "RoomNumbers$Valley" "most" "[I") ∈ tb_g := tb_c1 49 rfl rfl
theorem tw_50 : (Jvm.Cond.fieldLink "RoomNumbers" (127 : Nat) "RoomNumbers$Valley" "most" "[I") ∈ tb_g := tb_c1 50 rfl rfl
theorem tw_51 : (Jvm.Cond.fieldLink "RoomNumbers$Valley" (18 : Nat) "RoomNumbers$Valley" "lines" "[I") ∈ tb_g := tb_c1 51 rfl rfl
theorem tw_52 : (Jvm.Cond.fieldLink "RoomNumbers" (178 : Nat) "RoomNumbers$Valley" "lines" "[I") ∈ tb_g := tb_c1 52 rfl rfl
theorem tw_53 : (Jvm.Cond.fieldLink "RoomNumbers$Finder" (158 : Nat) "RoomNumbers$Valley" "lines" "[I") ∈ tb_g := tb_c1 53 rfl rfl
theorem tw_54 : (Jvm.Cond.fieldLink "RoomNumbers$Valley" (21 : Nat) "RoomNumbers$Valley" "noteCount" "I") ∈ tb_g := tb_c1 54 rfl rfl
theorem tw_55 : (Jvm.Cond.fieldLink "RoomNumbers" (110 : Nat) "RoomNumbers$Valley" "noteCount" "I") ∈ tb_g := tb_c1 55 rfl rfl
theorem tw_56 : (Jvm.Cond.fieldLink "RoomNumbers$Teller" (97 : Nat) "RoomNumbers$Valley" "noteCount" "I") ∈ tb_g := tb_c1 56 rfl rfl
theorem tw_57 : (Jvm.Cond.fieldLink "RoomNumbers$Finder" (93 : Nat) "RoomNumbers$Valley" "noteCount" "I") ∈ tb_g := tb_c1 57 rfl rfl
theorem tw_58 : (Jvm.Cond.fieldLink "RoomNumbers$Valley" (25 : Nat) "RoomNumbers$Valley" "lineCount" "I") ∈ tb_g := tb_c1 58 rfl rfl
theorem tw_59 : (Jvm.Cond.fieldLink "RoomNumbers$Teller" (125 : Nat) "RoomNumbers$Valley" "lineCount" "I") ∈ tb_g := tb_c1 59 rfl rfl
theorem tw_60 : (Jvm.Cond.fieldLink "RoomNumbers$Finder" (145 : Nat) "RoomNumbers$Valley" "lineCount" "I") ∈ tb_g := tb_c1 60 rfl rfl
theorem tw_61 : (Jvm.Cond.fieldLink "RoomNumbers" (171 : Nat) "RoomNumbers$Valley" "lineCount" "I") ∈ tb_g := tb_c1 61 rfl rfl
theorem tw_62 : (Jvm.Cond.fieldLink "RoomNumbers$Valley" (28 : Nat) "RoomNumbers$Valley" "version" "I") ∈ tb_g := tb_c1 62 rfl rfl
theorem tw_63 : (Jvm.Cond.fieldLink "RoomNumbers$Finder" (92 : Nat) "RoomNumbers$Valley" "version" "I") ∈ tb_g := tb_c1 63 rfl rfl
theorem tw_64 : (Jvm.Cond.fieldLink "RoomNumbers" (160 : Nat) "RoomNumbers$Valley" "version" "I") ∈ tb_g := tb_c1 64 rfl rfl
theorem tw_65 : (Jvm.Cond.fieldLink "RoomNumbers$Valley" (33 : Nat) "RoomNumbers$Valley" "notes" "[LRoomNumbers$Note;") ∈ tb_g := tb_c1 65 rfl rfl
theorem tw_66 : (Jvm.Cond.laysFinal "RoomNumbers$Valley" "RoomNumbers$Valley" "least" "[I") ∈ tb_g := tb_c1 66 rfl rfl
theorem tw_68 : (Jvm.Cond.laysFinal "RoomNumbers$Valley" "RoomNumbers$Valley" "most" "[I") ∈ tb_g := tb_c1 68 rfl rfl
theorem tw_70 : (Jvm.Cond.laysFinal "RoomNumbers$Valley" "RoomNumbers$Valley" "lines" "[I") ∈ tb_g := tb_c1 70 rfl rfl
theorem tw_72 : (Jvm.Cond.lays "RoomNumbers$Valley" "RoomNumbers$Valley" "noteCount" "I") ∈ tb_g := tb_c1 72 rfl rfl
theorem tw_74 : (Jvm.Cond.lays "RoomNumbers$Valley" "RoomNumbers$Valley" "lineCount" "I") ∈ tb_g := tb_c1 74 rfl rfl
theorem tw_76 : (Jvm.Cond.lays "RoomNumbers$Valley" "RoomNumbers$Valley" "version" "I") ∈ tb_g := tb_c1 76 rfl rfl
theorem tw_78 : (Jvm.Cond.laysFinal "RoomNumbers$Valley" "RoomNumbers$Valley" "notes" "[LRoomNumbers$Note;") ∈ tb_g := tb_c1 78 rfl rfl
theorem tw_80 : (Jvm.Cond.superclass "RoomNumbers$Valley" "java/lang/Object") ∈ tb_g := tb_c1 80 rfl rfl
theorem tw_81 : (Jvm.Cond.arrayClass Jvm.ClassFile.FieldType.int) ∈ tb_g := tb_c1 81 rfl rfl
theorem tw_82 : (Jvm.Cond.fieldLink "RoomNumbers$Finder" (12 : Nat) "RoomNumbers$Finder" "valley" "LRoomNumbers$Valley;") ∈ tb_g := tb_c1 82 rfl rfl
theorem tw_83 : (Jvm.Cond.fieldLink "RoomNumbers" (24 : Nat) "RoomNumbers$Finder" "valley" "LRoomNumbers$Valley;") ∈ tb_g := tb_c1 83 rfl rfl
theorem tw_84 : (Jvm.Cond.fieldLink "RoomNumbers$Finder" (18 : Nat) "RoomNumbers$Finder" "bases" "[I") ∈ tb_g := tb_c1 84 rfl rfl
theorem tw_85 : (Jvm.Cond.fieldLink "RoomNumbers" (190 : Nat) "RoomNumbers$Finder" "bases" "[I") ∈ tb_g := tb_c1 85 rfl rfl
theorem tw_86 : (Jvm.Cond.fieldLink "RoomNumbers$Finder" (22 : Nat) "RoomNumbers$Finder" "mendNote" "I") ∈ tb_g := tb_c1 86 rfl rfl
theorem tw_87 : (Jvm.Cond.fieldLink "RoomNumbers" (216 : Nat) "RoomNumbers$Finder" "mendNote" "I") ∈ tb_g := tb_c1 87 rfl rfl
theorem tw_88 : (Jvm.Cond.fieldLink "RoomNumbers$Finder" (26 : Nat) "RoomNumbers$Finder" "mendPlace" "I") ∈ tb_g := tb_c1 88 rfl rfl
theorem tw_89 : (Jvm.Cond.fieldLink "RoomNumbers" (219 : Nat) "RoomNumbers$Finder" "mendPlace" "I") ∈ tb_g := tb_c1 89 rfl rfl
theorem tw_90 : (Jvm.Cond.fieldLink "RoomNumbers$Finder" (29 : Nat) "RoomNumbers$Finder" "mendSign" "I") ∈ tb_g := tb_c1 90 rfl rfl
theorem tw_91 : (Jvm.Cond.fieldLink "RoomNumbers" (222 : Nat) "RoomNumbers$Finder" "mendSign" "I") ∈ tb_g := tb_c1 91 rfl rfl
theorem tw_92 : (Jvm.Cond.fieldLink "RoomNumbers$Finder" (32 : Nat) "RoomNumbers$Finder" "evenings" "[I") ∈ tb_g := tb_c1 92 rfl rfl
theorem tw_93 : (Jvm.Cond.fieldLink "RoomNumbers$Finder" (35 : Nat) "RoomNumbers$Finder" "cans" "[I") ∈ tb_g := tb_c1 93 rfl rfl
theorem tw_94 : (Jvm.Cond.fieldLink "RoomNumbers$Finder" (38 : Nat) "RoomNumbers$Finder" "worths" "[I") ∈ tb_g := tb_c1 94 rfl rfl
theorem tw_95 : (Jvm.Cond.fieldLink "RoomNumbers$Finder" (41 : Nat) "RoomNumbers$Finder" "touched" "[I") ∈ tb_g := tb_c1 95 rfl rfl
theorem tw_96 : (Jvm.Cond.fieldLink "RoomNumbers$Finder" (44 : Nat) "RoomNumbers$Finder" "limits" "[I") ∈ tb_g := tb_c1 96 rfl rfl
theorem tw_97 : (Jvm.Cond.fieldLink "RoomNumbers$Finder" (47 : Nat) "RoomNumbers$Finder" "saved" "[I") ∈ tb_g := tb_c1 97 rfl rfl
theorem tw_98 : (Jvm.Cond.fieldLink "RoomNumbers$Finder" (50 : Nat) "RoomNumbers$Finder" "thirds" "[I") ∈ tb_g := tb_c1 98 rfl rfl
theorem tw_99 : (Jvm.Cond.fieldLink "RoomNumbers$Finder" (53 : Nat) "RoomNumbers$Finder" "seen" "[I") ∈ tb_g := tb_c1 99 rfl rfl
theorem tw_100 : (Jvm.Cond.fieldLink "RoomNumbers$Finder" (56 : Nat) "RoomNumbers$Finder" "count" "I") ∈ tb_g := tb_c1 100 rfl rfl
theorem tw_101 : (Jvm.Cond.fieldLink "RoomNumbers$Finder" (59 : Nat) "RoomNumbers$Finder" "version" "I") ∈ tb_g := tb_c1 101 rfl rfl
theorem tw_102 : (Jvm.Cond.fieldLink "RoomNumbers$Finder" (62 : Nat) "RoomNumbers$Finder" "mendVersion" "I") ∈ tb_g := tb_c1 102 rfl rfl
theorem tw_103 : (Jvm.Cond.laysFinal "RoomNumbers$Finder" "RoomNumbers$Finder" "valley" "LRoomNumbers$Valley;") ∈ tb_g := tb_c1 103 rfl rfl
theorem tw_105 : (Jvm.Cond.laysFinal "RoomNumbers$Finder" "RoomNumbers$Finder" "bases" "[I") ∈ tb_g := tb_c1 105 rfl rfl
theorem tw_107 : (Jvm.Cond.lays "RoomNumbers$Finder" "RoomNumbers$Finder" "mendNote" "I") ∈ tb_g := tb_c1 107 rfl rfl
theorem tw_109 : (Jvm.Cond.lays "RoomNumbers$Finder" "RoomNumbers$Finder" "mendPlace" "I") ∈ tb_g := tb_c1 109 rfl rfl
theorem tw_111 : (Jvm.Cond.lays "RoomNumbers$Finder" "RoomNumbers$Finder" "mendSign" "I") ∈ tb_g := tb_c1 111 rfl rfl
theorem tw_113 : (Jvm.Cond.laysFinal "RoomNumbers$Finder" "RoomNumbers$Finder" "evenings" "[I") ∈ tb_g := tb_c1 113 rfl rfl
theorem tw_115 : (Jvm.Cond.laysFinal "RoomNumbers$Finder" "RoomNumbers$Finder" "cans" "[I") ∈ tb_g := tb_c1 115 rfl rfl
theorem tw_117 : (Jvm.Cond.laysFinal "RoomNumbers$Finder" "RoomNumbers$Finder" "worths" "[I") ∈ tb_g := tb_c1 117 rfl rfl
theorem tw_119 : (Jvm.Cond.laysFinal "RoomNumbers$Finder" "RoomNumbers$Finder" "touched" "[I") ∈ tb_g := tb_c1 119 rfl rfl
theorem tw_121 : (Jvm.Cond.laysFinal "RoomNumbers$Finder" "RoomNumbers$Finder" "limits" "[I") ∈ tb_g := tb_c1 121 rfl rfl
theorem tw_123 : (Jvm.Cond.laysFinal "RoomNumbers$Finder" "RoomNumbers$Finder" "saved" "[I") ∈ tb_g := tb_c1 123 rfl rfl
theorem tw_125 : (Jvm.Cond.laysFinal "RoomNumbers$Finder" "RoomNumbers$Finder" "thirds" "[I") ∈ tb_g := tb_c1 125 rfl rfl
theorem tw_127 : (Jvm.Cond.laysFinal "RoomNumbers$Finder" "RoomNumbers$Finder" "seen" "[I") ∈ tb_g := tb_c1 127 rfl rfl
theorem tw_129 : (Jvm.Cond.lays "RoomNumbers$Finder" "RoomNumbers$Finder" "count" "I") ∈ tb_g := tb_c1 129 rfl rfl
theorem tw_131 : (Jvm.Cond.lays "RoomNumbers$Finder" "RoomNumbers$Finder" "version" "I") ∈ tb_g := tb_c1 131 rfl rfl
theorem tw_133 : (Jvm.Cond.lays "RoomNumbers$Finder" "RoomNumbers$Finder" "mendVersion" "I") ∈ tb_g := tb_c1 133 rfl rfl
theorem tw_135 : (Jvm.Cond.superclass "RoomNumbers$Finder" "java/lang/Object") ∈ tb_g := tb_c1 135 rfl rfl
theorem tw_136 : (Jvm.Cond.classLink "RoomNumbers" (31 : Nat) "RoomNumbers$Valley") ∈ tb_g := tb_c1 136 rfl rfl
theorem tw_137 : (Jvm.Cond.methodLink "RoomNumbers" (33 : Nat) ({ cls := "RoomNumbers$Valley", name := "<init>", desc := "()V" } : Jvm.MethodName)) ∈ tb_g := tb_c1 137 rfl rfl
theorem tw_138 : (Jvm.Cond.classLink "RoomNumbers" (47 : Nat) "RoomNumbers$Teller") ∈ tb_g := tb_c1 138 rfl rfl
theorem tw_139 : (Jvm.Cond.instantiable "RoomNumbers$Teller" (8 : Nat)) ∈ tb_g := tb_c1 139 rfl rfl
theorem tw_140 : (Jvm.Cond.methodLink "RoomNumbers" (49 : Nat) ({ cls := "RoomNumbers$Teller", name := "<init>", desc := "()V" } : Jvm.MethodName)) ∈ tb_g := tb_c1 140 rfl rfl
theorem tw_141 : (Jvm.Cond.instanceMethod ({ cls := "RoomNumbers$Teller", name := "<init>", desc := "()V" } : Jvm.MethodName)) ∈ tb_g := tb_c1 141 rfl rfl
theorem tw_142 : (Jvm.Cond.code ({ cls := "RoomNumbers$Teller", name := "<init>", desc := "()V" } : Jvm.MethodName) prog_9_method_1_code (1 : Nat) (Option.none : Option Jvm.ClassFile.FieldType)) ∈ tb_g := tb_c1 142 rfl rfl
theorem tw_143 : (Jvm.Cond.methodLink "RoomNumbers$Teller" (3 : Nat) ({ cls := "java/lang/Object", name := "<init>", desc := "()V" } : Jvm.MethodName)) ∈ tb_g := tb_c1 143 rfl rfl
theorem tw_144 : (Jvm.Cond.classLink "RoomNumbers$Teller" (9 : Nat) "RoomNumbers$Valley") ∈ tb_g := tb_c1 144 rfl rfl
theorem tw_145 : (Jvm.Cond.methodLink "RoomNumbers$Teller" (11 : Nat) ({ cls := "RoomNumbers$Valley", name := "<init>", desc := "()V" } : Jvm.MethodName)) ∈ tb_g := tb_c1 145 rfl rfl
theorem tw_146 : (Jvm.Cond.fieldLink "RoomNumbers$Teller" (12 : Nat) "RoomNumbers$Teller" "draft" "LRoomNumbers$Valley;") ∈ tb_g := tb_c1 146 rfl rfl
theorem tw_147 : (Jvm.Cond.fieldLink "RoomNumbers" (103 : Nat) "RoomNumbers$Teller" "draft" "LRoomNumbers$Valley;") ∈ tb_g := tb_c1 147 rfl rfl
theorem tw_148 : (Jvm.Cond.fieldLink "RoomNumbers$Teller" (18 : Nat) "RoomNumbers$Teller" "start" "I") ∈ tb_g := tb_c1 148 rfl rfl
theorem tw_149 : (Jvm.Cond.fieldLink "RoomNumbers" (100 : Nat) "RoomNumbers$Teller" "start" "I") ∈ tb_g := tb_c1 149 rfl rfl
theorem tw_150 : (Jvm.Cond.fieldLink "RoomNumbers$Teller" (22 : Nat) "RoomNumbers$Teller" "marks" "[I") ∈ tb_g := tb_c1 150 rfl rfl
theorem tw_151 : (Jvm.Cond.fieldLink "RoomNumbers$Teller" (26 : Nat) "RoomNumbers$Teller" "text" "[I") ∈ tb_g := tb_c1 151 rfl rfl
theorem tw_152 : (Jvm.Cond.fieldLink "RoomNumbers$Teller" (29 : Nat) "RoomNumbers$Teller" "length" "I") ∈ tb_g := tb_c1 152 rfl rfl
theorem tw_153 : (Jvm.Cond.fieldLink "RoomNumbers$Teller" (32 : Nat) "RoomNumbers$Teller" "place" "I") ∈ tb_g := tb_c1 153 rfl rfl
theorem tw_154 : (Jvm.Cond.fieldLink "RoomNumbers$Teller" (35 : Nat) "RoomNumbers$Teller" "sort" "I") ∈ tb_g := tb_c1 154 rfl rfl
theorem tw_155 : (Jvm.Cond.fieldLink "RoomNumbers$Teller" (38 : Nat) "RoomNumbers$Teller" "value" "I") ∈ tb_g := tb_c1 155 rfl rfl
theorem tw_156 : (Jvm.Cond.laysFinal "RoomNumbers$Teller" "RoomNumbers$Teller" "draft" "LRoomNumbers$Valley;") ∈ tb_g := tb_c1 156 rfl rfl
theorem tw_158 : (Jvm.Cond.lays "RoomNumbers$Teller" "RoomNumbers$Teller" "start" "I") ∈ tb_g := tb_c1 158 rfl rfl
theorem tw_160 : (Jvm.Cond.laysFinal "RoomNumbers$Teller" "RoomNumbers$Teller" "marks" "[I") ∈ tb_g := tb_c1 160 rfl rfl
theorem tw_162 : (Jvm.Cond.lays "RoomNumbers$Teller" "RoomNumbers$Teller" "text" "[I") ∈ tb_g := tb_c1 162 rfl rfl
theorem tw_164 : (Jvm.Cond.lays "RoomNumbers$Teller" "RoomNumbers$Teller" "length" "I") ∈ tb_g := tb_c1 164 rfl rfl
theorem tw_166 : (Jvm.Cond.lays "RoomNumbers$Teller" "RoomNumbers$Teller" "place" "I") ∈ tb_g := tb_c1 166 rfl rfl
theorem tw_168 : (Jvm.Cond.lays "RoomNumbers$Teller" "RoomNumbers$Teller" "sort" "I") ∈ tb_g := tb_c1 168 rfl rfl
theorem tw_170 : (Jvm.Cond.lays "RoomNumbers$Teller" "RoomNumbers$Teller" "value" "I") ∈ tb_g := tb_c1 170 rfl rfl
theorem tw_172 : (Jvm.Cond.superclass "RoomNumbers$Teller" "java/lang/Object") ∈ tb_g := tb_c1 172 rfl rfl
theorem tw_173 : (Jvm.Cond.classLink "RoomNumbers" (64 : Nat) "RoomNumbers$SheetRow") ∈ tb_g := tb_c1 173 rfl rfl
theorem tw_174 : (Jvm.Cond.arrayOver (Jvm.ClassFile.FieldType.object "RoomNumbers$SheetRow")) ∈ lw_tbl := tb_l1 (List.mem_of_getElem? (i := 174) rfl)
theorem tw_175 : (Jvm.Cond.classLink "RoomNumbers" (79 : Nat) "RoomNumbers$Trace") ∈ tb_g := tb_c1 175 rfl rfl
theorem tw_176 : (Jvm.Cond.instantiable "RoomNumbers$Trace" (3 : Nat)) ∈ tb_g := tb_c1 176 rfl rfl
theorem tw_177 : (Jvm.Cond.methodLink "RoomNumbers" (81 : Nat) ({ cls := "RoomNumbers$Trace", name := "<init>", desc := "()V" } : Jvm.MethodName)) ∈ tb_g := tb_c1 177 rfl rfl
theorem tw_178 : (Jvm.Cond.instanceMethod ({ cls := "RoomNumbers$Trace", name := "<init>", desc := "()V" } : Jvm.MethodName)) ∈ tb_g := tb_c1 178 rfl rfl
theorem tw_179 : (Jvm.Cond.code ({ cls := "RoomNumbers$Trace", name := "<init>", desc := "()V" } : Jvm.MethodName) prog_10_method_1_code (1 : Nat) (Option.none : Option Jvm.ClassFile.FieldType)) ∈ tb_g := tb_c1 179 rfl rfl
theorem tw_180 : (Jvm.Cond.methodLink "RoomNumbers$Trace" (1 : Nat) ({ cls := "java/lang/Object", name := "<init>", desc := "()V" } : Jvm.MethodName)) ∈ tb_g := tb_c1 180 rfl rfl
theorem tw_181 : (Jvm.Cond.fieldLink "RoomNumbers$Trace" (9 : Nat) "RoomNumbers$Trace" "bodies" "[I") ∈ tb_g := tb_c1 181 rfl rfl
theorem tw_182 : (Jvm.Cond.fieldLink "RoomNumbers$Left" (7 : Nat) "RoomNumbers$Trace" "bodies" "[I") ∈ tb_g := tb_c1 182 rfl rfl
theorem tw_183 : (Jvm.Cond.fieldLink "RoomNumbers$Debt" (11 : Nat) "RoomNumbers$Trace" "bodies" "[I") ∈ tb_g := tb_c1 183 rfl rfl
theorem tw_184 : (Jvm.Cond.fieldLink "RoomNumbers$Turned" (13 : Nat) "RoomNumbers$Trace" "bodies" "[I") ∈ tb_g := tb_c1 184 rfl rfl
theorem tw_185 : (Jvm.Cond.fieldLink "RoomNumbers$Strokes" (13 : Nat) "RoomNumbers$Trace" "bodies" "[I") ∈ tb_g := tb_c1 185 rfl rfl
theorem tw_186 : (Jvm.Cond.fieldLink "RoomNumbers$Broken" (35 : Nat) "RoomNumbers$Trace" "bodies" "[I") ∈ tb_g := tb_c1 186 rfl rfl
theorem tw_187 : (Jvm.Cond.fieldLink "RoomNumbers$Note" (50 : Nat) "RoomNumbers$Trace" "bodies" "[I") ∈ tb_g := tb_c1 187 rfl rfl
theorem tw_188 : (Jvm.Cond.fieldLink "RoomNumbers" (306 : Nat) "RoomNumbers$Trace" "bodies" "[I") ∈ tb_g := tb_c1 188 rfl rfl
theorem tw_189 : (Jvm.Cond.fieldLink "RoomNumbers$Trace" (13 : Nat) "RoomNumbers$Trace" "count" "I") ∈ tb_g := tb_c1 189 rfl rfl
theorem tw_190 : (Jvm.Cond.fieldLink "RoomNumbers$Left" (13 : Nat) "RoomNumbers$Trace" "count" "I") ∈ tb_g := tb_c1 190 rfl rfl
theorem tw_191 : (Jvm.Cond.fieldLink "RoomNumbers$Debt" (17 : Nat) "RoomNumbers$Trace" "count" "I") ∈ tb_g := tb_c1 191 rfl rfl
theorem tw_192 : (Jvm.Cond.fieldLink "RoomNumbers$Turned" (18 : Nat) "RoomNumbers$Trace" "count" "I") ∈ tb_g := tb_c1 192 rfl rfl
theorem tw_193 : (Jvm.Cond.fieldLink "RoomNumbers$Strokes" (18 : Nat) "RoomNumbers$Trace" "count" "I") ∈ tb_g := tb_c1 193 rfl rfl
theorem tw_194 : (Jvm.Cond.fieldLink "RoomNumbers$Broken" (40 : Nat) "RoomNumbers$Trace" "count" "I") ∈ tb_g := tb_c1 194 rfl rfl
theorem tw_195 : (Jvm.Cond.fieldLink "RoomNumbers$Note" (55 : Nat) "RoomNumbers$Trace" "count" "I") ∈ tb_g := tb_c1 195 rfl rfl
theorem tw_196 : (Jvm.Cond.fieldLink "RoomNumbers$Trace" (17 : Nat) "RoomNumbers$Trace" "endedAt" "I") ∈ tb_g := tb_c1 196 rfl rfl
theorem tw_197 : (Jvm.Cond.laysFinal "RoomNumbers$Trace" "RoomNumbers$Trace" "bodies" "[I") ∈ tb_g := tb_c1 197 rfl rfl
theorem tw_199 : (Jvm.Cond.lays "RoomNumbers$Trace" "RoomNumbers$Trace" "count" "I") ∈ tb_g := tb_c1 199 rfl rfl
theorem tw_201 : (Jvm.Cond.lays "RoomNumbers$Trace" "RoomNumbers$Trace" "endedAt" "I") ∈ tb_g := tb_c1 201 rfl rfl
theorem tw_203 : (Jvm.Cond.superclass "RoomNumbers$Trace" "java/lang/Object") ∈ tb_g := tb_c1 203 rfl rfl
theorem tw_204 : (Jvm.Cond.arrayClass Jvm.ClassFile.FieldType.long) ∈ tb_g := tb_c1 204 rfl rfl
theorem tw_205 : (Jvm.Cond.methodLink "RoomNumbers" (86 : Nat) ({ cls := "java/util/Arrays", name := "fill", desc := "([II)V" } : Jvm.MethodName)) ∈ tb_g := tb_c1 205 rfl rfl
theorem tw_206 : (Jvm.Cond.fieldLink "RoomNumbers" (9 : Nat) "RoomNumbers" "tape" "[I") ∈ tb_g := tb_c1 206 rfl rfl
theorem tw_207 : (Jvm.Cond.fieldLink "RoomNumbers" (13 : Nat) "RoomNumbers" "tapeCount" "I") ∈ tb_g := tb_c1 207 rfl rfl
theorem tw_208 : (Jvm.Cond.fieldLink "RoomNumbers" (20 : Nat) "RoomNumbers" "finder" "LRoomNumbers$Finder;") ∈ tb_g := tb_c1 208 rfl rfl
theorem tw_209 : (Jvm.Cond.fieldLink "RoomNumbers" (28 : Nat) "RoomNumbers" "now" "LRoomNumbers$Valley;") ∈ tb_g := tb_c1 209 rfl rfl
theorem tw_210 : (Jvm.Cond.fieldLink "RoomNumbers" (34 : Nat) "RoomNumbers" "kept" "LRoomNumbers$Valley;") ∈ tb_g := tb_c1 210 rfl rfl
theorem tw_211 : (Jvm.Cond.fieldLink "RoomNumbers" (37 : Nat) "RoomNumbers" "anyKept" "Z") ∈ tb_g := tb_c1 211 rfl rfl
theorem tw_212 : (Jvm.Cond.fieldLink "RoomNumbers" (41 : Nat) "RoomNumbers" "luck" "I") ∈ tb_g := tb_c1 212 rfl rfl
theorem tw_213 : (Jvm.Cond.fieldLink "RoomNumbers" (44 : Nat) "RoomNumbers" "keptLuck" "I") ∈ tb_g := tb_c1 213 rfl rfl
theorem tw_214 : (Jvm.Cond.fieldLink "RoomNumbers" (50 : Nat) "RoomNumbers" "teller" "LRoomNumbers$Teller;") ∈ tb_g := tb_c1 214 rfl rfl
theorem tw_215 : (Jvm.Cond.fieldLink "RoomNumbers" (54 : Nat) "RoomNumbers" "rows" "[J") ∈ tb_g := tb_c1 215 rfl rfl
theorem tw_216 : (Jvm.Cond.fieldLink "RoomNumbers" (58 : Nat) "RoomNumbers" "rowCount" "I") ∈ tb_g := tb_c1 216 rfl rfl
theorem tw_217 : (Jvm.Cond.fieldLink "RoomNumbers" (61 : Nat) "RoomNumbers" "tried" "[I") ∈ tb_g := tb_c1 217 rfl rfl
theorem tw_218 : (Jvm.Cond.fieldLink "RoomNumbers" (66 : Nat) "RoomNumbers" "sheets" "[LRoomNumbers$SheetRow;") ∈ tb_g := tb_c1 218 rfl rfl
theorem tw_219 : (Jvm.Cond.fieldLink "RoomNumbers" (70 : Nat) "RoomNumbers" "shelfWhat" "[I") ∈ tb_g := tb_c1 219 rfl rfl
theorem tw_220 : (Jvm.Cond.fieldLink "RoomNumbers" (73 : Nat) "RoomNumbers" "shelfNote" "[I") ∈ tb_g := tb_c1 220 rfl rfl
theorem tw_221 : (Jvm.Cond.fieldLink "RoomNumbers" (76 : Nat) "RoomNumbers" "shelfRow" "[LRoomNumbers$SheetRow;") ∈ tb_g := tb_c1 221 rfl rfl
theorem tw_222 : (Jvm.Cond.fieldLink "RoomNumbers" (82 : Nat) "RoomNumbers" "latest" "LRoomNumbers$Trace;") ∈ tb_g := tb_c1 222 rfl rfl
theorem tw_223 : (Jvm.Cond.laysFinal "RoomNumbers" "RoomNumbers" "tape" "[I") ∈ tb_g := tb_c1 223 rfl rfl
theorem tw_225 : (Jvm.Cond.lays "RoomNumbers" "RoomNumbers" "tapeCount" "I") ∈ tb_g := tb_c1 225 rfl rfl
theorem tw_227 : (Jvm.Cond.laysFinal "RoomNumbers" "RoomNumbers" "finder" "LRoomNumbers$Finder;") ∈ tb_g := tb_c1 227 rfl rfl
theorem tw_229 : (Jvm.Cond.laysFinal "RoomNumbers" "RoomNumbers" "now" "LRoomNumbers$Valley;") ∈ tb_g := tb_c1 229 rfl rfl
theorem tw_231 : (Jvm.Cond.laysFinal "RoomNumbers" "RoomNumbers" "kept" "LRoomNumbers$Valley;") ∈ tb_g := tb_c1 231 rfl rfl
theorem tw_233 : (Jvm.Cond.lays "RoomNumbers" "RoomNumbers" "anyKept" "Z") ∈ tb_g := tb_c1 233 rfl rfl
theorem tw_235 : (Jvm.Cond.lays "RoomNumbers" "RoomNumbers" "luck" "I") ∈ tb_g := tb_c1 235 rfl rfl
theorem tw_237 : (Jvm.Cond.lays "RoomNumbers" "RoomNumbers" "keptLuck" "I") ∈ tb_g := tb_c1 237 rfl rfl
theorem tw_239 : (Jvm.Cond.laysFinal "RoomNumbers" "RoomNumbers" "teller" "LRoomNumbers$Teller;") ∈ tb_g := tb_c1 239 rfl rfl
theorem tw_241 : (Jvm.Cond.laysFinal "RoomNumbers" "RoomNumbers" "rows" "[J") ∈ tb_g := tb_c2 1 rfl rfl
theorem tw_243 : (Jvm.Cond.lays "RoomNumbers" "RoomNumbers" "rowCount" "I") ∈ tb_g := tb_c2 3 rfl rfl
theorem tw_245 : (Jvm.Cond.laysFinal "RoomNumbers" "RoomNumbers" "tried" "[I") ∈ tb_g := tb_c2 5 rfl rfl
theorem tw_247 : (Jvm.Cond.laysFinal "RoomNumbers" "RoomNumbers" "sheets" "[LRoomNumbers$SheetRow;") ∈ tb_g := tb_c2 7 rfl rfl
theorem tw_249 : (Jvm.Cond.laysFinal "RoomNumbers" "RoomNumbers" "shelfWhat" "[I") ∈ tb_g := tb_c2 9 rfl rfl
theorem tw_251 : (Jvm.Cond.laysFinal "RoomNumbers" "RoomNumbers" "shelfNote" "[I") ∈ tb_g := tb_c2 11 rfl rfl
theorem tw_253 : (Jvm.Cond.laysFinal "RoomNumbers" "RoomNumbers" "shelfRow" "[LRoomNumbers$SheetRow;") ∈ tb_g := tb_c2 13 rfl rfl
theorem tw_255 : (Jvm.Cond.laysFinal "RoomNumbers" "RoomNumbers" "latest" "LRoomNumbers$Trace;") ∈ tb_g := tb_c2 15 rfl rfl
theorem tw_257 : (Jvm.Cond.superclass "RoomNumbers" "java/lang/Object") ∈ tb_g := tb_c2 17 rfl rfl
theorem tw_258 : (Jvm.Cond.methodLink "RoomNumbersLaw" (15 : Nat) ({ cls := "RoomNumbers", name := "feed", desc := "(JI)I" } : Jvm.MethodName)) ∈ tb_g := tb_c2 18 rfl rfl
theorem tw_259 : (Jvm.Cond.instanceMethod ({ cls := "RoomNumbers", name := "feed", desc := "(JI)I" } : Jvm.MethodName)) ∈ tb_g := tb_c2 19 rfl rfl
theorem tw_260 : (Jvm.Cond.selects "RoomNumbers" ({ cls := "RoomNumbers", name := "feed", desc := "(JI)I" } : Jvm.MethodName) ({ cls := "RoomNumbers", name := "feed", desc := "(JI)I" } : Jvm.MethodName)) ∈ tb_g := tb_c2 20 rfl rfl
theorem tw_261 : (Jvm.Cond.code ({ cls := "RoomNumbers", name := "feed", desc := "(JI)I" } : Jvm.MethodName) prog_1_method_2_code (5 : Nat) (Option.some Jvm.ClassFile.FieldType.int)) ∈ tb_g := tb_c2 21 rfl rfl
theorem tw_262 : (Jvm.Cond.methodLink "RoomNumbers" (92 : Nat) ({ cls := "RoomNumbers", name := "within", desc := "(III)Z" } : Jvm.MethodName)) ∈ tb_g := tb_c2 22 rfl rfl
theorem tw_263 : (Jvm.Cond.static ({ cls := "RoomNumbers", name := "within", desc := "(III)Z" } : Jvm.MethodName)) ∈ tb_g := tb_c2 23 rfl rfl
theorem tw_264 : (Jvm.Cond.code ({ cls := "RoomNumbers", name := "within", desc := "(III)Z" } : Jvm.MethodName) prog_1_method_48_code (3 : Nat) (Option.some Jvm.ClassFile.FieldType.boolean)) ∈ tb_g := tb_c2 24 rfl rfl
theorem tw_265 : (Jvm.Cond.methodLink "RoomNumbersLaw" (20 : Nat) ({ cls := "RoomNumbers", name := "valley", desc := "()I" } : Jvm.MethodName)) ∈ tb_g := tb_c2 25 rfl rfl
theorem tw_266 : (Jvm.Cond.instanceMethod ({ cls := "RoomNumbers", name := "valley", desc := "()I" } : Jvm.MethodName)) ∈ tb_g := tb_c2 26 rfl rfl
theorem tw_267 : (Jvm.Cond.selects "RoomNumbers" ({ cls := "RoomNumbers", name := "valley", desc := "()I" } : Jvm.MethodName) ({ cls := "RoomNumbers", name := "valley", desc := "()I" } : Jvm.MethodName)) ∈ tb_g := tb_c2 27 rfl rfl
theorem tw_268 : (Jvm.Cond.code ({ cls := "RoomNumbers", name := "valley", desc := "()I" } : Jvm.MethodName) prog_1_method_3_code (2 : Nat) (Option.some Jvm.ClassFile.FieldType.int)) ∈ tb_g := tb_c2 28 rfl rfl
theorem tw_269 : (Jvm.Cond.methodLink "RoomNumbers" (96 : Nat) ({ cls := "RoomNumbers$Teller", name := "told", desc := "([II)Z" } : Jvm.MethodName)) ∈ tb_g := tb_c2 29 rfl rfl
theorem tw_270 : (Jvm.Cond.instanceMethod ({ cls := "RoomNumbers$Teller", name := "told", desc := "([II)Z" } : Jvm.MethodName)) ∈ tb_g := tb_c2 30 rfl rfl
theorem tw_271 : (Jvm.Cond.selects "RoomNumbers$Teller" ({ cls := "RoomNumbers$Teller", name := "told", desc := "([II)Z" } : Jvm.MethodName) ({ cls := "RoomNumbers$Teller", name := "told", desc := "([II)Z" } : Jvm.MethodName)) ∈ tb_g := tb_c2 31 rfl rfl
theorem tw_272 : (Jvm.Cond.code ({ cls := "RoomNumbers$Teller", name := "told", desc := "([II)Z" } : Jvm.MethodName) prog_9_method_2_code (7 : Nat) (Option.some Jvm.ClassFile.FieldType.boolean)) ∈ tb_g := tb_c2 32 rfl rfl
theorem tw_273 : (Jvm.Cond.methodLink "RoomNumbers$Teller" (41 : Nat) ({ cls := "java/lang/Math", name := "min", desc := "(II)I" } : Jvm.MethodName)) ∈ tb_g := tb_c2 33 rfl rfl
theorem tw_274 : (Jvm.Cond.static ({ cls := "java/lang/Math", name := "min", desc := "(II)I" } : Jvm.MethodName)) ∈ tb_g := tb_c2 34 rfl rfl
theorem tw_275 : (Jvm.Cond.code ({ cls := "java/lang/Math", name := "min", desc := "(II)I" } : Jvm.MethodName) prog_17_method_69_code (2 : Nat) (Option.some Jvm.ClassFile.FieldType.int)) ∈ tb_g := tb_c2 35 rfl rfl
theorem tw_276 : (Jvm.Cond.methodLink "RoomNumbers$Teller" (47 : Nat) ({ cls := "RoomNumbers$Valley", name := "clear", desc := "()V" } : Jvm.MethodName)) ∈ tb_g := tb_c2 36 rfl rfl
theorem tw_277 : (Jvm.Cond.instanceMethod ({ cls := "RoomNumbers$Valley", name := "clear", desc := "()V" } : Jvm.MethodName)) ∈ tb_g := tb_c2 37 rfl rfl
theorem tw_278 : (Jvm.Cond.selects "RoomNumbers$Valley" ({ cls := "RoomNumbers$Valley", name := "clear", desc := "()V" } : Jvm.MethodName) ({ cls := "RoomNumbers$Valley", name := "clear", desc := "()V" } : Jvm.MethodName)) ∈ tb_g := tb_c2 38 rfl rfl
theorem tw_279 : (Jvm.Cond.code ({ cls := "RoomNumbers$Valley", name := "clear", desc := "()V" } : Jvm.MethodName) prog_12_method_2_code (1 : Nat) (Option.none : Option Jvm.ClassFile.FieldType)) ∈ tb_g := tb_c2 39 rfl rfl
theorem tw_280 : (Jvm.Cond.methodLink "RoomNumbers$Teller" (50 : Nat) ({ cls := "RoomNumbers$Teller", name := "next", desc := "()V" } : Jvm.MethodName)) ∈ tb_g := tb_c2 40 rfl rfl
theorem tw_282 : (Jvm.Cond.instanceMethod ({ cls := "RoomNumbers$Teller", name := "next", desc := "()V" } : Jvm.MethodName)) ∈ tb_g := tb_c2 42 rfl rfl
theorem tw_283 : (Jvm.Cond.code ({ cls := "RoomNumbers$Teller", name := "next", desc := "()V" } : Jvm.MethodName) prog_9_method_12_code (1 : Nat) (Option.none : Option Jvm.ClassFile.FieldType)) ∈ tb_g := tb_c2 43 rfl rfl
theorem tw_284 : (Jvm.Cond.methodLink "RoomNumbers$Teller" (140 : Nat) ({ cls := "RoomNumbers$Teller", name := "isLetter", desc := "(I)Z" } : Jvm.MethodName)) ∈ tb_g := tb_c2 44 rfl rfl
theorem tw_285 : (Jvm.Cond.static ({ cls := "RoomNumbers$Teller", name := "isLetter", desc := "(I)Z" } : Jvm.MethodName)) ∈ tb_g := tb_c2 45 rfl rfl
theorem tw_286 : (Jvm.Cond.code ({ cls := "RoomNumbers$Teller", name := "isLetter", desc := "(I)Z" } : Jvm.MethodName) prog_9_method_14_code (1 : Nat) (Option.some Jvm.ClassFile.FieldType.boolean)) ∈ tb_g := tb_c2 46 rfl rfl
theorem tw_287 : (Jvm.Cond.methodLink "RoomNumbers$Teller" (143 : Nat) ({ cls := "RoomNumbers$Teller", name := "isDigit", desc := "(I)Z" } : Jvm.MethodName)) ∈ tb_g := tb_c2 47 rfl rfl
theorem tw_288 : (Jvm.Cond.static ({ cls := "RoomNumbers$Teller", name := "isDigit", desc := "(I)Z" } : Jvm.MethodName)) ∈ tb_g := tb_c2 48 rfl rfl
theorem tw_289 : (Jvm.Cond.code ({ cls := "RoomNumbers$Teller", name := "isDigit", desc := "(I)Z" } : Jvm.MethodName) prog_9_method_15_code (1 : Nat) (Option.some Jvm.ClassFile.FieldType.boolean)) ∈ tb_g := tb_c2 49 rfl rfl
theorem tw_290 : (Jvm.Cond.methodLink "RoomNumbers$Teller" (146 : Nat) ({ cls := "RoomNumbers$Teller", name := "digitsWorth", desc := "()I" } : Jvm.MethodName)) ∈ tb_g := tb_c2 50 rfl rfl
theorem tw_292 : (Jvm.Cond.instanceMethod ({ cls := "RoomNumbers$Teller", name := "digitsWorth", desc := "()I" } : Jvm.MethodName)) ∈ tb_g := tb_c2 52 rfl rfl
theorem tw_293 : (Jvm.Cond.code ({ cls := "RoomNumbers$Teller", name := "digitsWorth", desc := "()I" } : Jvm.MethodName) prog_9_method_13_code (3 : Nat) (Option.some Jvm.ClassFile.FieldType.int)) ∈ tb_g := tb_c2 53 rfl rfl
theorem tw_294 : (Jvm.Cond.methodLink "RoomNumbers$Teller" (53 : Nat) ({ cls := "RoomNumbers$Teller", name := "kindNamed", desc := "()I" } : Jvm.MethodName)) ∈ tb_g := tb_c2 54 rfl rfl
theorem tw_296 : (Jvm.Cond.instanceMethod ({ cls := "RoomNumbers$Teller", name := "kindNamed", desc := "()I" } : Jvm.MethodName)) ∈ tb_g := tb_c2 56 rfl rfl
theorem tw_297 : (Jvm.Cond.code ({ cls := "RoomNumbers$Teller", name := "kindNamed", desc := "()I" } : Jvm.MethodName) prog_9_method_3_code (1 : Nat) (Option.some Jvm.ClassFile.FieldType.int)) ∈ tb_g := tb_c2 57 rfl rfl
theorem tw_298 : (Jvm.Cond.stringRef "RoomNumbers$Teller" (77 : Nat) "note") ∈ lw_tbl := tb_l2 (List.mem_of_getElem? (i := 58) rfl)
theorem tw_299 : (Jvm.Cond.methodLink "RoomNumbers$Teller" (69 : Nat) ({ cls := "RoomNumbers$Teller", name := "isName", desc := "(Ljava/lang/String;)Z" } : Jvm.MethodName)) ∈ tb_g := tb_c2 59 rfl rfl
theorem tw_301 : (Jvm.Cond.instanceMethod ({ cls := "RoomNumbers$Teller", name := "isName", desc := "(Ljava/lang/String;)Z" } : Jvm.MethodName)) ∈ tb_g := tb_c2 61 rfl rfl
theorem tw_302 : (Jvm.Cond.code ({ cls := "RoomNumbers$Teller", name := "isName", desc := "(Ljava/lang/String;)Z" } : Jvm.MethodName) prog_9_method_11_code (3 : Nat) (Option.some Jvm.ClassFile.FieldType.boolean)) ∈ tb_g := tb_c2 62 rfl rfl
theorem tw_303 : (Jvm.Cond.methodLink "RoomNumbers$Teller" (132 : Nat) ({ cls := "java/lang/String", name := "length", desc := "()I" } : Jvm.MethodName)) ∈ tb_g := tb_c2 63 rfl rfl
theorem tw_304 : (Jvm.Cond.instanceMethod ({ cls := "java/lang/String", name := "length", desc := "()I" } : Jvm.MethodName)) ∈ tb_g := tb_c2 64 rfl rfl
theorem tw_305 : (Jvm.Cond.selects "java/lang/String" ({ cls := "java/lang/String", name := "length", desc := "()I" } : Jvm.MethodName) ({ cls := "java/lang/String", name := "length", desc := "()I" } : Jvm.MethodName)) ∈ tb_g := tb_c2 65 rfl rfl
theorem tw_306 : (Jvm.Cond.code ({ cls := "java/lang/String", name := "length", desc := "()I" } : Jvm.MethodName) prog_18_method_54_code (1 : Nat) (Option.some Jvm.ClassFile.FieldType.int)) ∈ tb_g := tb_c2 66 rfl rfl
theorem tw_307 : (Jvm.Cond.methodLink "java/lang/String" (335 : Nat) ({ cls := "java/lang/String", name := "coder", desc := "()B" } : Jvm.MethodName)) ∈ tb_g := tb_c2 67 rfl rfl
theorem tw_308 : (Jvm.Cond.instanceMethod ({ cls := "java/lang/String", name := "coder", desc := "()B" } : Jvm.MethodName)) ∈ tb_g := tb_c2 68 rfl rfl
theorem tw_309 : (Jvm.Cond.selects "java/lang/String" ({ cls := "java/lang/String", name := "coder", desc := "()B" } : Jvm.MethodName) ({ cls := "java/lang/String", name := "coder", desc := "()B" } : Jvm.MethodName)) ∈ tb_g := tb_c2 69 rfl rfl
theorem tw_310 : (Jvm.Cond.code ({ cls := "java/lang/String", name := "coder", desc := "()B" } : Jvm.MethodName) prog_18_method_152_code (1 : Nat) (Option.some Jvm.ClassFile.FieldType.byte)) ∈ tb_g := tb_c2 70 rfl rfl
theorem tw_311 : (Jvm.Cond.fieldLink "java/lang/String" (38 : Nat) "java/lang/String" "COMPACT_STRINGS" "Z") ∈ tb_g := tb_c2 71 rfl rfl
theorem tw_313 : (Jvm.Cond.methodLink "RoomNumbers$Teller" (136 : Nat) ({ cls := "java/lang/String", name := "charAt", desc := "(I)C" } : Jvm.MethodName)) ∈ tb_g := tb_c2 73 rfl rfl
theorem tw_314 : (Jvm.Cond.instanceMethod ({ cls := "java/lang/String", name := "charAt", desc := "(I)C" } : Jvm.MethodName)) ∈ tb_g := tb_c2 74 rfl rfl
theorem tw_315 : (Jvm.Cond.selects "java/lang/String" ({ cls := "java/lang/String", name := "charAt", desc := "(I)C" } : Jvm.MethodName) ({ cls := "java/lang/String", name := "charAt", desc := "(I)C" } : Jvm.MethodName)) ∈ tb_g := tb_c2 75 rfl rfl
theorem tw_316 : (Jvm.Cond.code ({ cls := "java/lang/String", name := "charAt", desc := "(I)C" } : Jvm.MethodName) prog_18_method_56_code (2 : Nat) (Option.some Jvm.ClassFile.FieldType.char)) ∈ tb_g := tb_c2 76 rfl rfl
theorem tw_317 : (Jvm.Cond.methodLink "java/lang/String" (492 : Nat) ({ cls := "java/lang/String", name := "isLatin1", desc := "()Z" } : Jvm.MethodName)) ∈ tb_g := tb_c2 77 rfl rfl
theorem tw_318 : (Jvm.Cond.instanceMethod ({ cls := "java/lang/String", name := "isLatin1", desc := "()Z" } : Jvm.MethodName)) ∈ tb_g := tb_c2 78 rfl rfl
theorem tw_319 : (Jvm.Cond.selects "java/lang/String" ({ cls := "java/lang/String", name := "isLatin1", desc := "()Z" } : Jvm.MethodName) ({ cls := "java/lang/String", name := "isLatin1", desc := "()Z" } : Jvm.MethodName)) ∈ tb_g := tb_c2 79 rfl rfl
theorem tw_320 : (Jvm.Cond.code ({ cls := "java/lang/String", name := "isLatin1", desc := "()Z" } : Jvm.MethodName) prog_18_method_154_code (1 : Nat) (Option.some Jvm.ClassFile.FieldType.boolean)) ∈ tb_g := tb_c2 80 rfl rfl
theorem tw_321 : (Jvm.Cond.methodLink "java/lang/String" (495 : Nat) ({ cls := "java/lang/StringLatin1", name := "charAt", desc := "([BI)C" } : Jvm.MethodName)) ∈ tb_g := tb_c2 81 rfl rfl
theorem tw_322 : (Jvm.Cond.static ({ cls := "java/lang/StringLatin1", name := "charAt", desc := "([BI)C" } : Jvm.MethodName)) ∈ tb_g := tb_c2 82 rfl rfl
theorem tw_323 : (Jvm.Cond.code ({ cls := "java/lang/StringLatin1", name := "charAt", desc := "([BI)C" } : Jvm.MethodName) prog_19_method_2_code (2 : Nat) (Option.some Jvm.ClassFile.FieldType.char)) ∈ tb_g := tb_c2 83 rfl rfl
theorem tw_324 : (Jvm.Cond.methodLink "java/lang/StringLatin1" (9 : Nat) ({ cls := "java/lang/String", name := "checkIndex", desc := "(II)V" } : Jvm.MethodName)) ∈ tb_g := tb_c2 84 rfl rfl
theorem tw_325 : (Jvm.Cond.static ({ cls := "java/lang/String", name := "checkIndex", desc := "(II)V" } : Jvm.MethodName)) ∈ tb_g := tb_c2 85 rfl rfl
theorem tw_326 : (Jvm.Cond.code ({ cls := "java/lang/String", name := "checkIndex", desc := "(II)V" } : Jvm.MethodName) prog_18_method_155_code (2 : Nat) (Option.none : Option Jvm.ClassFile.FieldType)) ∈ tb_g := tb_c2 86 rfl rfl
theorem tw_327 : (Jvm.Cond.fieldLink "java/lang/String" (1053 : Nat) "jdk/internal/util/Preconditions" "SIOOBE_FORMATTER" "Ljava/util/function/BiFunction;") ∈ tb_g := tb_c2 87 rfl rfl
theorem tw_329 : (Jvm.Cond.methodLink "java/lang/String" (1059 : Nat) ({ cls := "jdk/internal/util/Preconditions", name := "checkIndex", desc := "(IILjava/util/function/BiFunction;)I" } : Jvm.MethodName)) ∈ tb_g := tb_c2 89 rfl rfl
theorem tw_330 : (Jvm.Cond.static ({ cls := "jdk/internal/util/Preconditions", name := "checkIndex", desc := "(IILjava/util/function/BiFunction;)I" } : Jvm.MethodName)) ∈ tb_g := tb_c2 90 rfl rfl
theorem tw_331 : (Jvm.Cond.code ({ cls := "jdk/internal/util/Preconditions", name := "checkIndex", desc := "(IILjava/util/function/BiFunction;)I" } : Jvm.MethodName) prog_23_method_11_code (3 : Nat) (Option.some Jvm.ClassFile.FieldType.int)) ∈ tb_g := tb_c2 91 rfl rfl
theorem tw_332 : (Jvm.Cond.methodLink "java/lang/String" (498 : Nat) ({ cls := "java/lang/StringUTF16", name := "charAt", desc := "([BI)C" } : Jvm.MethodName)) ∈ tb_g := tb_c2 92 rfl rfl
theorem tw_333 : (Jvm.Cond.static ({ cls := "java/lang/StringUTF16", name := "charAt", desc := "([BI)C" } : Jvm.MethodName)) ∈ tb_g := tb_c2 93 rfl rfl
theorem tw_334 : (Jvm.Cond.code ({ cls := "java/lang/StringUTF16", name := "charAt", desc := "([BI)C" } : Jvm.MethodName) prog_20_method_83_code (2 : Nat) (Option.some Jvm.ClassFile.FieldType.char)) ∈ tb_g := tb_c2 94 rfl rfl
theorem tw_335 : (Jvm.Cond.methodLink "java/lang/StringUTF16" (67 : Nat) ({ cls := "java/lang/StringUTF16", name := "checkIndex", desc := "(I[B)V" } : Jvm.MethodName)) ∈ tb_g := tb_c2 95 rfl rfl
theorem tw_336 : (Jvm.Cond.static ({ cls := "java/lang/StringUTF16", name := "checkIndex", desc := "(I[B)V" } : Jvm.MethodName)) ∈ tb_g := tb_c2 96 rfl rfl
theorem tw_337 : (Jvm.Cond.code ({ cls := "java/lang/StringUTF16", name := "checkIndex", desc := "(I[B)V" } : Jvm.MethodName) prog_20_method_91_code (2 : Nat) (Option.none : Option Jvm.ClassFile.FieldType)) ∈ tb_g := tb_c2 97 rfl rfl
theorem tw_338 : (Jvm.Cond.methodLink "java/lang/StringUTF16" (48 : Nat) ({ cls := "java/lang/StringUTF16", name := "length", desc := "([B)I" } : Jvm.MethodName)) ∈ tb_g := tb_c2 98 rfl rfl
theorem tw_339 : (Jvm.Cond.static ({ cls := "java/lang/StringUTF16", name := "length", desc := "([B)I" } : Jvm.MethodName)) ∈ tb_g := tb_c2 99 rfl rfl
theorem tw_340 : (Jvm.Cond.code ({ cls := "java/lang/StringUTF16", name := "length", desc := "([B)I" } : Jvm.MethodName) prog_20_method_6_code (1 : Nat) (Option.some Jvm.ClassFile.FieldType.int)) ∈ tb_g := tb_c2 100 rfl rfl
theorem tw_341 : (Jvm.Cond.methodLink "java/lang/StringUTF16" (414 : Nat) ({ cls := "java/lang/String", name := "checkIndex", desc := "(II)V" } : Jvm.MethodName)) ∈ tb_g := tb_c2 101 rfl rfl
theorem tw_342 : (Jvm.Cond.methodLink "java/lang/StringUTF16" (71 : Nat) ({ cls := "java/lang/StringUTF16", name := "getChar", desc := "([BI)C" } : Jvm.MethodName)) ∈ tb_g := tb_c2 102 rfl rfl
theorem tw_343 : (Jvm.Cond.static ({ cls := "java/lang/StringUTF16", name := "getChar", desc := "([BI)C" } : Jvm.MethodName)) ∈ tb_g := tb_c2 103 rfl rfl
theorem tw_344 : (Jvm.Cond.code ({ cls := "java/lang/StringUTF16", name := "getChar", desc := "([BI)C" } : Jvm.MethodName) prog_20_method_5_code (2 : Nat) (Option.some Jvm.ClassFile.FieldType.char)) ∈ tb_g := tb_c2 104 rfl rfl
theorem tw_345 : (Jvm.Cond.fieldLink "java/lang/StringUTF16" (44 : Nat) "java/lang/StringUTF16" "$assertionsDisabled" "Z") ∈ tb_g := tb_c2 105 rfl rfl
theorem tw_347 : (Jvm.Cond.fieldLink "java/lang/StringUTF16" (59 : Nat) "java/lang/StringUTF16" "HI_BYTE_SHIFT" "I") ∈ tb_g := tb_c2 107 rfl rfl
theorem tw_349 : (Jvm.Cond.fieldLink "java/lang/StringUTF16" (63 : Nat) "java/lang/StringUTF16" "LO_BYTE_SHIFT" "I") ∈ tb_g := tb_c2 109 rfl rfl
theorem tw_351 : (Jvm.Cond.stringRef "RoomNumbers$Teller" (79 : Nat) "strokes") ∈ lw_tbl := tb_l2 (List.mem_of_getElem? (i := 111) rfl)
theorem tw_352 : (Jvm.Cond.stringRef "RoomNumbers$Teller" (81 : Nat) "broken") ∈ lw_tbl := tb_l2 (List.mem_of_getElem? (i := 112) rfl)
theorem tw_353 : (Jvm.Cond.stringRef "RoomNumbers$Teller" (83 : Nat) "left") ∈ lw_tbl := tb_l2 (List.mem_of_getElem? (i := 113) rfl)
theorem tw_354 : (Jvm.Cond.stringRef "RoomNumbers$Teller" (85 : Nat) "turned") ∈ lw_tbl := tb_l2 (List.mem_of_getElem? (i := 114) rfl)
theorem tw_355 : (Jvm.Cond.stringRef "RoomNumbers$Teller" (87 : Nat) "debt") ∈ lw_tbl := tb_l2 (List.mem_of_getElem? (i := 115) rfl)
theorem tw_356 : (Jvm.Cond.methodLink "RoomNumbers$Teller" (57 : Nat) ({ cls := "RoomNumbers$Teller", name := "lineSortNamed", desc := "()I" } : Jvm.MethodName)) ∈ tb_g := tb_c2 116 rfl rfl
theorem tw_358 : (Jvm.Cond.instanceMethod ({ cls := "RoomNumbers$Teller", name := "lineSortNamed", desc := "()I" } : Jvm.MethodName)) ∈ tb_g := tb_c2 118 rfl rfl
theorem tw_359 : (Jvm.Cond.code ({ cls := "RoomNumbers$Teller", name := "lineSortNamed", desc := "()I" } : Jvm.MethodName) prog_9_method_4_code (1 : Nat) (Option.some Jvm.ClassFile.FieldType.int)) ∈ tb_g := tb_c2 119 rfl rfl
theorem tw_360 : (Jvm.Cond.stringRef "RoomNumbers$Teller" (89 : Nat) "same") ∈ lw_tbl := tb_l2 (List.mem_of_getElem? (i := 120) rfl)
theorem tw_361 : (Jvm.Cond.stringRef "RoomNumbers$Teller" (91 : Nat) "more") ∈ lw_tbl := tb_l2 (List.mem_of_getElem? (i := 121) rfl)
theorem tw_362 : (Jvm.Cond.stringRef "RoomNumbers$Teller" (93 : Nat) "sum") ∈ lw_tbl := tb_l2 (List.mem_of_getElem? (i := 122) rfl)
theorem tw_363 : (Jvm.Cond.stringRef "RoomNumbers$Teller" (95 : Nat) "whole") ∈ lw_tbl := tb_l2 (List.mem_of_getElem? (i := 123) rfl)
theorem tw_364 : (Jvm.Cond.methodLink "RoomNumbers$Teller" (60 : Nat) ({ cls := "RoomNumbers$Teller", name := "noteTold", desc := "(I)Z" } : Jvm.MethodName)) ∈ tb_g := tb_c2 124 rfl rfl
theorem tw_366 : (Jvm.Cond.instanceMethod ({ cls := "RoomNumbers$Teller", name := "noteTold", desc := "(I)Z" } : Jvm.MethodName)) ∈ tb_g := tb_c2 126 rfl rfl
theorem tw_367 : (Jvm.Cond.code ({ cls := "RoomNumbers$Teller", name := "noteTold", desc := "(I)Z" } : Jvm.MethodName) prog_9_method_5_code (6 : Nat) (Option.some Jvm.ClassFile.FieldType.boolean)) ∈ tb_g := tb_c2 127 rfl rfl
theorem tw_368 : (Jvm.Cond.methodLink "RoomNumbers$Teller" (100 : Nat) ({ cls := "RoomNumbers$Teller", name := "number", desc := "(II)I" } : Jvm.MethodName)) ∈ tb_g := tb_c2 128 rfl rfl
theorem tw_370 : (Jvm.Cond.instanceMethod ({ cls := "RoomNumbers$Teller", name := "number", desc := "(II)I" } : Jvm.MethodName)) ∈ tb_g := tb_c2 130 rfl rfl
theorem tw_371 : (Jvm.Cond.code ({ cls := "RoomNumbers$Teller", name := "number", desc := "(II)I" } : Jvm.MethodName) prog_9_method_9_code (4 : Nat) (Option.some Jvm.ClassFile.FieldType.int)) ∈ tb_g := tb_c2 131 rfl rfl
theorem tw_372 : (Jvm.Cond.stringRef "RoomNumbers$Teller" (103 : Nat) "at") ∈ lw_tbl := tb_l2 (List.mem_of_getElem? (i := 132) rfl)
theorem tw_373 : (Jvm.Cond.methodLink "RoomNumbers$Teller" (105 : Nat) ({ cls := "RoomNumbers$Teller", name := "takes", desc := "(I)Z" } : Jvm.MethodName)) ∈ tb_g := tb_c2 133 rfl rfl
theorem tw_375 : (Jvm.Cond.instanceMethod ({ cls := "RoomNumbers$Teller", name := "takes", desc := "(I)Z" } : Jvm.MethodName)) ∈ tb_g := tb_c2 135 rfl rfl
theorem tw_376 : (Jvm.Cond.code ({ cls := "RoomNumbers$Teller", name := "takes", desc := "(I)Z" } : Jvm.MethodName) prog_9_method_10_code (2 : Nat) (Option.some Jvm.ClassFile.FieldType.boolean)) ∈ tb_g := tb_c2 136 rfl rfl
theorem tw_377 : (Jvm.Cond.methodLink "RoomNumbers$Teller" (108 : Nat) ({ cls := "RoomNumbers$Teller", name := "marksTold", desc := "()I" } : Jvm.MethodName)) ∈ tb_g := tb_c2 137 rfl rfl
theorem tw_379 : (Jvm.Cond.instanceMethod ({ cls := "RoomNumbers$Teller", name := "marksTold", desc := "()I" } : Jvm.MethodName)) ∈ tb_g := tb_c2 139 rfl rfl
theorem tw_380 : (Jvm.Cond.code ({ cls := "RoomNumbers$Teller", name := "marksTold", desc := "()I" } : Jvm.MethodName) prog_9_method_6_code (2 : Nat) (Option.some Jvm.ClassFile.FieldType.int)) ∈ tb_g := tb_c2 140 rfl rfl
theorem tw_381 : (Jvm.Cond.methodLink "RoomNumbers$Teller" (111 : Nat) ({ cls := "java/lang/System", name := "arraycopy", desc := "(Ljava/lang/Object;ILjava/lang/Object;II)V" } : Jvm.MethodName)) ∈ tb_g := tb_c2 141 rfl rfl
theorem tw_382 : (Jvm.Cond.static ({ cls := "java/lang/System", name := "arraycopy", desc := "(Ljava/lang/Object;ILjava/lang/Object;II)V" } : Jvm.MethodName)) ∈ tb_g := tb_c2 142 rfl rfl
theorem tw_383 : (Jvm.Cond.native ({ cls := "java/lang/System", name := "arraycopy", desc := "(Ljava/lang/Object;ILjava/lang/Object;II)V" } : Jvm.MethodName)) ∈ tb_g := tb_c2 143 rfl rfl
theorem tw_384 : (Jvm.Cond.methodLink "RoomNumbers$Teller" (117 : Nat) ({ cls := "RoomNumbers$Valley", name := "addNote", desc := "(III[I)I" } : Jvm.MethodName)) ∈ tb_g := tb_c2 144 rfl rfl
theorem tw_385 : (Jvm.Cond.instanceMethod ({ cls := "RoomNumbers$Valley", name := "addNote", desc := "(III[I)I" } : Jvm.MethodName)) ∈ tb_g := tb_c2 145 rfl rfl
theorem tw_386 : (Jvm.Cond.selects "RoomNumbers$Valley" ({ cls := "RoomNumbers$Valley", name := "addNote", desc := "(III[I)I" } : Jvm.MethodName) ({ cls := "RoomNumbers$Valley", name := "addNote", desc := "(III[I)I" } : Jvm.MethodName)) ∈ tb_g := tb_c2 146 rfl rfl
theorem tw_387 : (Jvm.Cond.code ({ cls := "RoomNumbers$Valley", name := "addNote", desc := "(III[I)I" } : Jvm.MethodName) prog_12_method_8_code (6 : Nat) (Option.some Jvm.ClassFile.FieldType.int)) ∈ tb_g := tb_c2 147 rfl rfl
theorem tw_388 : (Jvm.Cond.classLink "RoomNumbers$Valley" (78 : Nat) "RoomNumbers$Strokes") ∈ tb_g := tb_c2 148 rfl rfl
theorem tw_389 : (Jvm.Cond.instantiable "RoomNumbers$Strokes" (4 : Nat)) ∈ tb_g := tb_c2 149 rfl rfl
theorem tw_390 : (Jvm.Cond.methodLink "RoomNumbers$Valley" (80 : Nat) ({ cls := "RoomNumbers$Strokes", name := "<init>", desc := "(III[I)V" } : Jvm.MethodName)) ∈ tb_g := tb_c2 150 rfl rfl
theorem tw_391 : (Jvm.Cond.instanceMethod ({ cls := "RoomNumbers$Strokes", name := "<init>", desc := "(III[I)V" } : Jvm.MethodName)) ∈ tb_g := tb_c2 151 rfl rfl
theorem tw_392 : (Jvm.Cond.code ({ cls := "RoomNumbers$Strokes", name := "<init>", desc := "(III[I)V" } : Jvm.MethodName) prog_8_method_1_code (5 : Nat) (Option.none : Option Jvm.ClassFile.FieldType)) ∈ tb_g := tb_c2 152 rfl rfl
theorem tw_393 : (Jvm.Cond.methodLink "RoomNumbers$Strokes" (1 : Nat) ({ cls := "RoomNumbers$Note", name := "<init>", desc := "(III[I)V" } : Jvm.MethodName)) ∈ tb_g := tb_c2 153 rfl rfl
theorem tw_394 : (Jvm.Cond.instanceMethod ({ cls := "RoomNumbers$Note", name := "<init>", desc := "(III[I)V" } : Jvm.MethodName)) ∈ tb_g := tb_c2 154 rfl rfl
theorem tw_395 : (Jvm.Cond.code ({ cls := "RoomNumbers$Note", name := "<init>", desc := "(III[I)V" } : Jvm.MethodName) prog_6_method_1_code (5 : Nat) (Option.none : Option Jvm.ClassFile.FieldType)) ∈ tb_g := tb_c2 155 rfl rfl
theorem tw_396 : (Jvm.Cond.methodLink "RoomNumbers$Note" (3 : Nat) ({ cls := "java/lang/Object", name := "<init>", desc := "()V" } : Jvm.MethodName)) ∈ tb_g := tb_c2 156 rfl rfl
theorem tw_397 : (Jvm.Cond.fieldLink "RoomNumbers$Note" (9 : Nat) "RoomNumbers$Note" "number" "I") ∈ tb_g := tb_c2 157 rfl rfl
theorem tw_398 : (Jvm.Cond.fieldLink "RoomNumbers$Debt" (28 : Nat) "RoomNumbers$Debt" "number" "I") ∈ tb_g := tb_c2 158 rfl rfl
theorem tw_399 : (Jvm.Cond.sameField "RoomNumbers$Debt" "RoomNumbers$Note" "number" "I") ∈ tb_g := tb_c2 159 rfl rfl
theorem tw_400 : (Jvm.Cond.fieldLink "RoomNumbers$Left" (24 : Nat) "RoomNumbers$Left" "number" "I") ∈ tb_g := tb_c2 160 rfl rfl
theorem tw_401 : (Jvm.Cond.sameField "RoomNumbers$Left" "RoomNumbers$Note" "number" "I") ∈ tb_g := tb_c2 161 rfl rfl
theorem tw_402 : (Jvm.Cond.fieldLink "RoomNumbers$Broken" (50 : Nat) "RoomNumbers$Broken" "number" "I") ∈ tb_g := tb_c2 162 rfl rfl
theorem tw_403 : (Jvm.Cond.sameField "RoomNumbers$Broken" "RoomNumbers$Note" "number" "I") ∈ tb_g := tb_c2 163 rfl rfl
theorem tw_404 : (Jvm.Cond.fieldLink "RoomNumbers$Finder" (142 : Nat) "RoomNumbers$Note" "number" "I") ∈ tb_g := tb_c2 164 rfl rfl
theorem tw_405 : (Jvm.Cond.fieldLink "RoomNumbers" (283 : Nat) "RoomNumbers$Note" "number" "I") ∈ tb_g := tb_c2 165 rfl rfl
theorem tw_406 : (Jvm.Cond.fieldLink "RoomNumbers$Note" (18 : Nat) "RoomNumbers$Note" "a" "I") ∈ tb_g := tb_c2 166 rfl rfl
theorem tw_407 : (Jvm.Cond.fieldLink "RoomNumbers$Valley" (63 : Nat) "RoomNumbers$Note" "a" "I") ∈ tb_g := tb_c2 167 rfl rfl
theorem tw_408 : (Jvm.Cond.fieldLink "RoomNumbers$Broken" (7 : Nat) "RoomNumbers$Broken" "a" "I") ∈ tb_g := tb_c2 168 rfl rfl
theorem tw_409 : (Jvm.Cond.sameField "RoomNumbers$Broken" "RoomNumbers$Note" "a" "I") ∈ tb_g := tb_c2 169 rfl rfl
theorem tw_410 : (Jvm.Cond.fieldLink "RoomNumbers$Strokes" (26 : Nat) "RoomNumbers$Strokes" "a" "I") ∈ tb_g := tb_c2 170 rfl rfl
theorem tw_411 : (Jvm.Cond.sameField "RoomNumbers$Strokes" "RoomNumbers$Note" "a" "I") ∈ tb_g := tb_c2 171 rfl rfl
theorem tw_412 : (Jvm.Cond.fieldLink "RoomNumbers$Turned" (29 : Nat) "RoomNumbers$Turned" "a" "I") ∈ tb_g := tb_c2 172 rfl rfl
theorem tw_413 : (Jvm.Cond.sameField "RoomNumbers$Turned" "RoomNumbers$Note" "a" "I") ∈ tb_g := tb_c2 173 rfl rfl
theorem tw_414 : (Jvm.Cond.fieldLink "RoomNumbers" (151 : Nat) "RoomNumbers$Note" "a" "I") ∈ tb_g := tb_c2 174 rfl rfl
theorem tw_415 : (Jvm.Cond.fieldLink "RoomNumbers$Note" (21 : Nat) "RoomNumbers$Note" "marks" "[I") ∈ tb_g := tb_c2 175 rfl rfl
theorem tw_416 : (Jvm.Cond.fieldLink "RoomNumbers$Strokes" (7 : Nat) "RoomNumbers$Strokes" "marks" "[I") ∈ tb_g := tb_c2 176 rfl rfl
theorem tw_417 : (Jvm.Cond.sameField "RoomNumbers$Strokes" "RoomNumbers$Note" "marks" "[I") ∈ tb_g := tb_c2 177 rfl rfl
theorem tw_418 : (Jvm.Cond.fieldLink "RoomNumbers$Turned" (7 : Nat) "RoomNumbers$Turned" "marks" "[I") ∈ tb_g := tb_c2 178 rfl rfl
theorem tw_419 : (Jvm.Cond.sameField "RoomNumbers$Turned" "RoomNumbers$Note" "marks" "[I") ∈ tb_g := tb_c2 179 rfl rfl
theorem tw_420 : (Jvm.Cond.fieldLink "RoomNumbers$Valley" (66 : Nat) "RoomNumbers$Note" "marks" "[I") ∈ tb_g := tb_c2 180 rfl rfl
theorem tw_421 : (Jvm.Cond.fieldLink "RoomNumbers$Broken" (13 : Nat) "RoomNumbers$Broken" "marks" "[I") ∈ tb_g := tb_c2 181 rfl rfl
theorem tw_422 : (Jvm.Cond.sameField "RoomNumbers$Broken" "RoomNumbers$Note" "marks" "[I") ∈ tb_g := tb_c2 182 rfl rfl
theorem tw_423 : (Jvm.Cond.fieldLink "RoomNumbers" (154 : Nat) "RoomNumbers$Note" "marks" "[I") ∈ tb_g := tb_c2 183 rfl rfl
theorem tw_424 : (Jvm.Cond.fieldLink "RoomNumbers$Finder" (119 : Nat) "RoomNumbers$Note" "marks" "[I") ∈ tb_g := tb_c2 184 rfl rfl
theorem tw_425 : (Jvm.Cond.fieldLink "RoomNumbers$Note" (15 : Nat) "RoomNumbers$Note" "evening" "I") ∈ tb_g := tb_c2 185 rfl rfl
theorem tw_426 : (Jvm.Cond.fieldLink "RoomNumbers$Valley" (60 : Nat) "RoomNumbers$Note" "evening" "I") ∈ tb_g := tb_c2 186 rfl rfl
theorem tw_427 : (Jvm.Cond.fieldLink "RoomNumbers" (148 : Nat) "RoomNumbers$Note" "evening" "I") ∈ tb_g := tb_c2 187 rfl rfl
theorem tw_428 : (Jvm.Cond.fieldLink "RoomNumbers$Finder" (139 : Nat) "RoomNumbers$Note" "evening" "I") ∈ tb_g := tb_c2 188 rfl rfl
theorem tw_429 : (Jvm.Cond.laysFinal "RoomNumbers$Strokes" "RoomNumbers$Note" "number" "I") ∈ tb_g := tb_c2 189 rfl rfl
theorem tw_431 : (Jvm.Cond.laysFinal "RoomNumbers$Strokes" "RoomNumbers$Note" "a" "I") ∈ tb_g := tb_c2 191 rfl rfl
theorem tw_433 : (Jvm.Cond.laysFinal "RoomNumbers$Strokes" "RoomNumbers$Note" "marks" "[I") ∈ tb_g := tb_c2 193 rfl rfl
theorem tw_435 : (Jvm.Cond.lays "RoomNumbers$Strokes" "RoomNumbers$Note" "evening" "I") ∈ tb_g := tb_c2 195 rfl rfl
theorem tw_437 : (Jvm.Cond.superclass "RoomNumbers$Strokes" "RoomNumbers$Note") ∈ tb_g := tb_c2 197 rfl rfl
theorem tw_438 : (Jvm.Cond.arrayClass Jvm.ClassFile.FieldType.byte) ∈ tb_g := tb_c2 198 rfl rfl
theorem tw_439 : (Jvm.Cond.classLink "RoomNumbers$Valley" (83 : Nat) "RoomNumbers$Broken") ∈ tb_g := tb_c2 199 rfl rfl
theorem tw_440 : (Jvm.Cond.instantiable "RoomNumbers$Broken" (4 : Nat)) ∈ tb_g := tb_c2 200 rfl rfl
theorem tw_441 : (Jvm.Cond.methodLink "RoomNumbers$Valley" (85 : Nat) ({ cls := "RoomNumbers$Broken", name := "<init>", desc := "(III[I)V" } : Jvm.MethodName)) ∈ tb_g := tb_c2 201 rfl rfl
theorem tw_442 : (Jvm.Cond.instanceMethod ({ cls := "RoomNumbers$Broken", name := "<init>", desc := "(III[I)V" } : Jvm.MethodName)) ∈ tb_g := tb_c2 202 rfl rfl
theorem tw_443 : (Jvm.Cond.code ({ cls := "RoomNumbers$Broken", name := "<init>", desc := "(III[I)V" } : Jvm.MethodName) prog_2_method_1_code (5 : Nat) (Option.none : Option Jvm.ClassFile.FieldType)) ∈ tb_g := tb_c2 203 rfl rfl
theorem tw_444 : (Jvm.Cond.methodLink "RoomNumbers$Broken" (1 : Nat) ({ cls := "RoomNumbers$Note", name := "<init>", desc := "(III[I)V" } : Jvm.MethodName)) ∈ tb_g := tb_c2 204 rfl rfl
theorem tw_445 : (Jvm.Cond.laysFinal "RoomNumbers$Broken" "RoomNumbers$Note" "number" "I") ∈ tb_g := tb_c2 205 rfl rfl
theorem tw_446 : (Jvm.Cond.laysFinal "RoomNumbers$Broken" "RoomNumbers$Note" "a" "I") ∈ tb_g := tb_c2 206 rfl rfl
theorem tw_447 : (Jvm.Cond.laysFinal "RoomNumbers$Broken" "RoomNumbers$Note" "marks" "[I") ∈ tb_g := tb_c2 207 rfl rfl
theorem tw_448 : (Jvm.Cond.lays "RoomNumbers$Broken" "RoomNumbers$Note" "evening" "I") ∈ tb_g := tb_c2 208 rfl rfl
theorem tw_449 : (Jvm.Cond.superclass "RoomNumbers$Broken" "RoomNumbers$Note") ∈ tb_g := tb_c2 209 rfl rfl
theorem tw_450 : (Jvm.Cond.classLink "RoomNumbers$Valley" (86 : Nat) "RoomNumbers$Left") ∈ tb_g := tb_c2 210 rfl rfl
theorem tw_451 : (Jvm.Cond.instantiable "RoomNumbers$Left" (4 : Nat)) ∈ tb_g := tb_c2 211 rfl rfl
theorem tw_452 : (Jvm.Cond.methodLink "RoomNumbers$Valley" (88 : Nat) ({ cls := "RoomNumbers$Left", name := "<init>", desc := "(III[I)V" } : Jvm.MethodName)) ∈ tb_g := tb_c2 212 rfl rfl
theorem tw_453 : (Jvm.Cond.instanceMethod ({ cls := "RoomNumbers$Left", name := "<init>", desc := "(III[I)V" } : Jvm.MethodName)) ∈ tb_g := tb_c2 213 rfl rfl
theorem tw_454 : (Jvm.Cond.code ({ cls := "RoomNumbers$Left", name := "<init>", desc := "(III[I)V" } : Jvm.MethodName) prog_5_method_1_code (5 : Nat) (Option.none : Option Jvm.ClassFile.FieldType)) ∈ tb_g := tb_c2 214 rfl rfl
theorem tw_455 : (Jvm.Cond.methodLink "RoomNumbers$Left" (1 : Nat) ({ cls := "RoomNumbers$Broken", name := "<init>", desc := "(III[I)V" } : Jvm.MethodName)) ∈ tb_g := tb_c2 215 rfl rfl
theorem tw_456 : (Jvm.Cond.laysFinal "RoomNumbers$Left" "RoomNumbers$Note" "number" "I") ∈ tb_g := tb_c2 216 rfl rfl
theorem tw_457 : (Jvm.Cond.laysFinal "RoomNumbers$Left" "RoomNumbers$Note" "a" "I") ∈ tb_g := tb_c2 217 rfl rfl
theorem tw_458 : (Jvm.Cond.laysFinal "RoomNumbers$Left" "RoomNumbers$Note" "marks" "[I") ∈ tb_g := tb_c2 218 rfl rfl
theorem tw_459 : (Jvm.Cond.lays "RoomNumbers$Left" "RoomNumbers$Note" "evening" "I") ∈ tb_g := tb_c2 219 rfl rfl
theorem tw_460 : (Jvm.Cond.superclass "RoomNumbers$Left" "RoomNumbers$Broken") ∈ tb_g := tb_c2 220 rfl rfl
theorem tw_461 : (Jvm.Cond.classLink "RoomNumbers$Valley" (89 : Nat) "RoomNumbers$Turned") ∈ tb_g := tb_c2 221 rfl rfl
theorem tw_462 : (Jvm.Cond.instantiable "RoomNumbers$Turned" (4 : Nat)) ∈ tb_g := tb_c2 222 rfl rfl
theorem tw_463 : (Jvm.Cond.methodLink "RoomNumbers$Valley" (91 : Nat) ({ cls := "RoomNumbers$Turned", name := "<init>", desc := "(III[I)V" } : Jvm.MethodName)) ∈ tb_g := tb_c2 223 rfl rfl
theorem tw_464 : (Jvm.Cond.instanceMethod ({ cls := "RoomNumbers$Turned", name := "<init>", desc := "(III[I)V" } : Jvm.MethodName)) ∈ tb_g := tb_c2 224 rfl rfl
theorem tw_465 : (Jvm.Cond.code ({ cls := "RoomNumbers$Turned", name := "<init>", desc := "(III[I)V" } : Jvm.MethodName) prog_11_method_1_code (5 : Nat) (Option.none : Option Jvm.ClassFile.FieldType)) ∈ tb_g := tb_c2 225 rfl rfl
theorem tw_466 : (Jvm.Cond.methodLink "RoomNumbers$Turned" (1 : Nat) ({ cls := "RoomNumbers$Note", name := "<init>", desc := "(III[I)V" } : Jvm.MethodName)) ∈ tb_g := tb_c2 226 rfl rfl
theorem tw_467 : (Jvm.Cond.laysFinal "RoomNumbers$Turned" "RoomNumbers$Note" "number" "I") ∈ tb_g := tb_c2 227 rfl rfl
theorem tw_468 : (Jvm.Cond.laysFinal "RoomNumbers$Turned" "RoomNumbers$Note" "a" "I") ∈ tb_g := tb_c2 228 rfl rfl
theorem tw_469 : (Jvm.Cond.laysFinal "RoomNumbers$Turned" "RoomNumbers$Note" "marks" "[I") ∈ tb_g := tb_c2 229 rfl rfl
theorem tw_470 : (Jvm.Cond.lays "RoomNumbers$Turned" "RoomNumbers$Note" "evening" "I") ∈ tb_g := tb_c2 230 rfl rfl
theorem tw_471 : (Jvm.Cond.superclass "RoomNumbers$Turned" "RoomNumbers$Note") ∈ tb_g := tb_c2 231 rfl rfl
theorem tw_472 : (Jvm.Cond.classLink "RoomNumbers$Valley" (92 : Nat) "RoomNumbers$Debt") ∈ tb_g := tb_c2 232 rfl rfl
theorem tw_473 : (Jvm.Cond.instantiable "RoomNumbers$Debt" (4 : Nat)) ∈ tb_g := tb_c2 233 rfl rfl
theorem tw_474 : (Jvm.Cond.methodLink "RoomNumbers$Valley" (94 : Nat) ({ cls := "RoomNumbers$Debt", name := "<init>", desc := "(III[I)V" } : Jvm.MethodName)) ∈ tb_g := tb_c2 234 rfl rfl
theorem tw_475 : (Jvm.Cond.instanceMethod ({ cls := "RoomNumbers$Debt", name := "<init>", desc := "(III[I)V" } : Jvm.MethodName)) ∈ tb_g := tb_c2 235 rfl rfl
theorem tw_476 : (Jvm.Cond.code ({ cls := "RoomNumbers$Debt", name := "<init>", desc := "(III[I)V" } : Jvm.MethodName) prog_3_method_1_code (5 : Nat) (Option.none : Option Jvm.ClassFile.FieldType)) ∈ tb_g := tb_c2 236 rfl rfl
theorem tw_477 : (Jvm.Cond.methodLink "RoomNumbers$Debt" (1 : Nat) ({ cls := "RoomNumbers$Strokes", name := "<init>", desc := "(III[I)V" } : Jvm.MethodName)) ∈ tb_g := tb_c2 237 rfl rfl
theorem tw_478 : (Jvm.Cond.laysFinal "RoomNumbers$Debt" "RoomNumbers$Note" "number" "I") ∈ tb_g := tb_c2 238 rfl rfl
theorem tw_479 : (Jvm.Cond.laysFinal "RoomNumbers$Debt" "RoomNumbers$Note" "a" "I") ∈ tb_g := tb_c2 239 rfl rfl
theorem tw_480 : (Jvm.Cond.laysFinal "RoomNumbers$Debt" "RoomNumbers$Note" "marks" "[I") ∈ tb_g := tb_c3 0 rfl rfl
theorem tw_481 : (Jvm.Cond.lays "RoomNumbers$Debt" "RoomNumbers$Note" "evening" "I") ∈ tb_g := tb_c3 1 rfl rfl
theorem tw_482 : (Jvm.Cond.superclass "RoomNumbers$Debt" "RoomNumbers$Strokes") ∈ tb_g := tb_c3 2 rfl rfl
theorem tw_483 : (Jvm.Cond.instantiable "RoomNumbers$Note" (4 : Nat)) ∈ tb_g := tb_c3 3 rfl rfl
theorem tw_484 : (Jvm.Cond.methodLink "RoomNumbers$Valley" (95 : Nat) ({ cls := "RoomNumbers$Note", name := "<init>", desc := "(III[I)V" } : Jvm.MethodName)) ∈ tb_g := tb_c3 4 rfl rfl
theorem tw_485 : (Jvm.Cond.laysFinal "RoomNumbers$Note" "RoomNumbers$Note" "number" "I") ∈ tb_g := tb_c3 5 rfl rfl
theorem tw_486 : (Jvm.Cond.laysFinal "RoomNumbers$Note" "RoomNumbers$Note" "a" "I") ∈ tb_g := tb_c3 6 rfl rfl
theorem tw_487 : (Jvm.Cond.laysFinal "RoomNumbers$Note" "RoomNumbers$Note" "marks" "[I") ∈ tb_g := tb_c3 7 rfl rfl
theorem tw_488 : (Jvm.Cond.lays "RoomNumbers$Note" "RoomNumbers$Note" "evening" "I") ∈ tb_g := tb_c3 8 rfl rfl
theorem tw_489 : (Jvm.Cond.superclass "RoomNumbers$Note" "java/lang/Object") ∈ tb_g := tb_c3 9 rfl rfl
theorem tw_490 : (Jvm.Cond.methodLink "RoomNumbers$Teller" (64 : Nat) ({ cls := "RoomNumbers$Teller", name := "lineTold", desc := "(I)Z" } : Jvm.MethodName)) ∈ tb_g := tb_c3 10 rfl rfl
theorem tw_492 : (Jvm.Cond.instanceMethod ({ cls := "RoomNumbers$Teller", name := "lineTold", desc := "(I)Z" } : Jvm.MethodName)) ∈ tb_g := tb_c3 12 rfl rfl
theorem tw_493 : (Jvm.Cond.code ({ cls := "RoomNumbers$Teller", name := "lineTold", desc := "(I)Z" } : Jvm.MethodName) prog_9_method_8_code (6 : Nat) (Option.some Jvm.ClassFile.FieldType.boolean)) ∈ tb_g := tb_c3 13 rfl rfl
theorem tw_494 : (Jvm.Cond.methodLink "RoomNumbers$Teller" (128 : Nat) ({ cls := "RoomNumbers$Valley", name := "addLine", desc := "(IIII)I" } : Jvm.MethodName)) ∈ tb_g := tb_c3 14 rfl rfl
theorem tw_495 : (Jvm.Cond.instanceMethod ({ cls := "RoomNumbers$Valley", name := "addLine", desc := "(IIII)I" } : Jvm.MethodName)) ∈ tb_g := tb_c3 15 rfl rfl
theorem tw_496 : (Jvm.Cond.selects "RoomNumbers$Valley" ({ cls := "RoomNumbers$Valley", name := "addLine", desc := "(IIII)I" } : Jvm.MethodName) ({ cls := "RoomNumbers$Valley", name := "addLine", desc := "(IIII)I" } : Jvm.MethodName)) ∈ tb_g := tb_c3 16 rfl rfl
theorem tw_497 : (Jvm.Cond.code ({ cls := "RoomNumbers$Valley", name := "addLine", desc := "(IIII)I" } : Jvm.MethodName) prog_12_method_9_code (6 : Nat) (Option.some Jvm.ClassFile.FieldType.int)) ∈ tb_g := tb_c3 17 rfl rfl
theorem tw_498 : (Jvm.Cond.stringRef "RoomNumbers$Teller" (67 : Nat) "evening") ∈ lw_tbl := tb_l3 (List.mem_of_getElem? (i := 18) rfl)
theorem tw_499 : (Jvm.Cond.methodLink "RoomNumbers$Teller" (73 : Nat) ({ cls := "RoomNumbers$Teller", name := "eveningTold", desc := "()Z" } : Jvm.MethodName)) ∈ tb_g := tb_c3 19 rfl rfl
theorem tw_501 : (Jvm.Cond.instanceMethod ({ cls := "RoomNumbers$Teller", name := "eveningTold", desc := "()Z" } : Jvm.MethodName)) ∈ tb_g := tb_c3 21 rfl rfl
theorem tw_502 : (Jvm.Cond.code ({ cls := "RoomNumbers$Teller", name := "eveningTold", desc := "()Z" } : Jvm.MethodName) prog_9_method_7_code (4 : Nat) (Option.some Jvm.ClassFile.FieldType.boolean)) ∈ tb_g := tb_c3 22 rfl rfl
theorem tw_503 : (Jvm.Cond.methodLink "RoomNumbers$Teller" (121 : Nat) ({ cls := "RoomNumbers$Valley", name := "setEvening", desc := "(III)V" } : Jvm.MethodName)) ∈ tb_g := tb_c3 23 rfl rfl
theorem tw_504 : (Jvm.Cond.instanceMethod ({ cls := "RoomNumbers$Valley", name := "setEvening", desc := "(III)V" } : Jvm.MethodName)) ∈ tb_g := tb_c3 24 rfl rfl
theorem tw_505 : (Jvm.Cond.selects "RoomNumbers$Valley" ({ cls := "RoomNumbers$Valley", name := "setEvening", desc := "(III)V" } : Jvm.MethodName) ({ cls := "RoomNumbers$Valley", name := "setEvening", desc := "(III)V" } : Jvm.MethodName)) ∈ tb_g := tb_c3 25 rfl rfl
theorem tw_506 : (Jvm.Cond.code ({ cls := "RoomNumbers$Valley", name := "setEvening", desc := "(III)V" } : Jvm.MethodName) prog_12_method_4_code (4 : Nat) (Option.none : Option Jvm.ClassFile.FieldType)) ∈ tb_g := tb_c3 26 rfl rfl
theorem tw_507 : (Jvm.Cond.methodLink "RoomNumbers" (106 : Nat) ({ cls := "RoomNumbers$Valley", name := "become", desc := "(LRoomNumbers$Valley;)V" } : Jvm.MethodName)) ∈ tb_g := tb_c3 27 rfl rfl
theorem tw_508 : (Jvm.Cond.instanceMethod ({ cls := "RoomNumbers$Valley", name := "become", desc := "(LRoomNumbers$Valley;)V" } : Jvm.MethodName)) ∈ tb_g := tb_c3 28 rfl rfl
theorem tw_509 : (Jvm.Cond.selects "RoomNumbers$Valley" ({ cls := "RoomNumbers$Valley", name := "become", desc := "(LRoomNumbers$Valley;)V" } : Jvm.MethodName) ({ cls := "RoomNumbers$Valley", name := "become", desc := "(LRoomNumbers$Valley;)V" } : Jvm.MethodName)) ∈ tb_g := tb_c3 29 rfl rfl
theorem tw_510 : (Jvm.Cond.code ({ cls := "RoomNumbers$Valley", name := "become", desc := "(LRoomNumbers$Valley;)V" } : Jvm.MethodName) prog_12_method_3_code (4 : Nat) (Option.none : Option Jvm.ClassFile.FieldType)) ∈ tb_g := tb_c3 30 rfl rfl
theorem tw_511 : (Jvm.Cond.methodLink "RoomNumbers$Valley" (43 : Nat) ({ cls := "RoomNumbers$Valley", name := "clear", desc := "()V" } : Jvm.MethodName)) ∈ tb_g := tb_c3 31 rfl rfl
theorem tw_512 : (Jvm.Cond.methodLink "RoomNumbers$Valley" (46 : Nat) ({ cls := "java/lang/System", name := "arraycopy", desc := "(Ljava/lang/Object;ILjava/lang/Object;II)V" } : Jvm.MethodName)) ∈ tb_g := tb_c3 32 rfl rfl
theorem tw_513 : (Jvm.Cond.methodLink "RoomNumbers$Valley" (52 : Nat) ({ cls := "RoomNumbers$Valley", name := "noteAt", desc := "(I)LRoomNumbers$Note;" } : Jvm.MethodName)) ∈ tb_g := tb_c3 33 rfl rfl
theorem tw_514 : (Jvm.Cond.instanceMethod ({ cls := "RoomNumbers$Valley", name := "noteAt", desc := "(I)LRoomNumbers$Note;" } : Jvm.MethodName)) ∈ tb_g := tb_c3 34 rfl rfl
theorem tw_515 : (Jvm.Cond.selects "RoomNumbers$Valley" ({ cls := "RoomNumbers$Valley", name := "noteAt", desc := "(I)LRoomNumbers$Note;" } : Jvm.MethodName) ({ cls := "RoomNumbers$Valley", name := "noteAt", desc := "(I)LRoomNumbers$Note;" } : Jvm.MethodName)) ∈ tb_g := tb_c3 35 rfl rfl
theorem tw_516 : (Jvm.Cond.code ({ cls := "RoomNumbers$Valley", name := "noteAt", desc := "(I)LRoomNumbers$Note;" } : Jvm.MethodName) prog_12_method_7_code (2 : Nat) (Option.some (Jvm.ClassFile.FieldType.object "RoomNumbers$Note"))) ∈ tb_g := tb_c3 36 rfl rfl
theorem tw_517 : (Jvm.Cond.methodLink "RoomNumbers$Valley" (56 : Nat) ({ cls := "RoomNumbers$Note", name := "kind", desc := "()I" } : Jvm.MethodName)) ∈ tb_g := tb_c3 37 rfl rfl
theorem tw_518 : (Jvm.Cond.instanceMethod ({ cls := "RoomNumbers$Note", name := "kind", desc := "()I" } : Jvm.MethodName)) ∈ tb_g := tb_c3 38 rfl rfl
theorem tw_519 : (Jvm.Cond.selects "RoomNumbers$Note" ({ cls := "RoomNumbers$Note", name := "kind", desc := "()I" } : Jvm.MethodName) ({ cls := "RoomNumbers$Note", name := "kind", desc := "()I" } : Jvm.MethodName)) ∈ tb_g := tb_c3 39 rfl rfl
theorem tw_520 : (Jvm.Cond.sameMethod "RoomNumbers$Note" "RoomNumbers$Note" "kind" "()I") ∈ tb_g := tb_c3 40 rfl rfl
theorem tw_521 : (Jvm.Cond.selects "RoomNumbers$Broken" ({ cls := "RoomNumbers$Note", name := "kind", desc := "()I" } : Jvm.MethodName) ({ cls := "RoomNumbers$Broken", name := "kind", desc := "()I" } : Jvm.MethodName)) ∈ tb_g := tb_c3 41 rfl rfl
theorem tw_522 : (Jvm.Cond.instanceMethod ({ cls := "RoomNumbers$Broken", name := "kind", desc := "()I" } : Jvm.MethodName)) ∈ tb_g := tb_c3 42 rfl rfl
theorem tw_523 : (Jvm.Cond.code ({ cls := "RoomNumbers$Broken", name := "kind", desc := "()I" } : Jvm.MethodName) prog_2_method_2_code (1 : Nat) (Option.some Jvm.ClassFile.FieldType.int)) ∈ tb_g := tb_c3 43 rfl rfl
theorem tw_524 : (Jvm.Cond.selects "RoomNumbers$Debt" ({ cls := "RoomNumbers$Note", name := "kind", desc := "()I" } : Jvm.MethodName) ({ cls := "RoomNumbers$Debt", name := "kind", desc := "()I" } : Jvm.MethodName)) ∈ tb_g := tb_c3 44 rfl rfl
theorem tw_525 : (Jvm.Cond.instanceMethod ({ cls := "RoomNumbers$Debt", name := "kind", desc := "()I" } : Jvm.MethodName)) ∈ tb_g := tb_c3 45 rfl rfl
theorem tw_526 : (Jvm.Cond.code ({ cls := "RoomNumbers$Debt", name := "kind", desc := "()I" } : Jvm.MethodName) prog_3_method_2_code (1 : Nat) (Option.some Jvm.ClassFile.FieldType.int)) ∈ tb_g := tb_c3 46 rfl rfl
theorem tw_527 : (Jvm.Cond.selects "RoomNumbers$Left" ({ cls := "RoomNumbers$Note", name := "kind", desc := "()I" } : Jvm.MethodName) ({ cls := "RoomNumbers$Left", name := "kind", desc := "()I" } : Jvm.MethodName)) ∈ tb_g := tb_c3 47 rfl rfl
theorem tw_528 : (Jvm.Cond.instanceMethod ({ cls := "RoomNumbers$Left", name := "kind", desc := "()I" } : Jvm.MethodName)) ∈ tb_g := tb_c3 48 rfl rfl
theorem tw_529 : (Jvm.Cond.code ({ cls := "RoomNumbers$Left", name := "kind", desc := "()I" } : Jvm.MethodName) prog_5_method_2_code (1 : Nat) (Option.some Jvm.ClassFile.FieldType.int)) ∈ tb_g := tb_c3 49 rfl rfl
theorem tw_530 : (Jvm.Cond.selects "RoomNumbers$Strokes" ({ cls := "RoomNumbers$Note", name := "kind", desc := "()I" } : Jvm.MethodName) ({ cls := "RoomNumbers$Strokes", name := "kind", desc := "()I" } : Jvm.MethodName)) ∈ tb_g := tb_c3 50 rfl rfl
theorem tw_531 : (Jvm.Cond.instanceMethod ({ cls := "RoomNumbers$Strokes", name := "kind", desc := "()I" } : Jvm.MethodName)) ∈ tb_g := tb_c3 51 rfl rfl
theorem tw_532 : (Jvm.Cond.code ({ cls := "RoomNumbers$Strokes", name := "kind", desc := "()I" } : Jvm.MethodName) prog_8_method_2_code (1 : Nat) (Option.some Jvm.ClassFile.FieldType.int)) ∈ tb_g := tb_c3 52 rfl rfl
theorem tw_533 : (Jvm.Cond.selects "RoomNumbers$Turned" ({ cls := "RoomNumbers$Note", name := "kind", desc := "()I" } : Jvm.MethodName) ({ cls := "RoomNumbers$Turned", name := "kind", desc := "()I" } : Jvm.MethodName)) ∈ tb_g := tb_c3 53 rfl rfl
theorem tw_534 : (Jvm.Cond.instanceMethod ({ cls := "RoomNumbers$Turned", name := "kind", desc := "()I" } : Jvm.MethodName)) ∈ tb_g := tb_c3 54 rfl rfl
theorem tw_535 : (Jvm.Cond.code ({ cls := "RoomNumbers$Turned", name := "kind", desc := "()I" } : Jvm.MethodName) prog_11_method_2_code (1 : Nat) (Option.some Jvm.ClassFile.FieldType.int)) ∈ tb_g := tb_c3 55 rfl rfl
theorem tw_536 : (Jvm.Cond.code ({ cls := "RoomNumbers$Note", name := "kind", desc := "()I" } : Jvm.MethodName) prog_6_method_2_code (1 : Nat) (Option.some Jvm.ClassFile.FieldType.int)) ∈ tb_g := tb_c3 56 rfl rfl
theorem tw_537 : (Jvm.Cond.methodLink "RoomNumbers$Valley" (69 : Nat) ({ cls := "[I", name := "clone", desc := "()Ljava/lang/Object;" } : Jvm.MethodName)) ∈ tb_g := tb_c3 57 rfl rfl
theorem tw_538 : (Jvm.Cond.sameMethod "[I" "java/lang/Object" "clone" "()Ljava/lang/Object;") ∈ tb_g := tb_c3 58 rfl rfl
theorem tw_539 : (Jvm.Cond.native ({ cls := "java/lang/Object", name := "clone", desc := "()Ljava/lang/Object;" } : Jvm.MethodName)) ∈ tb_g := tb_c3 59 rfl rfl
theorem tw_540 : (Jvm.Cond.instanceMethod ({ cls := "java/lang/Object", name := "clone", desc := "()Ljava/lang/Object;" } : Jvm.MethodName)) ∈ tb_g := tb_c3 60 rfl rfl
theorem tw_541 : (Jvm.Cond.selects "[I" ({ cls := "[I", name := "clone", desc := "()Ljava/lang/Object;" } : Jvm.MethodName) ({ cls := "java/lang/Object", name := "clone", desc := "()Ljava/lang/Object;" } : Jvm.MethodName)) ∈ tb_g := tb_c3 61 rfl rfl
theorem tw_542 : (Jvm.Cond.castable "[I" "java/lang/Cloneable") ∈ lw_tbl := tb_l3 (List.mem_of_getElem? (i := 62) rfl)
theorem tw_543 : (Jvm.Cond.classLink "RoomNumbers$Valley" (70 : Nat) "[I") ∈ tb_g := tb_c3 63 rfl rfl
theorem tw_544 : (Jvm.Cond.methodLink "RoomNumbers$Valley" (74 : Nat) ({ cls := "RoomNumbers$Valley", name := "addNote", desc := "(III[I)I" } : Jvm.MethodName)) ∈ tb_g := tb_c3 64 rfl rfl
theorem tw_545 : (Jvm.Cond.methodLink "RoomNumbersLaw" (25 : Nat) ({ cls := "RoomNumbers", name := "evening", desc := "(III)I" } : Jvm.MethodName)) ∈ tb_g := tb_c3 65 rfl rfl
theorem tw_546 : (Jvm.Cond.instanceMethod ({ cls := "RoomNumbers", name := "evening", desc := "(III)I" } : Jvm.MethodName)) ∈ tb_g := tb_c3 66 rfl rfl
theorem tw_547 : (Jvm.Cond.selects "RoomNumbers" ({ cls := "RoomNumbers", name := "evening", desc := "(III)I" } : Jvm.MethodName) ({ cls := "RoomNumbers", name := "evening", desc := "(III)I" } : Jvm.MethodName)) ∈ tb_g := tb_c3 67 rfl rfl
theorem tw_548 : (Jvm.Cond.code ({ cls := "RoomNumbers", name := "evening", desc := "(III)I" } : Jvm.MethodName) prog_1_method_4_code (4 : Nat) (Option.some Jvm.ClassFile.FieldType.int)) ∈ tb_g := tb_c3 68 rfl rfl
theorem tw_549 : (Jvm.Cond.methodLink "RoomNumbers" (113 : Nat) ({ cls := "RoomNumbers", name := "isEvening", desc := "(I)Z" } : Jvm.MethodName)) ∈ tb_g := tb_c3 69 rfl rfl
theorem tw_550 : (Jvm.Cond.static ({ cls := "RoomNumbers", name := "isEvening", desc := "(I)Z" } : Jvm.MethodName)) ∈ tb_g := tb_c3 70 rfl rfl
theorem tw_551 : (Jvm.Cond.code ({ cls := "RoomNumbers", name := "isEvening", desc := "(I)Z" } : Jvm.MethodName) prog_1_method_49_code (1 : Nat) (Option.some Jvm.ClassFile.FieldType.boolean)) ∈ tb_g := tb_c3 71 rfl rfl
theorem tw_552 : (Jvm.Cond.methodLink "RoomNumbers" (117 : Nat) ({ cls := "RoomNumbers", name := "isBase", desc := "(I)Z" } : Jvm.MethodName)) ∈ tb_g := tb_c3 72 rfl rfl
theorem tw_553 : (Jvm.Cond.static ({ cls := "RoomNumbers", name := "isBase", desc := "(I)Z" } : Jvm.MethodName)) ∈ tb_g := tb_c3 73 rfl rfl
theorem tw_554 : (Jvm.Cond.code ({ cls := "RoomNumbers", name := "isBase", desc := "(I)Z" } : Jvm.MethodName) prog_1_method_50_code (1 : Nat) (Option.some Jvm.ClassFile.FieldType.boolean)) ∈ tb_g := tb_c3 74 rfl rfl
theorem tw_555 : (Jvm.Cond.methodLink "RoomNumbers" (120 : Nat) ({ cls := "RoomNumbers$Valley", name := "setEvening", desc := "(III)V" } : Jvm.MethodName)) ∈ tb_g := tb_c3 75 rfl rfl
theorem tw_556 : (Jvm.Cond.methodLink "RoomNumbersLaw" (30 : Nat) ({ cls := "RoomNumbers", name := "eveningOf", desc := "(II)I" } : Jvm.MethodName)) ∈ tb_g := tb_c3 76 rfl rfl
theorem tw_557 : (Jvm.Cond.instanceMethod ({ cls := "RoomNumbers", name := "eveningOf", desc := "(II)I" } : Jvm.MethodName)) ∈ tb_g := tb_c3 77 rfl rfl
theorem tw_558 : (Jvm.Cond.selects "RoomNumbers" ({ cls := "RoomNumbers", name := "eveningOf", desc := "(II)I" } : Jvm.MethodName) ({ cls := "RoomNumbers", name := "eveningOf", desc := "(II)I" } : Jvm.MethodName)) ∈ tb_g := tb_c3 78 rfl rfl
theorem tw_559 : (Jvm.Cond.code ({ cls := "RoomNumbers", name := "eveningOf", desc := "(II)I" } : Jvm.MethodName) prog_1_method_5_code (3 : Nat) (Option.some Jvm.ClassFile.FieldType.int)) ∈ tb_g := tb_c3 79 rfl rfl
theorem tw_560 : (Jvm.Cond.methodLink "RoomNumbers" (130 : Nat) ({ cls := "RoomNumbers$Valley", name := "notesOf", desc := "(I)I" } : Jvm.MethodName)) ∈ tb_g := tb_c3 80 rfl rfl
theorem tw_561 : (Jvm.Cond.instanceMethod ({ cls := "RoomNumbers$Valley", name := "notesOf", desc := "(I)I" } : Jvm.MethodName)) ∈ tb_g := tb_c3 81 rfl rfl
theorem tw_562 : (Jvm.Cond.selects "RoomNumbers$Valley" ({ cls := "RoomNumbers$Valley", name := "notesOf", desc := "(I)I" } : Jvm.MethodName) ({ cls := "RoomNumbers$Valley", name := "notesOf", desc := "(I)I" } : Jvm.MethodName)) ∈ tb_g := tb_c3 82 rfl rfl
theorem tw_563 : (Jvm.Cond.code ({ cls := "RoomNumbers$Valley", name := "notesOf", desc := "(I)I" } : Jvm.MethodName) prog_12_method_5_code (5 : Nat) (Option.some Jvm.ClassFile.FieldType.int)) ∈ tb_g := tb_c3 83 rfl rfl
theorem tw_564 : (Jvm.Cond.methodLink "RoomNumbersLaw" (35 : Nat) ({ cls := "RoomNumbers", name := "note", desc := "(IIIII)I" } : Jvm.MethodName)) ∈ tb_g := tb_c3 84 rfl rfl
theorem tw_565 : (Jvm.Cond.instanceMethod ({ cls := "RoomNumbers", name := "note", desc := "(IIIII)I" } : Jvm.MethodName)) ∈ tb_g := tb_c3 85 rfl rfl
theorem tw_566 : (Jvm.Cond.selects "RoomNumbers" ({ cls := "RoomNumbers", name := "note", desc := "(IIIII)I" } : Jvm.MethodName) ({ cls := "RoomNumbers", name := "note", desc := "(IIIII)I" } : Jvm.MethodName)) ∈ tb_g := tb_c3 86 rfl rfl
theorem tw_567 : (Jvm.Cond.code ({ cls := "RoomNumbers", name := "note", desc := "(IIIII)I" } : Jvm.MethodName) prog_1_method_6_code (8 : Nat) (Option.some Jvm.ClassFile.FieldType.int)) ∈ tb_g := tb_c3 87 rfl rfl
theorem tw_568 : (Jvm.Cond.methodLink "RoomNumbers" (134 : Nat) ({ cls := "RoomNumbers$Valley", name := "addNote", desc := "(III[I)I" } : Jvm.MethodName)) ∈ tb_g := tb_c3 88 rfl rfl
theorem tw_569 : (Jvm.Cond.methodLink "RoomNumbersLaw" (40 : Nat) ({ cls := "RoomNumbers", name := "noteOf", desc := "(II)I" } : Jvm.MethodName)) ∈ tb_g := tb_c3 89 rfl rfl
theorem tw_570 : (Jvm.Cond.instanceMethod ({ cls := "RoomNumbers", name := "noteOf", desc := "(II)I" } : Jvm.MethodName)) ∈ tb_g := tb_c3 90 rfl rfl
theorem tw_571 : (Jvm.Cond.selects "RoomNumbers" ({ cls := "RoomNumbers", name := "noteOf", desc := "(II)I" } : Jvm.MethodName) ({ cls := "RoomNumbers", name := "noteOf", desc := "(II)I" } : Jvm.MethodName)) ∈ tb_g := tb_c3 91 rfl rfl
theorem tw_572 : (Jvm.Cond.code ({ cls := "RoomNumbers", name := "noteOf", desc := "(II)I" } : Jvm.MethodName) prog_1_method_7_code (4 : Nat) (Option.some Jvm.ClassFile.FieldType.int)) ∈ tb_g := tb_c3 92 rfl rfl
theorem tw_573 : (Jvm.Cond.methodLink "RoomNumbers" (138 : Nat) ({ cls := "RoomNumbers$Valley", name := "noteAt", desc := "(I)LRoomNumbers$Note;" } : Jvm.MethodName)) ∈ tb_g := tb_c3 93 rfl rfl
theorem tw_574 : (Jvm.Cond.methodLink "RoomNumbers" (142 : Nat) ({ cls := "RoomNumbers$Note", name := "kind", desc := "()I" } : Jvm.MethodName)) ∈ tb_g := tb_c3 94 rfl rfl
theorem tw_575 : (Jvm.Cond.methodLink "RoomNumbers" (157 : Nat) ({ cls := "RoomNumbers$Note", name := "hasPlace", desc := "(I)Z" } : Jvm.MethodName)) ∈ tb_g := tb_c3 95 rfl rfl
theorem tw_576 : (Jvm.Cond.instanceMethod ({ cls := "RoomNumbers$Note", name := "hasPlace", desc := "(I)Z" } : Jvm.MethodName)) ∈ tb_g := tb_c3 96 rfl rfl
theorem tw_577 : (Jvm.Cond.selects "RoomNumbers$Note" ({ cls := "RoomNumbers$Note", name := "hasPlace", desc := "(I)Z" } : Jvm.MethodName) ({ cls := "RoomNumbers$Note", name := "hasPlace", desc := "(I)Z" } : Jvm.MethodName)) ∈ tb_g := tb_c3 97 rfl rfl
theorem tw_578 : (Jvm.Cond.sameMethod "RoomNumbers$Note" "RoomNumbers$Note" "hasPlace" "(I)Z") ∈ tb_g := tb_c3 98 rfl rfl
theorem tw_579 : (Jvm.Cond.selects "RoomNumbers$Broken" ({ cls := "RoomNumbers$Note", name := "hasPlace", desc := "(I)Z" } : Jvm.MethodName) ({ cls := "RoomNumbers$Note", name := "hasPlace", desc := "(I)Z" } : Jvm.MethodName)) ∈ tb_g := tb_c3 99 rfl rfl
theorem tw_580 : (Jvm.Cond.selects "RoomNumbers$Debt" ({ cls := "RoomNumbers$Note", name := "hasPlace", desc := "(I)Z" } : Jvm.MethodName) ({ cls := "RoomNumbers$Note", name := "hasPlace", desc := "(I)Z" } : Jvm.MethodName)) ∈ tb_g := tb_c3 100 rfl rfl
theorem tw_581 : (Jvm.Cond.selects "RoomNumbers$Left" ({ cls := "RoomNumbers$Note", name := "hasPlace", desc := "(I)Z" } : Jvm.MethodName) ({ cls := "RoomNumbers$Note", name := "hasPlace", desc := "(I)Z" } : Jvm.MethodName)) ∈ tb_g := tb_c3 101 rfl rfl
theorem tw_582 : (Jvm.Cond.selects "RoomNumbers$Strokes" ({ cls := "RoomNumbers$Note", name := "hasPlace", desc := "(I)Z" } : Jvm.MethodName) ({ cls := "RoomNumbers$Note", name := "hasPlace", desc := "(I)Z" } : Jvm.MethodName)) ∈ tb_g := tb_c3 102 rfl rfl
theorem tw_583 : (Jvm.Cond.selects "RoomNumbers$Turned" ({ cls := "RoomNumbers$Note", name := "hasPlace", desc := "(I)Z" } : Jvm.MethodName) ({ cls := "RoomNumbers$Note", name := "hasPlace", desc := "(I)Z" } : Jvm.MethodName)) ∈ tb_g := tb_c3 103 rfl rfl
theorem tw_584 : (Jvm.Cond.code ({ cls := "RoomNumbers$Note", name := "hasPlace", desc := "(I)Z" } : Jvm.MethodName) prog_6_method_3_code (2 : Nat) (Option.some Jvm.ClassFile.FieldType.boolean)) ∈ tb_g := tb_c3 104 rfl rfl
theorem tw_585 : (Jvm.Cond.methodLink "RoomNumbersLaw" (44 : Nat) ({ cls := "RoomNumbers", name := "alter", desc := "(III)I" } : Jvm.MethodName)) ∈ tb_g := tb_c3 105 rfl rfl
theorem tw_586 : (Jvm.Cond.instanceMethod ({ cls := "RoomNumbers", name := "alter", desc := "(III)I" } : Jvm.MethodName)) ∈ tb_g := tb_c3 106 rfl rfl
theorem tw_587 : (Jvm.Cond.selects "RoomNumbers" ({ cls := "RoomNumbers", name := "alter", desc := "(III)I" } : Jvm.MethodName) ({ cls := "RoomNumbers", name := "alter", desc := "(III)I" } : Jvm.MethodName)) ∈ tb_g := tb_c3 107 rfl rfl
theorem tw_588 : (Jvm.Cond.code ({ cls := "RoomNumbers", name := "alter", desc := "(III)I" } : Jvm.MethodName) prog_1_method_8_code (6 : Nat) (Option.some Jvm.ClassFile.FieldType.int)) ∈ tb_g := tb_c3 108 rfl rfl
theorem tw_589 : (Jvm.Cond.methodLink "RoomNumbersLaw" (48 : Nat) ({ cls := "RoomNumbers", name := "move", desc := "(II)I" } : Jvm.MethodName)) ∈ tb_g := tb_c3 109 rfl rfl
theorem tw_590 : (Jvm.Cond.instanceMethod ({ cls := "RoomNumbers", name := "move", desc := "(II)I" } : Jvm.MethodName)) ∈ tb_g := tb_c3 110 rfl rfl
theorem tw_591 : (Jvm.Cond.selects "RoomNumbers" ({ cls := "RoomNumbers", name := "move", desc := "(II)I" } : Jvm.MethodName) ({ cls := "RoomNumbers", name := "move", desc := "(II)I" } : Jvm.MethodName)) ∈ tb_g := tb_c3 111 rfl rfl
theorem tw_592 : (Jvm.Cond.code ({ cls := "RoomNumbers", name := "move", desc := "(II)I" } : Jvm.MethodName) prog_1_method_9_code (5 : Nat) (Option.some Jvm.ClassFile.FieldType.int)) ∈ tb_g := tb_c3 112 rfl rfl
theorem tw_593 : (Jvm.Cond.methodLink "RoomNumbersLaw" (52 : Nat) ({ cls := "RoomNumbers", name := "worth", desc := "(II)J" } : Jvm.MethodName)) ∈ tb_g := tb_c3 113 rfl rfl
theorem tw_594 : (Jvm.Cond.instanceMethod ({ cls := "RoomNumbers", name := "worth", desc := "(II)J" } : Jvm.MethodName)) ∈ tb_g := tb_c3 114 rfl rfl
theorem tw_595 : (Jvm.Cond.selects "RoomNumbers" ({ cls := "RoomNumbers", name := "worth", desc := "(II)J" } : Jvm.MethodName) ({ cls := "RoomNumbers", name := "worth", desc := "(II)J" } : Jvm.MethodName)) ∈ tb_g := tb_c3 115 rfl rfl
theorem tw_596 : (Jvm.Cond.code ({ cls := "RoomNumbers", name := "worth", desc := "(II)J" } : Jvm.MethodName) prog_1_method_10_code (4 : Nat) (Option.some Jvm.ClassFile.FieldType.long)) ∈ tb_g := tb_c3 116 rfl rfl
theorem tw_597 : (Jvm.Cond.constantLong "RoomNumbers" (163 : Nat) (-1000000000000 : Int64)) ∈ tb_g := tb_c3 117 rfl rfl
theorem tw_598 : (Jvm.Cond.methodLink "RoomNumbers" (165 : Nat) ({ cls := "RoomNumbers$Note", name := "worthBy", desc := "(I)I" } : Jvm.MethodName)) ∈ tb_g := tb_c3 118 rfl rfl
theorem tw_599 : (Jvm.Cond.instanceMethod ({ cls := "RoomNumbers$Note", name := "worthBy", desc := "(I)I" } : Jvm.MethodName)) ∈ tb_g := tb_c3 119 rfl rfl
theorem tw_600 : (Jvm.Cond.selects "RoomNumbers$Note" ({ cls := "RoomNumbers$Note", name := "worthBy", desc := "(I)I" } : Jvm.MethodName) ({ cls := "RoomNumbers$Note", name := "worthBy", desc := "(I)I" } : Jvm.MethodName)) ∈ tb_g := tb_c3 120 rfl rfl
theorem tw_601 : (Jvm.Cond.sameMethod "RoomNumbers$Note" "RoomNumbers$Note" "worthBy" "(I)I") ∈ tb_g := tb_c3 121 rfl rfl
theorem tw_602 : (Jvm.Cond.selects "RoomNumbers$Broken" ({ cls := "RoomNumbers$Note", name := "worthBy", desc := "(I)I" } : Jvm.MethodName) ({ cls := "RoomNumbers$Broken", name := "worthBy", desc := "(I)I" } : Jvm.MethodName)) ∈ tb_g := tb_c3 122 rfl rfl
theorem tw_603 : (Jvm.Cond.instanceMethod ({ cls := "RoomNumbers$Broken", name := "worthBy", desc := "(I)I" } : Jvm.MethodName)) ∈ tb_g := tb_c3 123 rfl rfl
theorem tw_604 : (Jvm.Cond.code ({ cls := "RoomNumbers$Broken", name := "worthBy", desc := "(I)I" } : Jvm.MethodName) prog_2_method_4_code (3 : Nat) (Option.some Jvm.ClassFile.FieldType.int)) ∈ tb_g := tb_c3 124 rfl rfl
theorem tw_605 : (Jvm.Cond.methodLink "RoomNumbers$Broken" (17 : Nat) ({ cls := "java/lang/Math", name := "min", desc := "(II)I" } : Jvm.MethodName)) ∈ tb_g := tb_c3 125 rfl rfl
theorem tw_606 : (Jvm.Cond.methodLink "RoomNumbers$Broken" (23 : Nat) ({ cls := "RoomNumbers$Broken", name := "grown", desc := "(IIII)I" } : Jvm.MethodName)) ∈ tb_g := tb_c3 126 rfl rfl
theorem tw_607 : (Jvm.Cond.sameMethod "RoomNumbers$Broken" "RoomNumbers$Note" "grown" "(IIII)I") ∈ tb_g := tb_c3 127 rfl rfl
theorem tw_608 : (Jvm.Cond.declares ({ cls := "RoomNumbers$Note", name := "grown", desc := "(IIII)I" } : Jvm.MethodName)) ∈ lw_tbl := tb_l3 (List.mem_of_getElem? (i := 128) rfl)
theorem tw_609 : (Jvm.Cond.selects "RoomNumbers$Broken" ({ cls := "RoomNumbers$Broken", name := "grown", desc := "(IIII)I" } : Jvm.MethodName) ({ cls := "RoomNumbers$Note", name := "grown", desc := "(IIII)I" } : Jvm.MethodName)) ∈ tb_g := tb_c3 129 rfl rfl
theorem tw_610 : (Jvm.Cond.selects "RoomNumbers$Left" ({ cls := "RoomNumbers$Broken", name := "grown", desc := "(IIII)I" } : Jvm.MethodName) ({ cls := "RoomNumbers$Note", name := "grown", desc := "(IIII)I" } : Jvm.MethodName)) ∈ tb_g := tb_c3 130 rfl rfl
theorem tw_611 : (Jvm.Cond.instanceMethod ({ cls := "RoomNumbers$Note", name := "grown", desc := "(IIII)I" } : Jvm.MethodName)) ∈ tb_g := tb_c3 131 rfl rfl
theorem tw_612 : (Jvm.Cond.code ({ cls := "RoomNumbers$Note", name := "grown", desc := "(IIII)I" } : Jvm.MethodName) prog_6_method_9_code (7 : Nat) (Option.some Jvm.ClassFile.FieldType.int)) ∈ tb_g := tb_c3 132 rfl rfl
theorem tw_613 : (Jvm.Cond.methodLink "RoomNumbers$Broken" (27 : Nat) ({ cls := "RoomNumbers$Broken", name := "baseBehind", desc := "(I)I" } : Jvm.MethodName)) ∈ tb_g := tb_c3 133 rfl rfl
theorem tw_614 : (Jvm.Cond.instanceMethod ({ cls := "RoomNumbers$Broken", name := "baseBehind", desc := "(I)I" } : Jvm.MethodName)) ∈ tb_g := tb_c3 134 rfl rfl
theorem tw_615 : (Jvm.Cond.selects "RoomNumbers$Broken" ({ cls := "RoomNumbers$Broken", name := "baseBehind", desc := "(I)I" } : Jvm.MethodName) ({ cls := "RoomNumbers$Broken", name := "baseBehind", desc := "(I)I" } : Jvm.MethodName)) ∈ tb_g := tb_c3 135 rfl rfl
theorem tw_616 : (Jvm.Cond.sameMethod "RoomNumbers$Broken" "RoomNumbers$Broken" "baseBehind" "(I)I") ∈ tb_g := tb_c3 136 rfl rfl
theorem tw_617 : (Jvm.Cond.selects "RoomNumbers$Left" ({ cls := "RoomNumbers$Broken", name := "baseBehind", desc := "(I)I" } : Jvm.MethodName) ({ cls := "RoomNumbers$Left", name := "baseBehind", desc := "(I)I" } : Jvm.MethodName)) ∈ tb_g := tb_c3 137 rfl rfl
theorem tw_618 : (Jvm.Cond.instanceMethod ({ cls := "RoomNumbers$Left", name := "baseBehind", desc := "(I)I" } : Jvm.MethodName)) ∈ tb_g := tb_c3 138 rfl rfl
theorem tw_619 : (Jvm.Cond.code ({ cls := "RoomNumbers$Left", name := "baseBehind", desc := "(I)I" } : Jvm.MethodName) prog_5_method_3_code (2 : Nat) (Option.some Jvm.ClassFile.FieldType.int)) ∈ tb_g := tb_c3 139 rfl rfl
theorem tw_620 : (Jvm.Cond.code ({ cls := "RoomNumbers$Broken", name := "baseBehind", desc := "(I)I" } : Jvm.MethodName) prog_2_method_3_code (2 : Nat) (Option.some Jvm.ClassFile.FieldType.int)) ∈ tb_g := tb_c3 140 rfl rfl
theorem tw_621 : (Jvm.Cond.selects "RoomNumbers$Debt" ({ cls := "RoomNumbers$Note", name := "worthBy", desc := "(I)I" } : Jvm.MethodName) ({ cls := "RoomNumbers$Debt", name := "worthBy", desc := "(I)I" } : Jvm.MethodName)) ∈ tb_g := tb_c3 141 rfl rfl
theorem tw_622 : (Jvm.Cond.instanceMethod ({ cls := "RoomNumbers$Debt", name := "worthBy", desc := "(I)I" } : Jvm.MethodName)) ∈ tb_g := tb_c3 142 rfl rfl
theorem tw_623 : (Jvm.Cond.code ({ cls := "RoomNumbers$Debt", name := "worthBy", desc := "(I)I" } : Jvm.MethodName) prog_3_method_3_code (2 : Nat) (Option.some Jvm.ClassFile.FieldType.int)) ∈ tb_g := tb_c3 143 rfl rfl
theorem tw_624 : (Jvm.Cond.methodLink "RoomNumbers$Debt" (7 : Nat) ({ cls := "RoomNumbers$Strokes", name := "worthBy", desc := "(I)I" } : Jvm.MethodName)) ∈ tb_g := tb_c3 144 rfl rfl
theorem tw_625 : (Jvm.Cond.instanceMethod ({ cls := "RoomNumbers$Strokes", name := "worthBy", desc := "(I)I" } : Jvm.MethodName)) ∈ tb_g := tb_c3 145 rfl rfl
theorem tw_626 : (Jvm.Cond.code ({ cls := "RoomNumbers$Strokes", name := "worthBy", desc := "(I)I" } : Jvm.MethodName) prog_8_method_3_code (2 : Nat) (Option.some Jvm.ClassFile.FieldType.int)) ∈ tb_g := tb_c3 146 rfl rfl
theorem tw_627 : (Jvm.Cond.selects "RoomNumbers$Left" ({ cls := "RoomNumbers$Note", name := "worthBy", desc := "(I)I" } : Jvm.MethodName) ({ cls := "RoomNumbers$Broken", name := "worthBy", desc := "(I)I" } : Jvm.MethodName)) ∈ tb_g := tb_c3 147 rfl rfl
theorem tw_628 : (Jvm.Cond.selects "RoomNumbers$Strokes" ({ cls := "RoomNumbers$Note", name := "worthBy", desc := "(I)I" } : Jvm.MethodName) ({ cls := "RoomNumbers$Strokes", name := "worthBy", desc := "(I)I" } : Jvm.MethodName)) ∈ tb_g := tb_c3 148 rfl rfl
theorem tw_629 : (Jvm.Cond.selects "RoomNumbers$Turned" ({ cls := "RoomNumbers$Note", name := "worthBy", desc := "(I)I" } : Jvm.MethodName) ({ cls := "RoomNumbers$Turned", name := "worthBy", desc := "(I)I" } : Jvm.MethodName)) ∈ tb_g := tb_c3 149 rfl rfl
theorem tw_630 : (Jvm.Cond.instanceMethod ({ cls := "RoomNumbers$Turned", name := "worthBy", desc := "(I)I" } : Jvm.MethodName)) ∈ tb_g := tb_c3 150 rfl rfl
theorem tw_631 : (Jvm.Cond.code ({ cls := "RoomNumbers$Turned", name := "worthBy", desc := "(I)I" } : Jvm.MethodName) prog_11_method_3_code (4 : Nat) (Option.some Jvm.ClassFile.FieldType.int)) ∈ tb_g := tb_c3 151 rfl rfl
theorem tw_632 : (Jvm.Cond.code ({ cls := "RoomNumbers$Note", name := "worthBy", desc := "(I)I" } : Jvm.MethodName) prog_6_method_6_code (2 : Nat) (Option.some Jvm.ClassFile.FieldType.int)) ∈ tb_g := tb_c3 152 rfl rfl
theorem tw_633 : (Jvm.Cond.methodLink "RoomNumbers$Note" (39 : Nat) ({ cls := "RoomNumbers$Note", name := "grown", desc := "(IIII)I" } : Jvm.MethodName)) ∈ tb_g := tb_c3 153 rfl rfl
theorem tw_634 : (Jvm.Cond.methodLink "RoomNumbersLaw" (57 : Nat) ({ cls := "RoomNumbers", name := "can", desc := "(I)I" } : Jvm.MethodName)) ∈ tb_g := tb_c3 154 rfl rfl
theorem tw_635 : (Jvm.Cond.instanceMethod ({ cls := "RoomNumbers", name := "can", desc := "(I)I" } : Jvm.MethodName)) ∈ tb_g := tb_c3 155 rfl rfl
theorem tw_636 : (Jvm.Cond.selects "RoomNumbers" ({ cls := "RoomNumbers", name := "can", desc := "(I)I" } : Jvm.MethodName) ({ cls := "RoomNumbers", name := "can", desc := "(I)I" } : Jvm.MethodName)) ∈ tb_g := tb_c3 156 rfl rfl
theorem tw_637 : (Jvm.Cond.code ({ cls := "RoomNumbers", name := "can", desc := "(I)I" } : Jvm.MethodName) prog_1_method_11_code (3 : Nat) (Option.some Jvm.ClassFile.FieldType.int)) ∈ tb_g := tb_c3 157 rfl rfl
theorem tw_638 : (Jvm.Cond.methodLink "RoomNumbers" (168 : Nat) ({ cls := "RoomNumbers$Note", name := "basesItCanBeIn", desc := "()I" } : Jvm.MethodName)) ∈ tb_g := tb_c3 158 rfl rfl
theorem tw_639 : (Jvm.Cond.instanceMethod ({ cls := "RoomNumbers$Note", name := "basesItCanBeIn", desc := "()I" } : Jvm.MethodName)) ∈ tb_g := tb_c3 159 rfl rfl
theorem tw_640 : (Jvm.Cond.selects "RoomNumbers$Note" ({ cls := "RoomNumbers$Note", name := "basesItCanBeIn", desc := "()I" } : Jvm.MethodName) ({ cls := "RoomNumbers$Note", name := "basesItCanBeIn", desc := "()I" } : Jvm.MethodName)) ∈ tb_g := tb_c3 160 rfl rfl
theorem tw_641 : (Jvm.Cond.sameMethod "RoomNumbers$Note" "RoomNumbers$Note" "basesItCanBeIn" "()I") ∈ tb_g := tb_c3 161 rfl rfl
theorem tw_642 : (Jvm.Cond.selects "RoomNumbers$Broken" ({ cls := "RoomNumbers$Note", name := "basesItCanBeIn", desc := "()I" } : Jvm.MethodName) ({ cls := "RoomNumbers$Note", name := "basesItCanBeIn", desc := "()I" } : Jvm.MethodName)) ∈ tb_g := tb_c3 162 rfl rfl
theorem tw_643 : (Jvm.Cond.selects "RoomNumbers$Debt" ({ cls := "RoomNumbers$Note", name := "basesItCanBeIn", desc := "()I" } : Jvm.MethodName) ({ cls := "RoomNumbers$Note", name := "basesItCanBeIn", desc := "()I" } : Jvm.MethodName)) ∈ tb_g := tb_c3 163 rfl rfl
theorem tw_644 : (Jvm.Cond.selects "RoomNumbers$Left" ({ cls := "RoomNumbers$Note", name := "basesItCanBeIn", desc := "()I" } : Jvm.MethodName) ({ cls := "RoomNumbers$Note", name := "basesItCanBeIn", desc := "()I" } : Jvm.MethodName)) ∈ tb_g := tb_c3 164 rfl rfl
theorem tw_645 : (Jvm.Cond.selects "RoomNumbers$Strokes" ({ cls := "RoomNumbers$Note", name := "basesItCanBeIn", desc := "()I" } : Jvm.MethodName) ({ cls := "RoomNumbers$Note", name := "basesItCanBeIn", desc := "()I" } : Jvm.MethodName)) ∈ tb_g := tb_c3 165 rfl rfl
theorem tw_646 : (Jvm.Cond.selects "RoomNumbers$Turned" ({ cls := "RoomNumbers$Note", name := "basesItCanBeIn", desc := "()I" } : Jvm.MethodName) ({ cls := "RoomNumbers$Note", name := "basesItCanBeIn", desc := "()I" } : Jvm.MethodName)) ∈ tb_g := tb_c3 166 rfl rfl
theorem tw_647 : (Jvm.Cond.code ({ cls := "RoomNumbers$Note", name := "basesItCanBeIn", desc := "()I" } : Jvm.MethodName) prog_6_method_8_code (3 : Nat) (Option.some Jvm.ClassFile.FieldType.int)) ∈ tb_g := tb_c3 167 rfl rfl
theorem tw_648 : (Jvm.Cond.methodLink "RoomNumbers$Note" (47 : Nat) ({ cls := "RoomNumbers$Note", name := "canBeIn", desc := "(I)Z" } : Jvm.MethodName)) ∈ tb_g := tb_c3 168 rfl rfl
theorem tw_649 : (Jvm.Cond.instanceMethod ({ cls := "RoomNumbers$Note", name := "canBeIn", desc := "(I)Z" } : Jvm.MethodName)) ∈ tb_g := tb_c3 169 rfl rfl
theorem tw_650 : (Jvm.Cond.selects "RoomNumbers$Note" ({ cls := "RoomNumbers$Note", name := "canBeIn", desc := "(I)Z" } : Jvm.MethodName) ({ cls := "RoomNumbers$Note", name := "canBeIn", desc := "(I)Z" } : Jvm.MethodName)) ∈ tb_g := tb_c3 170 rfl rfl
theorem tw_651 : (Jvm.Cond.sameMethod "RoomNumbers$Note" "RoomNumbers$Note" "canBeIn" "(I)Z") ∈ tb_g := tb_c3 171 rfl rfl
theorem tw_652 : (Jvm.Cond.selects "RoomNumbers$Broken" ({ cls := "RoomNumbers$Note", name := "canBeIn", desc := "(I)Z" } : Jvm.MethodName) ({ cls := "RoomNumbers$Broken", name := "canBeIn", desc := "(I)Z" } : Jvm.MethodName)) ∈ tb_g := tb_c3 172 rfl rfl
theorem tw_653 : (Jvm.Cond.instanceMethod ({ cls := "RoomNumbers$Broken", name := "canBeIn", desc := "(I)Z" } : Jvm.MethodName)) ∈ tb_g := tb_c3 173 rfl rfl
theorem tw_654 : (Jvm.Cond.code ({ cls := "RoomNumbers$Broken", name := "canBeIn", desc := "(I)Z" } : Jvm.MethodName) prog_2_method_5_code (3 : Nat) (Option.some Jvm.ClassFile.FieldType.boolean)) ∈ tb_g := tb_c3 174 rfl rfl
theorem tw_655 : (Jvm.Cond.methodLink "RoomNumbers$Broken" (31 : Nat) ({ cls := "RoomNumbers$Broken", name := "allBelow", desc := "(III)Z" } : Jvm.MethodName)) ∈ tb_g := tb_c3 175 rfl rfl
theorem tw_656 : (Jvm.Cond.sameMethod "RoomNumbers$Broken" "RoomNumbers$Note" "allBelow" "(III)Z") ∈ tb_g := tb_c3 176 rfl rfl
theorem tw_657 : (Jvm.Cond.declares ({ cls := "RoomNumbers$Note", name := "allBelow", desc := "(III)Z" } : Jvm.MethodName)) ∈ lw_tbl := tb_l3 (List.mem_of_getElem? (i := 177) rfl)
theorem tw_658 : (Jvm.Cond.selects "RoomNumbers$Broken" ({ cls := "RoomNumbers$Broken", name := "allBelow", desc := "(III)Z" } : Jvm.MethodName) ({ cls := "RoomNumbers$Note", name := "allBelow", desc := "(III)Z" } : Jvm.MethodName)) ∈ tb_g := tb_c3 178 rfl rfl
theorem tw_659 : (Jvm.Cond.selects "RoomNumbers$Left" ({ cls := "RoomNumbers$Broken", name := "allBelow", desc := "(III)Z" } : Jvm.MethodName) ({ cls := "RoomNumbers$Note", name := "allBelow", desc := "(III)Z" } : Jvm.MethodName)) ∈ tb_g := tb_c3 179 rfl rfl
theorem tw_660 : (Jvm.Cond.instanceMethod ({ cls := "RoomNumbers$Note", name := "allBelow", desc := "(III)Z" } : Jvm.MethodName)) ∈ tb_g := tb_c3 180 rfl rfl
theorem tw_661 : (Jvm.Cond.code ({ cls := "RoomNumbers$Note", name := "allBelow", desc := "(III)Z" } : Jvm.MethodName) prog_6_method_10_code (5 : Nat) (Option.some Jvm.ClassFile.FieldType.boolean)) ∈ tb_g := tb_c3 181 rfl rfl
theorem tw_662 : (Jvm.Cond.selects "RoomNumbers$Debt" ({ cls := "RoomNumbers$Note", name := "canBeIn", desc := "(I)Z" } : Jvm.MethodName) ({ cls := "RoomNumbers$Strokes", name := "canBeIn", desc := "(I)Z" } : Jvm.MethodName)) ∈ tb_g := tb_c3 182 rfl rfl
theorem tw_663 : (Jvm.Cond.instanceMethod ({ cls := "RoomNumbers$Strokes", name := "canBeIn", desc := "(I)Z" } : Jvm.MethodName)) ∈ tb_g := tb_c3 183 rfl rfl
theorem tw_664 : (Jvm.Cond.code ({ cls := "RoomNumbers$Strokes", name := "canBeIn", desc := "(I)Z" } : Jvm.MethodName) prog_8_method_4_code (3 : Nat) (Option.some Jvm.ClassFile.FieldType.boolean)) ∈ tb_g := tb_c3 184 rfl rfl
theorem tw_665 : (Jvm.Cond.selects "RoomNumbers$Left" ({ cls := "RoomNumbers$Note", name := "canBeIn", desc := "(I)Z" } : Jvm.MethodName) ({ cls := "RoomNumbers$Broken", name := "canBeIn", desc := "(I)Z" } : Jvm.MethodName)) ∈ tb_g := tb_c3 185 rfl rfl
theorem tw_666 : (Jvm.Cond.selects "RoomNumbers$Strokes" ({ cls := "RoomNumbers$Note", name := "canBeIn", desc := "(I)Z" } : Jvm.MethodName) ({ cls := "RoomNumbers$Strokes", name := "canBeIn", desc := "(I)Z" } : Jvm.MethodName)) ∈ tb_g := tb_c3 186 rfl rfl
theorem tw_667 : (Jvm.Cond.selects "RoomNumbers$Turned" ({ cls := "RoomNumbers$Note", name := "canBeIn", desc := "(I)Z" } : Jvm.MethodName) ({ cls := "RoomNumbers$Note", name := "canBeIn", desc := "(I)Z" } : Jvm.MethodName)) ∈ tb_g := tb_c3 187 rfl rfl
theorem tw_668 : (Jvm.Cond.code ({ cls := "RoomNumbers$Note", name := "canBeIn", desc := "(I)Z" } : Jvm.MethodName) prog_6_method_7_code (2 : Nat) (Option.some Jvm.ClassFile.FieldType.boolean)) ∈ tb_g := tb_c3 188 rfl rfl
theorem tw_669 : (Jvm.Cond.methodLink "RoomNumbers$Note" (43 : Nat) ({ cls := "RoomNumbers$Note", name := "allBelow", desc := "(III)Z" } : Jvm.MethodName)) ∈ tb_g := tb_c3 189 rfl rfl
theorem tw_670 : (Jvm.Cond.methodLink "RoomNumbersLaw" (62 : Nat) ({ cls := "RoomNumbers", name := "line", desc := "(IIII)I" } : Jvm.MethodName)) ∈ tb_g := tb_c3 190 rfl rfl
theorem tw_671 : (Jvm.Cond.instanceMethod ({ cls := "RoomNumbers", name := "line", desc := "(IIII)I" } : Jvm.MethodName)) ∈ tb_g := tb_c3 191 rfl rfl
theorem tw_672 : (Jvm.Cond.selects "RoomNumbers" ({ cls := "RoomNumbers", name := "line", desc := "(IIII)I" } : Jvm.MethodName) ({ cls := "RoomNumbers", name := "line", desc := "(IIII)I" } : Jvm.MethodName)) ∈ tb_g := tb_c3 192 rfl rfl
theorem tw_673 : (Jvm.Cond.code ({ cls := "RoomNumbers", name := "line", desc := "(IIII)I" } : Jvm.MethodName) prog_1_method_12_code (5 : Nat) (Option.some Jvm.ClassFile.FieldType.int)) ∈ tb_g := tb_c3 193 rfl rfl
theorem tw_674 : (Jvm.Cond.methodLink "RoomNumbers" (174 : Nat) ({ cls := "RoomNumbers$Valley", name := "addLine", desc := "(IIII)I" } : Jvm.MethodName)) ∈ tb_g := tb_c3 194 rfl rfl
theorem tw_675 : (Jvm.Cond.methodLink "RoomNumbersLaw" (67 : Nat) ({ cls := "RoomNumbers", name := "lineOf", desc := "(II)I" } : Jvm.MethodName)) ∈ tb_g := tb_c3 195 rfl rfl
theorem tw_676 : (Jvm.Cond.instanceMethod ({ cls := "RoomNumbers", name := "lineOf", desc := "(II)I" } : Jvm.MethodName)) ∈ tb_g := tb_c3 196 rfl rfl
theorem tw_677 : (Jvm.Cond.selects "RoomNumbers" ({ cls := "RoomNumbers", name := "lineOf", desc := "(II)I" } : Jvm.MethodName) ({ cls := "RoomNumbers", name := "lineOf", desc := "(II)I" } : Jvm.MethodName)) ∈ tb_g := tb_c3 197 rfl rfl
theorem tw_678 : (Jvm.Cond.code ({ cls := "RoomNumbers", name := "lineOf", desc := "(II)I" } : Jvm.MethodName) prog_1_method_13_code (3 : Nat) (Option.some Jvm.ClassFile.FieldType.int)) ∈ tb_g := tb_c3 198 rfl rfl
theorem tw_679 : (Jvm.Cond.methodLink "RoomNumbersLaw" (71 : Nat) ({ cls := "RoomNumbers", name := "strike", desc := "(I)I" } : Jvm.MethodName)) ∈ tb_g := tb_c3 199 rfl rfl
theorem tw_680 : (Jvm.Cond.instanceMethod ({ cls := "RoomNumbers", name := "strike", desc := "(I)I" } : Jvm.MethodName)) ∈ tb_g := tb_c3 200 rfl rfl
theorem tw_681 : (Jvm.Cond.selects "RoomNumbers" ({ cls := "RoomNumbers", name := "strike", desc := "(I)I" } : Jvm.MethodName) ({ cls := "RoomNumbers", name := "strike", desc := "(I)I" } : Jvm.MethodName)) ∈ tb_g := tb_c3 201 rfl rfl
theorem tw_682 : (Jvm.Cond.code ({ cls := "RoomNumbers", name := "strike", desc := "(I)I" } : Jvm.MethodName) prog_1_method_14_code (2 : Nat) (Option.some Jvm.ClassFile.FieldType.int)) ∈ tb_g := tb_c3 202 rfl rfl
theorem tw_683 : (Jvm.Cond.methodLink "RoomNumbers" (181 : Nat) ({ cls := "RoomNumbers$Valley", name := "strikeLine", desc := "(I)I" } : Jvm.MethodName)) ∈ tb_g := tb_c3 203 rfl rfl
theorem tw_684 : (Jvm.Cond.instanceMethod ({ cls := "RoomNumbers$Valley", name := "strikeLine", desc := "(I)I" } : Jvm.MethodName)) ∈ tb_g := tb_c3 204 rfl rfl
theorem tw_685 : (Jvm.Cond.selects "RoomNumbers$Valley" ({ cls := "RoomNumbers$Valley", name := "strikeLine", desc := "(I)I" } : Jvm.MethodName) ({ cls := "RoomNumbers$Valley", name := "strikeLine", desc := "(I)I" } : Jvm.MethodName)) ∈ tb_g := tb_c3 205 rfl rfl
theorem tw_686 : (Jvm.Cond.code ({ cls := "RoomNumbers$Valley", name := "strikeLine", desc := "(I)I" } : Jvm.MethodName) prog_12_method_10_code (3 : Nat) (Option.some Jvm.ClassFile.FieldType.int)) ∈ tb_g := tb_c3 206 rfl rfl
theorem tw_687 : (Jvm.Cond.methodLink "RoomNumbersLaw" (75 : Nat) ({ cls := "RoomNumbers", name := "worlds", desc := "()I" } : Jvm.MethodName)) ∈ tb_g := tb_c3 207 rfl rfl
theorem tw_688 : (Jvm.Cond.instanceMethod ({ cls := "RoomNumbers", name := "worlds", desc := "()I" } : Jvm.MethodName)) ∈ tb_g := tb_c3 208 rfl rfl
theorem tw_689 : (Jvm.Cond.selects "RoomNumbers" ({ cls := "RoomNumbers", name := "worlds", desc := "()I" } : Jvm.MethodName) ({ cls := "RoomNumbers", name := "worlds", desc := "()I" } : Jvm.MethodName)) ∈ tb_g := tb_c3 209 rfl rfl
theorem tw_690 : (Jvm.Cond.code ({ cls := "RoomNumbers", name := "worlds", desc := "()I" } : Jvm.MethodName) prog_1_method_15_code (1 : Nat) (Option.some Jvm.ClassFile.FieldType.int)) ∈ tb_g := tb_c3 210 rfl rfl
theorem tw_691 : (Jvm.Cond.methodLink "RoomNumbers" (184 : Nat) ({ cls := "RoomNumbers$Finder", name := "howMany", desc := "()I" } : Jvm.MethodName)) ∈ tb_g := tb_c3 211 rfl rfl
theorem tw_692 : (Jvm.Cond.instanceMethod ({ cls := "RoomNumbers$Finder", name := "howMany", desc := "()I" } : Jvm.MethodName)) ∈ tb_g := tb_c3 212 rfl rfl
theorem tw_693 : (Jvm.Cond.selects "RoomNumbers$Finder" ({ cls := "RoomNumbers$Finder", name := "howMany", desc := "()I" } : Jvm.MethodName) ({ cls := "RoomNumbers$Finder", name := "howMany", desc := "()I" } : Jvm.MethodName)) ∈ tb_g := tb_c3 213 rfl rfl
theorem tw_694 : (Jvm.Cond.code ({ cls := "RoomNumbers$Finder", name := "howMany", desc := "()I" } : Jvm.MethodName) prog_4_method_2_code (1 : Nat) (Option.some Jvm.ClassFile.FieldType.int)) ∈ tb_g := tb_c3 214 rfl rfl
theorem tw_695 : (Jvm.Cond.methodLink "RoomNumbers$Finder" (65 : Nat) ({ cls := "RoomNumbers$Finder", name := "refresh", desc := "()V" } : Jvm.MethodName)) ∈ tb_g := tb_c3 215 rfl rfl
theorem tw_697 : (Jvm.Cond.instanceMethod ({ cls := "RoomNumbers$Finder", name := "refresh", desc := "()V" } : Jvm.MethodName)) ∈ tb_g := tb_c3 217 rfl rfl
theorem tw_698 : (Jvm.Cond.code ({ cls := "RoomNumbers$Finder", name := "refresh", desc := "()V" } : Jvm.MethodName) prog_4_method_11_code (1 : Nat) (Option.none : Option Jvm.ClassFile.FieldType)) ∈ tb_g := tb_c3 218 rfl rfl
theorem tw_699 : (Jvm.Cond.methodLink "RoomNumbers$Finder" (78 : Nat) ({ cls := "RoomNumbers$Finder", name := "load", desc := "()V" } : Jvm.MethodName)) ∈ tb_g := tb_c3 219 rfl rfl
theorem tw_701 : (Jvm.Cond.instanceMethod ({ cls := "RoomNumbers$Finder", name := "load", desc := "()V" } : Jvm.MethodName)) ∈ tb_g := tb_c3 221 rfl rfl
theorem tw_702 : (Jvm.Cond.code ({ cls := "RoomNumbers$Finder", name := "load", desc := "()V" } : Jvm.MethodName) prog_4_method_12_code (3 : Nat) (Option.none : Option Jvm.ClassFile.FieldType)) ∈ tb_g := tb_c3 222 rfl rfl
theorem tw_703 : (Jvm.Cond.methodLink "RoomNumbers$Finder" (99 : Nat) ({ cls := "RoomNumbers$Valley", name := "noteAt", desc := "(I)LRoomNumbers$Note;" } : Jvm.MethodName)) ∈ tb_g := tb_c3 223 rfl rfl
theorem tw_704 : (Jvm.Cond.methodLink "RoomNumbers$Finder" (132 : Nat) ({ cls := "RoomNumbers$Finder", name := "readNote", desc := "(LRoomNumbers$Note;)V" } : Jvm.MethodName)) ∈ tb_g := tb_c3 224 rfl rfl
theorem tw_706 : (Jvm.Cond.instanceMethod ({ cls := "RoomNumbers$Finder", name := "readNote", desc := "(LRoomNumbers$Note;)V" } : Jvm.MethodName)) ∈ tb_g := tb_c3 226 rfl rfl
theorem tw_707 : (Jvm.Cond.code ({ cls := "RoomNumbers$Finder", name := "readNote", desc := "(LRoomNumbers$Note;)V" } : Jvm.MethodName) prog_4_method_13_code (4 : Nat) (Option.none : Option Jvm.ClassFile.FieldType)) ∈ tb_g := tb_c3 227 rfl rfl
theorem tw_708 : (Jvm.Cond.methodLink "RoomNumbers$Finder" (136 : Nat) ({ cls := "RoomNumbers$Note", name := "basesItCanBeIn", desc := "()I" } : Jvm.MethodName)) ∈ tb_g := tb_c3 228 rfl rfl
theorem tw_709 : (Jvm.Cond.methodLink "RoomNumbers$Finder" (155 : Nat) ({ cls := "RoomNumbers$Note", name := "worthBy", desc := "(I)I" } : Jvm.MethodName)) ∈ tb_g := tb_c3 229 rfl rfl
theorem tw_710 : (Jvm.Cond.methodLink "RoomNumbers$Finder" (89 : Nat) ({ cls := "RoomNumbers$Finder", name := "markTouched", desc := "()V" } : Jvm.MethodName)) ∈ tb_g := tb_c3 230 rfl rfl
theorem tw_712 : (Jvm.Cond.instanceMethod ({ cls := "RoomNumbers$Finder", name := "markTouched", desc := "()V" } : Jvm.MethodName)) ∈ tb_g := tb_c3 232 rfl rfl
theorem tw_713 : (Jvm.Cond.code ({ cls := "RoomNumbers$Finder", name := "markTouched", desc := "()V" } : Jvm.MethodName) prog_4_method_14_code (6 : Nat) (Option.none : Option Jvm.ClassFile.FieldType)) ∈ tb_g := tb_c3 233 rfl rfl
theorem tw_714 : (Jvm.Cond.methodLink "RoomNumbers$Finder" (81 : Nat) ({ cls := "RoomNumbers$Valley", name := "allLines", desc := "()I" } : Jvm.MethodName)) ∈ tb_g := tb_c3 234 rfl rfl
theorem tw_715 : (Jvm.Cond.instanceMethod ({ cls := "RoomNumbers$Valley", name := "allLines", desc := "()I" } : Jvm.MethodName)) ∈ tb_g := tb_c3 235 rfl rfl
theorem tw_716 : (Jvm.Cond.selects "RoomNumbers$Valley" ({ cls := "RoomNumbers$Valley", name := "allLines", desc := "()I" } : Jvm.MethodName) ({ cls := "RoomNumbers$Valley", name := "allLines", desc := "()I" } : Jvm.MethodName)) ∈ tb_g := tb_c3 236 rfl rfl
theorem tw_717 : (Jvm.Cond.code ({ cls := "RoomNumbers$Valley", name := "allLines", desc := "()I" } : Jvm.MethodName) prog_12_method_14_code (1 : Nat) (Option.some Jvm.ClassFile.FieldType.int)) ∈ tb_g := tb_c3 237 rfl rfl
theorem tw_718 : (Jvm.Cond.methodLink "RoomNumbers$Finder" (106 : Nat) ({ cls := "RoomNumbers$Finder", name := "limitBy", desc := "(II)V" } : Jvm.MethodName)) ∈ tb_g := tb_c3 238 rfl rfl
theorem tw_720 : (Jvm.Cond.instanceMethod ({ cls := "RoomNumbers$Finder", name := "limitBy", desc := "(II)V" } : Jvm.MethodName)) ∈ tb_g := tb_c4 0 rfl rfl
theorem tw_721 : (Jvm.Cond.code ({ cls := "RoomNumbers$Finder", name := "limitBy", desc := "(II)V" } : Jvm.MethodName) prog_4_method_15_code (4 : Nat) (Option.none : Option Jvm.ClassFile.FieldType)) ∈ tb_g := tb_c4 1 rfl rfl
theorem tw_722 : (Jvm.Cond.constant "RoomNumbers$Finder" (161 : Nat) (131068 : Int32)) ∈ tb_g := tb_c4 2 rfl rfl
theorem tw_723 : (Jvm.Cond.methodLink "RoomNumbers$Finder" (162 : Nat) ({ cls := "java/util/Arrays", name := "fill", desc := "([II)V" } : Jvm.MethodName)) ∈ tb_g := tb_c4 3 rfl rfl
theorem tw_724 : (Jvm.Cond.methodLink "RoomNumbers$Finder" (167 : Nat) ({ cls := "RoomNumbers$Valley", name := "basesOf", desc := "(I)I" } : Jvm.MethodName)) ∈ tb_g := tb_c4 4 rfl rfl
theorem tw_725 : (Jvm.Cond.instanceMethod ({ cls := "RoomNumbers$Valley", name := "basesOf", desc := "(I)I" } : Jvm.MethodName)) ∈ tb_g := tb_c4 5 rfl rfl
theorem tw_726 : (Jvm.Cond.selects "RoomNumbers$Valley" ({ cls := "RoomNumbers$Valley", name := "basesOf", desc := "(I)I" } : Jvm.MethodName) ({ cls := "RoomNumbers$Valley", name := "basesOf", desc := "(I)I" } : Jvm.MethodName)) ∈ tb_g := tb_c4 6 rfl rfl
theorem tw_727 : (Jvm.Cond.code ({ cls := "RoomNumbers$Valley", name := "basesOf", desc := "(I)I" } : Jvm.MethodName) prog_12_method_6_code (2 : Nat) (Option.some Jvm.ClassFile.FieldType.int)) ∈ tb_g := tb_c4 7 rfl rfl
theorem tw_728 : (Jvm.Cond.methodLink "RoomNumbers$Finder" (148 : Nat) ({ cls := "RoomNumbers$Finder", name := "limitByLine", desc := "(I)V" } : Jvm.MethodName)) ∈ tb_g := tb_c4 8 rfl rfl
theorem tw_730 : (Jvm.Cond.instanceMethod ({ cls := "RoomNumbers$Finder", name := "limitByLine", desc := "(I)V" } : Jvm.MethodName)) ∈ tb_g := tb_c4 10 rfl rfl
theorem tw_731 : (Jvm.Cond.code ({ cls := "RoomNumbers$Finder", name := "limitByLine", desc := "(I)V" } : Jvm.MethodName) prog_4_method_16_code (6 : Nat) (Option.none : Option Jvm.ClassFile.FieldType)) ∈ tb_g := tb_c4 11 rfl rfl
theorem tw_732 : (Jvm.Cond.fieldLink "RoomNumbers$Finder" (170 : Nat) "RoomNumbers$Finder" "FIRST" "[I") ∈ tb_g := tb_c4 12 rfl rfl
theorem tw_734 : (Jvm.Cond.fieldLink "RoomNumbers$Finder" (173 : Nat) "RoomNumbers$Finder" "SECOND" "[I") ∈ tb_g := tb_c4 14 rfl rfl
theorem tw_736 : (Jvm.Cond.methodLink "RoomNumbers$Finder" (176 : Nat) ({ cls := "RoomNumbers$Finder", name := "basesThatHold", desc := "(III)I" } : Jvm.MethodName)) ∈ tb_g := tb_c4 16 rfl rfl
theorem tw_738 : (Jvm.Cond.instanceMethod ({ cls := "RoomNumbers$Finder", name := "basesThatHold", desc := "(III)I" } : Jvm.MethodName)) ∈ tb_g := tb_c4 18 rfl rfl
theorem tw_739 : (Jvm.Cond.code ({ cls := "RoomNumbers$Finder", name := "basesThatHold", desc := "(III)I" } : Jvm.MethodName) prog_4_method_17_code (14 : Nat) (Option.some Jvm.ClassFile.FieldType.int)) ∈ tb_g := tb_c4 19 rfl rfl
theorem tw_740 : (Jvm.Cond.methodLinkNest "RoomNumbers$Finder" (180 : Nat) ({ cls := "RoomNumbers", name := "sortHolds", desc := "(IIII)Z" } : Jvm.MethodName) "RoomNumbers") ∈ lw_tbl := tb_l4 (List.mem_of_getElem? (i := 20) rfl)
theorem tw_741 : (Jvm.Cond.static ({ cls := "RoomNumbers", name := "sortHolds", desc := "(IIII)Z" } : Jvm.MethodName)) ∈ tb_g := tb_c4 21 rfl rfl
theorem tw_742 : (Jvm.Cond.code ({ cls := "RoomNumbers", name := "sortHolds", desc := "(IIII)Z" } : Jvm.MethodName) prog_1_method_56_code (4 : Nat) (Option.some Jvm.ClassFile.FieldType.boolean)) ∈ tb_g := tb_c4 22 rfl rfl
theorem tw_743 : (Jvm.Cond.methodLink "RoomNumbers$Finder" (152 : Nat) ({ cls := "RoomNumbers$Finder", name := "fill", desc := "()V" } : Jvm.MethodName)) ∈ tb_g := tb_c4 23 rfl rfl
theorem tw_745 : (Jvm.Cond.instanceMethod ({ cls := "RoomNumbers$Finder", name := "fill", desc := "()V" } : Jvm.MethodName)) ∈ tb_g := tb_c4 25 rfl rfl
theorem tw_746 : (Jvm.Cond.code ({ cls := "RoomNumbers$Finder", name := "fill", desc := "()V" } : Jvm.MethodName) prog_4_method_21_code (5 : Nat) (Option.none : Option Jvm.ClassFile.FieldType)) ∈ tb_g := tb_c4 26 rfl rfl
theorem tw_747 : (Jvm.Cond.methodLink "RoomNumbers$Finder" (184 : Nat) ({ cls := "RoomNumbers$Finder", name := "thirdBases", desc := "(III)I" } : Jvm.MethodName)) ∈ tb_g := tb_c4 27 rfl rfl
theorem tw_749 : (Jvm.Cond.instanceMethod ({ cls := "RoomNumbers$Finder", name := "thirdBases", desc := "(III)I" } : Jvm.MethodName)) ∈ tb_g := tb_c4 29 rfl rfl
theorem tw_750 : (Jvm.Cond.code ({ cls := "RoomNumbers$Finder", name := "thirdBases", desc := "(III)I" } : Jvm.MethodName) prog_4_method_20_code (7 : Nat) (Option.some Jvm.ClassFile.FieldType.int)) ∈ tb_g := tb_c4 30 rfl rfl
theorem tw_751 : (Jvm.Cond.methodLink "RoomNumbers$Finder" (68 : Nat) ({ cls := "java/lang/Integer", name := "bitCount", desc := "(I)I" } : Jvm.MethodName)) ∈ tb_g := tb_c4 31 rfl rfl
theorem tw_752 : (Jvm.Cond.static ({ cls := "java/lang/Integer", name := "bitCount", desc := "(I)I" } : Jvm.MethodName)) ∈ tb_g := tb_c4 32 rfl rfl
theorem tw_753 : (Jvm.Cond.code ({ cls := "java/lang/Integer", name := "bitCount", desc := "(I)I" } : Jvm.MethodName) prog_16_method_49_code (1 : Nat) (Option.some Jvm.ClassFile.FieldType.int)) ∈ tb_g := tb_c4 33 rfl rfl
theorem tw_754 : (Jvm.Cond.constant "java/lang/Integer" (265 : Nat) (1431655765 : Int32)) ∈ tb_g := tb_c4 34 rfl rfl
theorem tw_755 : (Jvm.Cond.constant "java/lang/Integer" (266 : Nat) (858993459 : Int32)) ∈ tb_g := tb_c4 35 rfl rfl
theorem tw_756 : (Jvm.Cond.constant "java/lang/Integer" (267 : Nat) (252645135 : Int32)) ∈ tb_g := tb_c4 36 rfl rfl
theorem tw_757 : (Jvm.Cond.methodLink "RoomNumbersLaw" (79 : Nat) ({ cls := "RoomNumbers", name := "world", desc := "(II)I" } : Jvm.MethodName)) ∈ tb_g := tb_c4 37 rfl rfl
theorem tw_758 : (Jvm.Cond.instanceMethod ({ cls := "RoomNumbers", name := "world", desc := "(II)I" } : Jvm.MethodName)) ∈ tb_g := tb_c4 38 rfl rfl
theorem tw_759 : (Jvm.Cond.selects "RoomNumbers" ({ cls := "RoomNumbers", name := "world", desc := "(II)I" } : Jvm.MethodName) ({ cls := "RoomNumbers", name := "world", desc := "(II)I" } : Jvm.MethodName)) ∈ tb_g := tb_c4 39 rfl rfl
theorem tw_760 : (Jvm.Cond.code ({ cls := "RoomNumbers", name := "world", desc := "(II)I" } : Jvm.MethodName) prog_1_method_16_code (3 : Nat) (Option.some Jvm.ClassFile.FieldType.int)) ∈ tb_g := tb_c4 40 rfl rfl
theorem tw_761 : (Jvm.Cond.methodLink "RoomNumbers" (187 : Nat) ({ cls := "RoomNumbers$Finder", name := "goTo", desc := "(I)Z" } : Jvm.MethodName)) ∈ tb_g := tb_c4 41 rfl rfl
theorem tw_762 : (Jvm.Cond.instanceMethod ({ cls := "RoomNumbers$Finder", name := "goTo", desc := "(I)Z" } : Jvm.MethodName)) ∈ tb_g := tb_c4 42 rfl rfl
theorem tw_763 : (Jvm.Cond.selects "RoomNumbers$Finder" ({ cls := "RoomNumbers$Finder", name := "goTo", desc := "(I)Z" } : Jvm.MethodName) ({ cls := "RoomNumbers$Finder", name := "goTo", desc := "(I)Z" } : Jvm.MethodName)) ∈ tb_g := tb_c4 43 rfl rfl
theorem tw_764 : (Jvm.Cond.code ({ cls := "RoomNumbers$Finder", name := "goTo", desc := "(I)Z" } : Jvm.MethodName) prog_4_method_4_code (5 : Nat) (Option.some Jvm.ClassFile.FieldType.boolean)) ∈ tb_g := tb_c4 44 rfl rfl
theorem tw_765 : (Jvm.Cond.methodLinkNest "RoomNumbers$Finder" (74 : Nat) ({ cls := "RoomNumbers", name := "baseAt", desc := "(II)I" } : Jvm.MethodName) "RoomNumbers") ∈ lw_tbl := tb_l4 (List.mem_of_getElem? (i := 45) rfl)
theorem tw_766 : (Jvm.Cond.static ({ cls := "RoomNumbers", name := "baseAt", desc := "(II)I" } : Jvm.MethodName)) ∈ tb_g := tb_c4 46 rfl rfl
theorem tw_767 : (Jvm.Cond.code ({ cls := "RoomNumbers", name := "baseAt", desc := "(II)I" } : Jvm.MethodName) prog_1_method_54_code (4 : Nat) (Option.some Jvm.ClassFile.FieldType.int)) ∈ tb_g := tb_c4 47 rfl rfl
theorem tw_768 : (Jvm.Cond.methodLink "RoomNumbersLaw" (83 : Nat) ({ cls := "RoomNumbers", name := "may", desc := "(I)I" } : Jvm.MethodName)) ∈ tb_g := tb_c4 48 rfl rfl
theorem tw_769 : (Jvm.Cond.instanceMethod ({ cls := "RoomNumbers", name := "may", desc := "(I)I" } : Jvm.MethodName)) ∈ tb_g := tb_c4 49 rfl rfl
theorem tw_770 : (Jvm.Cond.selects "RoomNumbers" ({ cls := "RoomNumbers", name := "may", desc := "(I)I" } : Jvm.MethodName) ({ cls := "RoomNumbers", name := "may", desc := "(I)I" } : Jvm.MethodName)) ∈ tb_g := tb_c4 50 rfl rfl
theorem tw_771 : (Jvm.Cond.code ({ cls := "RoomNumbers", name := "may", desc := "(I)I" } : Jvm.MethodName) prog_1_method_17_code (2 : Nat) (Option.some Jvm.ClassFile.FieldType.int)) ∈ tb_g := tb_c4 51 rfl rfl
theorem tw_772 : (Jvm.Cond.methodLink "RoomNumbers" (193 : Nat) ({ cls := "RoomNumbers$Finder", name := "basesSeen", desc := "(I)I" } : Jvm.MethodName)) ∈ tb_g := tb_c4 52 rfl rfl
theorem tw_773 : (Jvm.Cond.instanceMethod ({ cls := "RoomNumbers$Finder", name := "basesSeen", desc := "(I)I" } : Jvm.MethodName)) ∈ tb_g := tb_c4 53 rfl rfl
theorem tw_774 : (Jvm.Cond.selects "RoomNumbers$Finder" ({ cls := "RoomNumbers$Finder", name := "basesSeen", desc := "(I)I" } : Jvm.MethodName) ({ cls := "RoomNumbers$Finder", name := "basesSeen", desc := "(I)I" } : Jvm.MethodName)) ∈ tb_g := tb_c4 54 rfl rfl
theorem tw_775 : (Jvm.Cond.code ({ cls := "RoomNumbers$Finder", name := "basesSeen", desc := "(I)I" } : Jvm.MethodName) prog_4_method_3_code (2 : Nat) (Option.some Jvm.ClassFile.FieldType.int)) ∈ tb_g := tb_c4 55 rfl rfl
theorem tw_776 : (Jvm.Cond.methodLink "RoomNumbersLaw" (87 : Nat) ({ cls := "RoomNumbers", name := "sure", desc := "(I)I" } : Jvm.MethodName)) ∈ tb_g := tb_c4 56 rfl rfl
theorem tw_777 : (Jvm.Cond.instanceMethod ({ cls := "RoomNumbers", name := "sure", desc := "(I)I" } : Jvm.MethodName)) ∈ tb_g := tb_c4 57 rfl rfl
theorem tw_778 : (Jvm.Cond.selects "RoomNumbers" ({ cls := "RoomNumbers", name := "sure", desc := "(I)I" } : Jvm.MethodName) ({ cls := "RoomNumbers", name := "sure", desc := "(I)I" } : Jvm.MethodName)) ∈ tb_g := tb_c4 58 rfl rfl
theorem tw_779 : (Jvm.Cond.code ({ cls := "RoomNumbers", name := "sure", desc := "(I)I" } : Jvm.MethodName) prog_1_method_18_code (3 : Nat) (Option.some Jvm.ClassFile.FieldType.int)) ∈ tb_g := tb_c4 59 rfl rfl
theorem tw_780 : (Jvm.Cond.methodLink "RoomNumbers" (196 : Nat) ({ cls := "java/lang/Integer", name := "bitCount", desc := "(I)I" } : Jvm.MethodName)) ∈ tb_g := tb_c4 60 rfl rfl
theorem tw_781 : (Jvm.Cond.methodLink "RoomNumbers" (201 : Nat) ({ cls := "RoomNumbers", name := "baseAt", desc := "(II)I" } : Jvm.MethodName)) ∈ tb_g := tb_c4 61 rfl rfl
theorem tw_782 : (Jvm.Cond.methodLink "RoomNumbersLaw" (91 : Nat) ({ cls := "RoomNumbers", name := "holds", desc := "(IIII)I" } : Jvm.MethodName)) ∈ tb_g := tb_c4 62 rfl rfl
theorem tw_783 : (Jvm.Cond.instanceMethod ({ cls := "RoomNumbers", name := "holds", desc := "(IIII)I" } : Jvm.MethodName)) ∈ tb_g := tb_c4 63 rfl rfl
theorem tw_784 : (Jvm.Cond.selects "RoomNumbers" ({ cls := "RoomNumbers", name := "holds", desc := "(IIII)I" } : Jvm.MethodName) ({ cls := "RoomNumbers", name := "holds", desc := "(IIII)I" } : Jvm.MethodName)) ∈ tb_g := tb_c4 64 rfl rfl
theorem tw_785 : (Jvm.Cond.code ({ cls := "RoomNumbers", name := "holds", desc := "(IIII)I" } : Jvm.MethodName) prog_1_method_19_code (5 : Nat) (Option.some Jvm.ClassFile.FieldType.int)) ∈ tb_g := tb_c4 65 rfl rfl
theorem tw_786 : (Jvm.Cond.methodLink "RoomNumbers" (205 : Nat) ({ cls := "RoomNumbers$Valley", name := "lineHolds", desc := "(I[I)Z" } : Jvm.MethodName)) ∈ tb_g := tb_c4 66 rfl rfl
theorem tw_787 : (Jvm.Cond.instanceMethod ({ cls := "RoomNumbers$Valley", name := "lineHolds", desc := "(I[I)Z" } : Jvm.MethodName)) ∈ tb_g := tb_c4 67 rfl rfl
theorem tw_788 : (Jvm.Cond.selects "RoomNumbers$Valley" ({ cls := "RoomNumbers$Valley", name := "lineHolds", desc := "(I[I)Z" } : Jvm.MethodName) ({ cls := "RoomNumbers$Valley", name := "lineHolds", desc := "(I[I)Z" } : Jvm.MethodName)) ∈ tb_g := tb_c4 68 rfl rfl
theorem tw_789 : (Jvm.Cond.code ({ cls := "RoomNumbers$Valley", name := "lineHolds", desc := "(I[I)Z" } : Jvm.MethodName) prog_12_method_11_code (8 : Nat) (Option.some Jvm.ClassFile.FieldType.boolean)) ∈ tb_g := tb_c4 69 rfl rfl
theorem tw_790 : (Jvm.Cond.methodLink "RoomNumbers$Valley" (96 : Nat) ({ cls := "RoomNumbers$Valley", name := "worthOf", desc := "(I[I)I" } : Jvm.MethodName)) ∈ tb_g := tb_c4 70 rfl rfl
theorem tw_792 : (Jvm.Cond.instanceMethod ({ cls := "RoomNumbers$Valley", name := "worthOf", desc := "(I[I)I" } : Jvm.MethodName)) ∈ tb_g := tb_c4 72 rfl rfl
theorem tw_793 : (Jvm.Cond.code ({ cls := "RoomNumbers$Valley", name := "worthOf", desc := "(I[I)I" } : Jvm.MethodName) prog_12_method_12_code (4 : Nat) (Option.some Jvm.ClassFile.FieldType.int)) ∈ tb_g := tb_c4 73 rfl rfl
theorem tw_794 : (Jvm.Cond.methodLink "RoomNumbers$Valley" (104 : Nat) ({ cls := "RoomNumbers$Note", name := "worthBy", desc := "(I)I" } : Jvm.MethodName)) ∈ tb_g := tb_c4 74 rfl rfl
theorem tw_795 : (Jvm.Cond.methodLinkNest "RoomNumbers$Valley" (100 : Nat) ({ cls := "RoomNumbers", name := "sortHolds", desc := "(IIII)Z" } : Jvm.MethodName) "RoomNumbers") ∈ lw_tbl := tb_l4 (List.mem_of_getElem? (i := 75) rfl)
theorem tw_796 : (Jvm.Cond.methodLink "RoomNumbersLaw" (95 : Nat) ({ cls := "RoomNumbers", name := "proof", desc := "()I" } : Jvm.MethodName)) ∈ tb_g := tb_c4 76 rfl rfl
theorem tw_797 : (Jvm.Cond.instanceMethod ({ cls := "RoomNumbers", name := "proof", desc := "()I" } : Jvm.MethodName)) ∈ tb_g := tb_c4 77 rfl rfl
theorem tw_798 : (Jvm.Cond.selects "RoomNumbers" ({ cls := "RoomNumbers", name := "proof", desc := "()I" } : Jvm.MethodName) ({ cls := "RoomNumbers", name := "proof", desc := "()I" } : Jvm.MethodName)) ∈ tb_g := tb_c4 78 rfl rfl
theorem tw_799 : (Jvm.Cond.code ({ cls := "RoomNumbers", name := "proof", desc := "()I" } : Jvm.MethodName) prog_1_method_20_code (1 : Nat) (Option.some Jvm.ClassFile.FieldType.int)) ∈ tb_g := tb_c4 79 rfl rfl
theorem tw_800 : (Jvm.Cond.methodLink "RoomNumbers" (209 : Nat) ({ cls := "RoomNumbers$Finder", name := "fewestLines", desc := "()I" } : Jvm.MethodName)) ∈ tb_g := tb_c4 80 rfl rfl
theorem tw_801 : (Jvm.Cond.instanceMethod ({ cls := "RoomNumbers$Finder", name := "fewestLines", desc := "()I" } : Jvm.MethodName)) ∈ tb_g := tb_c4 81 rfl rfl
theorem tw_802 : (Jvm.Cond.selects "RoomNumbers$Finder" ({ cls := "RoomNumbers$Finder", name := "fewestLines", desc := "()I" } : Jvm.MethodName) ({ cls := "RoomNumbers$Finder", name := "fewestLines", desc := "()I" } : Jvm.MethodName)) ∈ tb_g := tb_c4 82 rfl rfl
theorem tw_803 : (Jvm.Cond.code ({ cls := "RoomNumbers$Finder", name := "fewestLines", desc := "()I" } : Jvm.MethodName) prog_4_method_5_code (4 : Nat) (Option.some Jvm.ClassFile.FieldType.int)) ∈ tb_g := tb_c4 83 rfl rfl
theorem tw_804 : (Jvm.Cond.methodLink "RoomNumbers$Finder" (85 : Nat) ({ cls := "RoomNumbers$Finder", name := "isWorldBy", desc := "(I)Z" } : Jvm.MethodName)) ∈ tb_g := tb_c4 84 rfl rfl
theorem tw_806 : (Jvm.Cond.instanceMethod ({ cls := "RoomNumbers$Finder", name := "isWorldBy", desc := "(I)Z" } : Jvm.MethodName)) ∈ tb_g := tb_c4 86 rfl rfl
theorem tw_807 : (Jvm.Cond.code ({ cls := "RoomNumbers$Finder", name := "isWorldBy", desc := "(I)Z" } : Jvm.MethodName) prog_4_method_18_code (2 : Nat) (Option.some Jvm.ClassFile.FieldType.boolean)) ∈ tb_g := tb_c4 87 rfl rfl
theorem tw_808 : (Jvm.Cond.methodLink "RoomNumbers$Finder" (110 : Nat) ({ cls := "RoomNumbers$Finder", name := "isWorldWithin", desc := "(I)Z" } : Jvm.MethodName)) ∈ tb_g := tb_c4 88 rfl rfl
theorem tw_810 : (Jvm.Cond.instanceMethod ({ cls := "RoomNumbers$Finder", name := "isWorldWithin", desc := "(I)Z" } : Jvm.MethodName)) ∈ tb_g := tb_c4 90 rfl rfl
theorem tw_811 : (Jvm.Cond.code ({ cls := "RoomNumbers$Finder", name := "isWorldWithin", desc := "(I)Z" } : Jvm.MethodName) prog_4_method_19_code (4 : Nat) (Option.some Jvm.ClassFile.FieldType.boolean)) ∈ tb_g := tb_c4 91 rfl rfl
theorem tw_812 : (Jvm.Cond.methodLink "RoomNumbersLaw" (99 : Nat) ({ cls := "RoomNumbers", name := "mended", desc := "(I)I" } : Jvm.MethodName)) ∈ tb_g := tb_c4 92 rfl rfl
theorem tw_813 : (Jvm.Cond.instanceMethod ({ cls := "RoomNumbers", name := "mended", desc := "(I)I" } : Jvm.MethodName)) ∈ tb_g := tb_c4 93 rfl rfl
theorem tw_814 : (Jvm.Cond.selects "RoomNumbers" ({ cls := "RoomNumbers", name := "mended", desc := "(I)I" } : Jvm.MethodName) ({ cls := "RoomNumbers", name := "mended", desc := "(I)I" } : Jvm.MethodName)) ∈ tb_g := tb_c4 94 rfl rfl
theorem tw_815 : (Jvm.Cond.code ({ cls := "RoomNumbers", name := "mended", desc := "(I)I" } : Jvm.MethodName) prog_1_method_21_code (2 : Nat) (Option.some Jvm.ClassFile.FieldType.int)) ∈ tb_g := tb_c4 95 rfl rfl
theorem tw_816 : (Jvm.Cond.methodLink "RoomNumbers" (212 : Nat) ({ cls := "RoomNumbers$Finder", name := "canMend", desc := "()Z" } : Jvm.MethodName)) ∈ tb_g := tb_c4 96 rfl rfl
theorem tw_817 : (Jvm.Cond.instanceMethod ({ cls := "RoomNumbers$Finder", name := "canMend", desc := "()Z" } : Jvm.MethodName)) ∈ tb_g := tb_c4 97 rfl rfl
theorem tw_818 : (Jvm.Cond.selects "RoomNumbers$Finder" ({ cls := "RoomNumbers$Finder", name := "canMend", desc := "()Z" } : Jvm.MethodName) ({ cls := "RoomNumbers$Finder", name := "canMend", desc := "()Z" } : Jvm.MethodName)) ∈ tb_g := tb_c4 98 rfl rfl
theorem tw_819 : (Jvm.Cond.code ({ cls := "RoomNumbers$Finder", name := "canMend", desc := "()Z" } : Jvm.MethodName) prog_4_method_7_code (2 : Nat) (Option.some Jvm.ClassFile.FieldType.boolean)) ∈ tb_g := tb_c4 99 rfl rfl
theorem tw_820 : (Jvm.Cond.methodLink "RoomNumbers$Finder" (96 : Nat) ({ cls := "RoomNumbers$Finder", name := "mendsBy", desc := "(I)Z" } : Jvm.MethodName)) ∈ tb_g := tb_c4 100 rfl rfl
theorem tw_822 : (Jvm.Cond.instanceMethod ({ cls := "RoomNumbers$Finder", name := "mendsBy", desc := "(I)Z" } : Jvm.MethodName)) ∈ tb_g := tb_c4 102 rfl rfl
theorem tw_823 : (Jvm.Cond.code ({ cls := "RoomNumbers$Finder", name := "mendsBy", desc := "(I)Z" } : Jvm.MethodName) prog_4_method_8_code (8 : Nat) (Option.some Jvm.ClassFile.FieldType.boolean)) ∈ tb_g := tb_c4 103 rfl rfl
theorem tw_824 : (Jvm.Cond.methodLink "RoomNumbers$Finder" (103 : Nat) ({ cls := "RoomNumbers$Valley", name := "linesWith", desc := "(I)I" } : Jvm.MethodName)) ∈ tb_g := tb_c4 104 rfl rfl
theorem tw_825 : (Jvm.Cond.instanceMethod ({ cls := "RoomNumbers$Valley", name := "linesWith", desc := "(I)I" } : Jvm.MethodName)) ∈ tb_g := tb_c4 105 rfl rfl
theorem tw_826 : (Jvm.Cond.selects "RoomNumbers$Valley" ({ cls := "RoomNumbers$Valley", name := "linesWith", desc := "(I)I" } : Jvm.MethodName) ({ cls := "RoomNumbers$Valley", name := "linesWith", desc := "(I)I" } : Jvm.MethodName)) ∈ tb_g := tb_c4 106 rfl rfl
theorem tw_827 : (Jvm.Cond.code ({ cls := "RoomNumbers$Valley", name := "linesWith", desc := "(I)I" } : Jvm.MethodName) prog_12_method_13_code (7 : Nat) (Option.some Jvm.ClassFile.FieldType.int)) ∈ tb_g := tb_c4 107 rfl rfl
theorem tw_828 : (Jvm.Cond.methodLink "RoomNumbers$Finder" (113 : Nat) ({ cls := "java/lang/System", name := "arraycopy", desc := "(Ljava/lang/Object;ILjava/lang/Object;II)V" } : Jvm.MethodName)) ∈ tb_g := tb_c4 108 rfl rfl
theorem tw_829 : (Jvm.Cond.methodLink "RoomNumbers$Finder" (124 : Nat) ({ cls := "RoomNumbers$Finder", name := "fitsAgain", desc := "(LRoomNumbers$Note;)Z" } : Jvm.MethodName)) ∈ tb_g := tb_c4 109 rfl rfl
theorem tw_831 : (Jvm.Cond.instanceMethod ({ cls := "RoomNumbers$Finder", name := "fitsAgain", desc := "(LRoomNumbers$Note;)Z" } : Jvm.MethodName)) ∈ tb_g := tb_c4 111 rfl rfl
theorem tw_832 : (Jvm.Cond.code ({ cls := "RoomNumbers$Finder", name := "fitsAgain", desc := "(LRoomNumbers$Note;)Z" } : Jvm.MethodName) prog_4_method_10_code (5 : Nat) (Option.some Jvm.ClassFile.FieldType.boolean)) ∈ tb_g := tb_c4 112 rfl rfl
theorem tw_833 : (Jvm.Cond.methodLink "RoomNumbers$Finder" (128 : Nat) ({ cls := "RoomNumbers$Finder", name := "keepMend", desc := "(III)V" } : Jvm.MethodName)) ∈ tb_g := tb_c4 113 rfl rfl
theorem tw_835 : (Jvm.Cond.instanceMethod ({ cls := "RoomNumbers$Finder", name := "keepMend", desc := "(III)V" } : Jvm.MethodName)) ∈ tb_g := tb_c4 115 rfl rfl
theorem tw_836 : (Jvm.Cond.code ({ cls := "RoomNumbers$Finder", name := "keepMend", desc := "(III)V" } : Jvm.MethodName) prog_4_method_9_code (4 : Nat) (Option.none : Option Jvm.ClassFile.FieldType)) ∈ tb_g := tb_c4 116 rfl rfl
theorem tw_837 : (Jvm.Cond.methodLink "RoomNumbersLaw" (103 : Nat) ({ cls := "RoomNumbers", name := "which", desc := "(I)I" } : Jvm.MethodName)) ∈ tb_g := tb_c4 117 rfl rfl
theorem tw_838 : (Jvm.Cond.instanceMethod ({ cls := "RoomNumbers", name := "which", desc := "(I)I" } : Jvm.MethodName)) ∈ tb_g := tb_c4 118 rfl rfl
theorem tw_839 : (Jvm.Cond.selects "RoomNumbers" ({ cls := "RoomNumbers", name := "which", desc := "(I)I" } : Jvm.MethodName) ({ cls := "RoomNumbers", name := "which", desc := "(I)I" } : Jvm.MethodName)) ∈ tb_g := tb_c4 119 rfl rfl
theorem tw_840 : (Jvm.Cond.code ({ cls := "RoomNumbers", name := "which", desc := "(I)I" } : Jvm.MethodName) prog_1_method_22_code (2 : Nat) (Option.some Jvm.ClassFile.FieldType.int)) ∈ tb_g := tb_c4 120 rfl rfl
theorem tw_841 : (Jvm.Cond.methodLink "RoomNumbers" (225 : Nat) ({ cls := "RoomNumbers$Finder", name := "eveningsFor", desc := "(I)I" } : Jvm.MethodName)) ∈ tb_g := tb_c4 121 rfl rfl
theorem tw_842 : (Jvm.Cond.instanceMethod ({ cls := "RoomNumbers$Finder", name := "eveningsFor", desc := "(I)I" } : Jvm.MethodName)) ∈ tb_g := tb_c4 122 rfl rfl
theorem tw_843 : (Jvm.Cond.selects "RoomNumbers$Finder" ({ cls := "RoomNumbers$Finder", name := "eveningsFor", desc := "(I)I" } : Jvm.MethodName) ({ cls := "RoomNumbers$Finder", name := "eveningsFor", desc := "(I)I" } : Jvm.MethodName)) ∈ tb_g := tb_c4 123 rfl rfl
theorem tw_844 : (Jvm.Cond.code ({ cls := "RoomNumbers$Finder", name := "eveningsFor", desc := "(I)I" } : Jvm.MethodName) prog_4_method_6_code (4 : Nat) (Option.some Jvm.ClassFile.FieldType.int)) ∈ tb_g := tb_c4 124 rfl rfl
theorem tw_845 : (Jvm.Cond.methodLink "RoomNumbersLaw" (107 : Nat) ({ cls := "RoomNumbers", name := "gain", desc := "(III)J" } : Jvm.MethodName)) ∈ tb_g := tb_c4 125 rfl rfl
theorem tw_846 : (Jvm.Cond.instanceMethod ({ cls := "RoomNumbers", name := "gain", desc := "(III)J" } : Jvm.MethodName)) ∈ tb_g := tb_c4 126 rfl rfl
theorem tw_847 : (Jvm.Cond.selects "RoomNumbers" ({ cls := "RoomNumbers", name := "gain", desc := "(III)J" } : Jvm.MethodName) ({ cls := "RoomNumbers", name := "gain", desc := "(III)J" } : Jvm.MethodName)) ∈ tb_g := tb_c4 127 rfl rfl
theorem tw_848 : (Jvm.Cond.code ({ cls := "RoomNumbers", name := "gain", desc := "(III)J" } : Jvm.MethodName) prog_1_method_23_code (5 : Nat) (Option.some Jvm.ClassFile.FieldType.long)) ∈ tb_g := tb_c4 128 rfl rfl
theorem tw_849 : (Jvm.Cond.methodLink "RoomNumbersLaw" (112 : Nat) ({ cls := "RoomNumbers", name := "written", desc := "(III)I" } : Jvm.MethodName)) ∈ tb_g := tb_c4 129 rfl rfl
theorem tw_850 : (Jvm.Cond.instanceMethod ({ cls := "RoomNumbers", name := "written", desc := "(III)I" } : Jvm.MethodName)) ∈ tb_g := tb_c4 130 rfl rfl
theorem tw_851 : (Jvm.Cond.selects "RoomNumbers" ({ cls := "RoomNumbers", name := "written", desc := "(III)I" } : Jvm.MethodName) ({ cls := "RoomNumbers", name := "written", desc := "(III)I" } : Jvm.MethodName)) ∈ tb_g := tb_c4 131 rfl rfl
theorem tw_852 : (Jvm.Cond.code ({ cls := "RoomNumbers", name := "written", desc := "(III)I" } : Jvm.MethodName) prog_1_method_24_code (7 : Nat) (Option.some Jvm.ClassFile.FieldType.int)) ∈ tb_g := tb_c4 132 rfl rfl
theorem tw_853 : (Jvm.Cond.methodLink "RoomNumbers" (228 : Nat) ({ cls := "RoomNumbers", name := "howLong", desc := "(II)I" } : Jvm.MethodName)) ∈ tb_g := tb_c4 133 rfl rfl
theorem tw_854 : (Jvm.Cond.static ({ cls := "RoomNumbers", name := "howLong", desc := "(II)I" } : Jvm.MethodName)) ∈ tb_g := tb_c4 134 rfl rfl
theorem tw_855 : (Jvm.Cond.code ({ cls := "RoomNumbers", name := "howLong", desc := "(II)I" } : Jvm.MethodName) prog_1_method_55_code (4 : Nat) (Option.some Jvm.ClassFile.FieldType.int)) ∈ tb_g := tb_c4 135 rfl rfl
theorem tw_856 : (Jvm.Cond.methodLink "RoomNumbersLaw" (116 : Nat) ({ cls := "RoomNumbers", name := "alike", desc := "(II)I" } : Jvm.MethodName)) ∈ tb_g := tb_c4 136 rfl rfl
theorem tw_857 : (Jvm.Cond.instanceMethod ({ cls := "RoomNumbers", name := "alike", desc := "(II)I" } : Jvm.MethodName)) ∈ tb_g := tb_c4 137 rfl rfl
theorem tw_858 : (Jvm.Cond.selects "RoomNumbers" ({ cls := "RoomNumbers", name := "alike", desc := "(II)I" } : Jvm.MethodName) ({ cls := "RoomNumbers", name := "alike", desc := "(II)I" } : Jvm.MethodName)) ∈ tb_g := tb_c4 138 rfl rfl
theorem tw_859 : (Jvm.Cond.code ({ cls := "RoomNumbers", name := "alike", desc := "(II)I" } : Jvm.MethodName) prog_1_method_25_code (4 : Nat) (Option.some Jvm.ClassFile.FieldType.int)) ∈ tb_g := tb_c4 139 rfl rfl
theorem tw_860 : (Jvm.Cond.methodLink "RoomNumbers" (231 : Nat) ({ cls := "RoomNumbers", name := "isSetOfBases", desc := "(I)Z" } : Jvm.MethodName)) ∈ tb_g := tb_c4 140 rfl rfl
theorem tw_861 : (Jvm.Cond.static ({ cls := "RoomNumbers", name := "isSetOfBases", desc := "(I)Z" } : Jvm.MethodName)) ∈ tb_g := tb_c4 141 rfl rfl
theorem tw_862 : (Jvm.Cond.code ({ cls := "RoomNumbers", name := "isSetOfBases", desc := "(I)Z" } : Jvm.MethodName) prog_1_method_53_code (1 : Nat) (Option.some Jvm.ClassFile.FieldType.boolean)) ∈ tb_g := tb_c4 142 rfl rfl
theorem tw_863 : (Jvm.Cond.constant "RoomNumbers" (312 : Nat) (-131069 : Int32)) ∈ tb_g := tb_c4 143 rfl rfl
theorem tw_864 : (Jvm.Cond.methodLink "RoomNumbersLaw" (120 : Nat) ({ cls := "RoomNumbers", name := "shortest", desc := "(II)I" } : Jvm.MethodName)) ∈ tb_g := tb_c4 144 rfl rfl
theorem tw_865 : (Jvm.Cond.instanceMethod ({ cls := "RoomNumbers", name := "shortest", desc := "(II)I" } : Jvm.MethodName)) ∈ tb_g := tb_c4 145 rfl rfl
theorem tw_866 : (Jvm.Cond.selects "RoomNumbers" ({ cls := "RoomNumbers", name := "shortest", desc := "(II)I" } : Jvm.MethodName) ({ cls := "RoomNumbers", name := "shortest", desc := "(II)I" } : Jvm.MethodName)) ∈ tb_g := tb_c4 146 rfl rfl
theorem tw_867 : (Jvm.Cond.code ({ cls := "RoomNumbers", name := "shortest", desc := "(II)I" } : Jvm.MethodName) prog_1_method_26_code (5 : Nat) (Option.some Jvm.ClassFile.FieldType.int)) ∈ tb_g := tb_c4 147 rfl rfl
theorem tw_868 : (Jvm.Cond.methodLink "RoomNumbersLaw" (124 : Nat) ({ cls := "RoomNumbers", name := "add", desc := "(II)I" } : Jvm.MethodName)) ∈ tb_g := tb_c4 148 rfl rfl
theorem tw_869 : (Jvm.Cond.instanceMethod ({ cls := "RoomNumbers", name := "add", desc := "(II)I" } : Jvm.MethodName)) ∈ tb_g := tb_c4 149 rfl rfl
theorem tw_870 : (Jvm.Cond.selects "RoomNumbers" ({ cls := "RoomNumbers", name := "add", desc := "(II)I" } : Jvm.MethodName) ({ cls := "RoomNumbers", name := "add", desc := "(II)I" } : Jvm.MethodName)) ∈ tb_g := tb_c4 150 rfl rfl
theorem tw_871 : (Jvm.Cond.code ({ cls := "RoomNumbers", name := "add", desc := "(II)I" } : Jvm.MethodName) prog_1_method_27_code (9 : Nat) (Option.some Jvm.ClassFile.FieldType.int)) ∈ tb_g := tb_c4 151 rfl rfl
theorem tw_872 : (Jvm.Cond.methodLink "RoomNumbers" (234 : Nat) ({ cls := "java/lang/Math", name := "max", desc := "(II)I" } : Jvm.MethodName)) ∈ tb_g := tb_c4 152 rfl rfl
theorem tw_873 : (Jvm.Cond.static ({ cls := "java/lang/Math", name := "max", desc := "(II)I" } : Jvm.MethodName)) ∈ tb_g := tb_c4 153 rfl rfl
theorem tw_874 : (Jvm.Cond.code ({ cls := "java/lang/Math", name := "max", desc := "(II)I" } : Jvm.MethodName) prog_17_method_65_code (2 : Nat) (Option.some Jvm.ClassFile.FieldType.int)) ∈ tb_g := tb_c4 154 rfl rfl
theorem tw_875 : (Jvm.Cond.methodLink "RoomNumbers" (239 : Nat) ({ cls := "RoomNumbers$Note", name := "markFromLast", desc := "(I)I" } : Jvm.MethodName)) ∈ tb_g := tb_c4 155 rfl rfl
theorem tw_876 : (Jvm.Cond.instanceMethod ({ cls := "RoomNumbers$Note", name := "markFromLast", desc := "(I)I" } : Jvm.MethodName)) ∈ tb_g := tb_c4 156 rfl rfl
theorem tw_877 : (Jvm.Cond.selects "RoomNumbers$Note" ({ cls := "RoomNumbers$Note", name := "markFromLast", desc := "(I)I" } : Jvm.MethodName) ({ cls := "RoomNumbers$Note", name := "markFromLast", desc := "(I)I" } : Jvm.MethodName)) ∈ tb_g := tb_c4 157 rfl rfl
theorem tw_878 : (Jvm.Cond.sameMethod "RoomNumbers$Note" "RoomNumbers$Note" "markFromLast" "(I)I") ∈ tb_g := tb_c4 158 rfl rfl
theorem tw_879 : (Jvm.Cond.selects "RoomNumbers$Broken" ({ cls := "RoomNumbers$Note", name := "markFromLast", desc := "(I)I" } : Jvm.MethodName) ({ cls := "RoomNumbers$Note", name := "markFromLast", desc := "(I)I" } : Jvm.MethodName)) ∈ tb_g := tb_c4 159 rfl rfl
theorem tw_880 : (Jvm.Cond.selects "RoomNumbers$Debt" ({ cls := "RoomNumbers$Note", name := "markFromLast", desc := "(I)I" } : Jvm.MethodName) ({ cls := "RoomNumbers$Note", name := "markFromLast", desc := "(I)I" } : Jvm.MethodName)) ∈ tb_g := tb_c4 160 rfl rfl
theorem tw_881 : (Jvm.Cond.selects "RoomNumbers$Left" ({ cls := "RoomNumbers$Note", name := "markFromLast", desc := "(I)I" } : Jvm.MethodName) ({ cls := "RoomNumbers$Note", name := "markFromLast", desc := "(I)I" } : Jvm.MethodName)) ∈ tb_g := tb_c4 161 rfl rfl
theorem tw_882 : (Jvm.Cond.selects "RoomNumbers$Strokes" ({ cls := "RoomNumbers$Note", name := "markFromLast", desc := "(I)I" } : Jvm.MethodName) ({ cls := "RoomNumbers$Note", name := "markFromLast", desc := "(I)I" } : Jvm.MethodName)) ∈ tb_g := tb_c4 162 rfl rfl
theorem tw_883 : (Jvm.Cond.selects "RoomNumbers$Turned" ({ cls := "RoomNumbers$Note", name := "markFromLast", desc := "(I)I" } : Jvm.MethodName) ({ cls := "RoomNumbers$Note", name := "markFromLast", desc := "(I)I" } : Jvm.MethodName)) ∈ tb_g := tb_c4 163 rfl rfl
theorem tw_884 : (Jvm.Cond.code ({ cls := "RoomNumbers$Note", name := "markFromLast", desc := "(I)I" } : Jvm.MethodName) prog_6_method_4_code (3 : Nat) (Option.some Jvm.ClassFile.FieldType.int)) ∈ tb_g := tb_c4 164 rfl rfl
theorem tw_885 : (Jvm.Cond.methodLink "RoomNumbers$Note" (25 : Nat) ({ cls := "RoomNumbers$Note", name := "hasPlace", desc := "(I)Z" } : Jvm.MethodName)) ∈ tb_g := tb_c4 165 rfl rfl
theorem tw_886 : (Jvm.Cond.methodLink "RoomNumbersLaw" (128 : Nat) ({ cls := "RoomNumbers", name := "seed", desc := "(I)I" } : Jvm.MethodName)) ∈ tb_g := tb_c4 166 rfl rfl
theorem tw_887 : (Jvm.Cond.instanceMethod ({ cls := "RoomNumbers", name := "seed", desc := "(I)I" } : Jvm.MethodName)) ∈ tb_g := tb_c4 167 rfl rfl
theorem tw_888 : (Jvm.Cond.selects "RoomNumbers" ({ cls := "RoomNumbers", name := "seed", desc := "(I)I" } : Jvm.MethodName) ({ cls := "RoomNumbers", name := "seed", desc := "(I)I" } : Jvm.MethodName)) ∈ tb_g := tb_c4 168 rfl rfl
theorem tw_889 : (Jvm.Cond.code ({ cls := "RoomNumbers", name := "seed", desc := "(I)I" } : Jvm.MethodName) prog_1_method_28_code (3 : Nat) (Option.some Jvm.ClassFile.FieldType.int)) ∈ tb_g := tb_c4 169 rfl rfl
theorem tw_890 : (Jvm.Cond.methodLink "RoomNumbersLaw" (132 : Nat) ({ cls := "RoomNumbers", name := "guess", desc := "()I" } : Jvm.MethodName)) ∈ tb_g := tb_c4 170 rfl rfl
theorem tw_891 : (Jvm.Cond.instanceMethod ({ cls := "RoomNumbers", name := "guess", desc := "()I" } : Jvm.MethodName)) ∈ tb_g := tb_c4 171 rfl rfl
theorem tw_892 : (Jvm.Cond.selects "RoomNumbers" ({ cls := "RoomNumbers", name := "guess", desc := "()I" } : Jvm.MethodName) ({ cls := "RoomNumbers", name := "guess", desc := "()I" } : Jvm.MethodName)) ∈ tb_g := tb_c4 172 rfl rfl
theorem tw_893 : (Jvm.Cond.code ({ cls := "RoomNumbers", name := "guess", desc := "()I" } : Jvm.MethodName) prog_1_method_29_code (2 : Nat) (Option.some Jvm.ClassFile.FieldType.int)) ∈ tb_g := tb_c4 173 rfl rfl
theorem tw_894 : (Jvm.Cond.constant "RoomNumbers" (242 : Nat) (1103515245 : Int32)) ∈ tb_g := tb_c4 174 rfl rfl
theorem tw_895 : (Jvm.Cond.methodLink "RoomNumbersLaw" (136 : Nat) ({ cls := "RoomNumbers", name := "prove", desc := "(I)I" } : Jvm.MethodName)) ∈ tb_g := tb_c4 175 rfl rfl
theorem tw_896 : (Jvm.Cond.instanceMethod ({ cls := "RoomNumbers", name := "prove", desc := "(I)I" } : Jvm.MethodName)) ∈ tb_g := tb_c4 176 rfl rfl
theorem tw_897 : (Jvm.Cond.selects "RoomNumbers" ({ cls := "RoomNumbers", name := "prove", desc := "(I)I" } : Jvm.MethodName) ({ cls := "RoomNumbers", name := "prove", desc := "(I)I" } : Jvm.MethodName)) ∈ tb_g := tb_c4 177 rfl rfl
theorem tw_898 : (Jvm.Cond.code ({ cls := "RoomNumbers", name := "prove", desc := "(I)I" } : Jvm.MethodName) prog_1_method_30_code (5 : Nat) (Option.some Jvm.ClassFile.FieldType.int)) ∈ tb_g := tb_c4 178 rfl rfl
theorem tw_899 : (Jvm.Cond.methodLink "RoomNumbersLaw" (140 : Nat) ({ cls := "RoomNumbers", name := "row", desc := "(II)J" } : Jvm.MethodName)) ∈ tb_g := tb_c4 179 rfl rfl
theorem tw_900 : (Jvm.Cond.instanceMethod ({ cls := "RoomNumbers", name := "row", desc := "(II)J" } : Jvm.MethodName)) ∈ tb_g := tb_c4 180 rfl rfl
theorem tw_901 : (Jvm.Cond.selects "RoomNumbers" ({ cls := "RoomNumbers", name := "row", desc := "(II)J" } : Jvm.MethodName) ({ cls := "RoomNumbers", name := "row", desc := "(II)J" } : Jvm.MethodName)) ∈ tb_g := tb_c4 181 rfl rfl
theorem tw_902 : (Jvm.Cond.code ({ cls := "RoomNumbers", name := "row", desc := "(II)J" } : Jvm.MethodName) prog_1_method_31_code (3 : Nat) (Option.some Jvm.ClassFile.FieldType.long)) ∈ tb_g := tb_c4 182 rfl rfl
theorem tw_903 : (Jvm.Cond.methodLink "RoomNumbers" (243 : Nat) ({ cls := "RoomNumbers", name := "hasRow", desc := "(II)Z" } : Jvm.MethodName)) ∈ tb_g := tb_c4 183 rfl rfl
theorem tw_905 : (Jvm.Cond.instanceMethod ({ cls := "RoomNumbers", name := "hasRow", desc := "(II)Z" } : Jvm.MethodName)) ∈ tb_g := tb_c4 185 rfl rfl
theorem tw_906 : (Jvm.Cond.code ({ cls := "RoomNumbers", name := "hasRow", desc := "(II)Z" } : Jvm.MethodName) prog_1_method_45_code (3 : Nat) (Option.some Jvm.ClassFile.FieldType.boolean)) ∈ tb_g := tb_c4 186 rfl rfl
theorem tw_907 : (Jvm.Cond.methodLink "RoomNumbersLaw" (144 : Nat) ({ cls := "RoomNumbers", name := "alterRow", desc := "(IIJ)J" } : Jvm.MethodName)) ∈ tb_g := tb_c4 187 rfl rfl
theorem tw_908 : (Jvm.Cond.instanceMethod ({ cls := "RoomNumbers", name := "alterRow", desc := "(IIJ)J" } : Jvm.MethodName)) ∈ tb_g := tb_c4 188 rfl rfl
theorem tw_909 : (Jvm.Cond.selects "RoomNumbers" ({ cls := "RoomNumbers", name := "alterRow", desc := "(IIJ)J" } : Jvm.MethodName) ({ cls := "RoomNumbers", name := "alterRow", desc := "(IIJ)J" } : Jvm.MethodName)) ∈ tb_g := tb_c4 189 rfl rfl
theorem tw_910 : (Jvm.Cond.code ({ cls := "RoomNumbers", name := "alterRow", desc := "(IIJ)J" } : Jvm.MethodName) prog_1_method_32_code (7 : Nat) (Option.some Jvm.ClassFile.FieldType.long)) ∈ tb_g := tb_c4 190 rfl rfl
theorem tw_911 : (Jvm.Cond.methodLink "RoomNumbersLaw" (149 : Nat) ({ cls := "RoomNumbers", name := "judge", desc := "()I" } : Jvm.MethodName)) ∈ tb_g := tb_c4 191 rfl rfl
theorem tw_912 : (Jvm.Cond.instanceMethod ({ cls := "RoomNumbers", name := "judge", desc := "()I" } : Jvm.MethodName)) ∈ tb_g := tb_c4 192 rfl rfl
theorem tw_913 : (Jvm.Cond.selects "RoomNumbers" ({ cls := "RoomNumbers", name := "judge", desc := "()I" } : Jvm.MethodName) ({ cls := "RoomNumbers", name := "judge", desc := "()I" } : Jvm.MethodName)) ∈ tb_g := tb_c4 193 rfl rfl
theorem tw_914 : (Jvm.Cond.code ({ cls := "RoomNumbers", name := "judge", desc := "()I" } : Jvm.MethodName) prog_1_method_33_code (2 : Nat) (Option.some Jvm.ClassFile.FieldType.int)) ∈ tb_g := tb_c4 194 rfl rfl
theorem tw_915 : (Jvm.Cond.methodLink "RoomNumbers" (247 : Nat) ({ cls := "RoomNumbers", name := "isRightRow", desc := "(I)Z" } : Jvm.MethodName)) ∈ tb_g := tb_c4 195 rfl rfl
theorem tw_917 : (Jvm.Cond.instanceMethod ({ cls := "RoomNumbers", name := "isRightRow", desc := "(I)Z" } : Jvm.MethodName)) ∈ tb_g := tb_c4 197 rfl rfl
theorem tw_918 : (Jvm.Cond.code ({ cls := "RoomNumbers", name := "isRightRow", desc := "(I)Z" } : Jvm.MethodName) prog_1_method_46_code (6 : Nat) (Option.some Jvm.ClassFile.FieldType.boolean)) ∈ tb_g := tb_c4 198 rfl rfl
theorem tw_919 : (Jvm.Cond.methodLink "RoomNumbers" (309 : Nat) ({ cls := "RoomNumbers$Note", name := "canBeIn", desc := "(I)Z" } : Jvm.MethodName)) ∈ tb_g := tb_c4 199 rfl rfl
theorem tw_920 : (Jvm.Cond.methodLink "RoomNumbersLaw" (153 : Nat) ({ cls := "RoomNumbers", name := "signs", desc := "(IIII)I" } : Jvm.MethodName)) ∈ tb_g := tb_c4 200 rfl rfl
theorem tw_921 : (Jvm.Cond.instanceMethod ({ cls := "RoomNumbers", name := "signs", desc := "(IIII)I" } : Jvm.MethodName)) ∈ tb_g := tb_c4 201 rfl rfl
theorem tw_922 : (Jvm.Cond.selects "RoomNumbers" ({ cls := "RoomNumbers", name := "signs", desc := "(IIII)I" } : Jvm.MethodName) ({ cls := "RoomNumbers", name := "signs", desc := "(IIII)I" } : Jvm.MethodName)) ∈ tb_g := tb_c4 202 rfl rfl
theorem tw_923 : (Jvm.Cond.code ({ cls := "RoomNumbers", name := "signs", desc := "(IIII)I" } : Jvm.MethodName) prog_1_method_34_code (8 : Nat) (Option.some Jvm.ClassFile.FieldType.int)) ∈ tb_g := tb_c4 203 rfl rfl
theorem tw_924 : (Jvm.Cond.methodLink "RoomNumbers" (250 : Nat) ({ cls := "RoomNumbers", name := "isSheet", desc := "(I)Z" } : Jvm.MethodName)) ∈ tb_g := tb_c4 204 rfl rfl
theorem tw_925 : (Jvm.Cond.static ({ cls := "RoomNumbers", name := "isSheet", desc := "(I)Z" } : Jvm.MethodName)) ∈ tb_g := tb_c4 205 rfl rfl
theorem tw_926 : (Jvm.Cond.code ({ cls := "RoomNumbers", name := "isSheet", desc := "(I)Z" } : Jvm.MethodName) prog_1_method_51_code (1 : Nat) (Option.some Jvm.ClassFile.FieldType.boolean)) ∈ tb_g := tb_c4 206 rfl rfl
theorem tw_927 : (Jvm.Cond.constantLong "RoomNumbers" (259 : Nat) (15 : Int64)) ∈ tb_g := tb_c4 207 rfl rfl
theorem tw_928 : (Jvm.Cond.methodLink "RoomNumbers" (261 : Nat) ({ cls := "java/lang/Math", name := "min", desc := "(JJ)J" } : Jvm.MethodName)) ∈ tb_g := tb_c4 208 rfl rfl
theorem tw_929 : (Jvm.Cond.static ({ cls := "java/lang/Math", name := "min", desc := "(JJ)J" } : Jvm.MethodName)) ∈ tb_g := tb_c4 209 rfl rfl
theorem tw_930 : (Jvm.Cond.code ({ cls := "java/lang/Math", name := "min", desc := "(JJ)J" } : Jvm.MethodName) prog_17_method_70_code (4 : Nat) (Option.some Jvm.ClassFile.FieldType.long)) ∈ tb_g := tb_c4 210 rfl rfl
theorem tw_931 : (Jvm.Cond.methodLink "RoomNumbers" (265 : Nat) ({ cls := "java/lang/Math", name := "max", desc := "(JJ)J" } : Jvm.MethodName)) ∈ tb_g := tb_c4 211 rfl rfl
theorem tw_932 : (Jvm.Cond.static ({ cls := "java/lang/Math", name := "max", desc := "(JJ)J" } : Jvm.MethodName)) ∈ tb_g := tb_c4 212 rfl rfl
theorem tw_933 : (Jvm.Cond.code ({ cls := "java/lang/Math", name := "max", desc := "(JJ)J" } : Jvm.MethodName) prog_17_method_66_code (4 : Nat) (Option.some Jvm.ClassFile.FieldType.long)) ∈ tb_g := tb_c4 213 rfl rfl
theorem tw_934 : (Jvm.Cond.methodLink "RoomNumbersLaw" (157 : Nat) ({ cls := "RoomNumbers", name := "sheet", desc := "(III)I" } : Jvm.MethodName)) ∈ tb_g := tb_c4 214 rfl rfl
theorem tw_935 : (Jvm.Cond.instanceMethod ({ cls := "RoomNumbers", name := "sheet", desc := "(III)I" } : Jvm.MethodName)) ∈ tb_g := tb_c4 215 rfl rfl
theorem tw_936 : (Jvm.Cond.selects "RoomNumbers" ({ cls := "RoomNumbers", name := "sheet", desc := "(III)I" } : Jvm.MethodName) ({ cls := "RoomNumbers", name := "sheet", desc := "(III)I" } : Jvm.MethodName)) ∈ tb_g := tb_c4 216 rfl rfl
theorem tw_937 : (Jvm.Cond.code ({ cls := "RoomNumbers", name := "sheet", desc := "(III)I" } : Jvm.MethodName) prog_1_method_35_code (4 : Nat) (Option.some Jvm.ClassFile.FieldType.int)) ∈ tb_g := tb_c4 217 rfl rfl
theorem tw_938 : (Jvm.Cond.instantiable "RoomNumbers$SheetRow" (2 : Nat)) ∈ tb_g := tb_c4 218 rfl rfl
theorem tw_939 : (Jvm.Cond.methodLink "RoomNumbers" (267 : Nat) ({ cls := "RoomNumbers$SheetRow", name := "<init>", desc := "(II)V" } : Jvm.MethodName)) ∈ tb_g := tb_c4 219 rfl rfl
theorem tw_940 : (Jvm.Cond.instanceMethod ({ cls := "RoomNumbers$SheetRow", name := "<init>", desc := "(II)V" } : Jvm.MethodName)) ∈ tb_g := tb_c4 220 rfl rfl
theorem tw_941 : (Jvm.Cond.code ({ cls := "RoomNumbers$SheetRow", name := "<init>", desc := "(II)V" } : Jvm.MethodName) prog_7_method_1_code (3 : Nat) (Option.none : Option Jvm.ClassFile.FieldType)) ∈ tb_g := tb_c4 221 rfl rfl
theorem tw_942 : (Jvm.Cond.methodLink "RoomNumbers$SheetRow" (1 : Nat) ({ cls := "java/lang/Object", name := "<init>", desc := "()V" } : Jvm.MethodName)) ∈ tb_g := tb_c4 222 rfl rfl
theorem tw_943 : (Jvm.Cond.methodLink "RoomNumbers$SheetRow" (13 : Nat) ({ cls := "java/lang/Math", name := "max", desc := "(II)I" } : Jvm.MethodName)) ∈ tb_g := tb_c4 223 rfl rfl
theorem tw_944 : (Jvm.Cond.fieldLink "RoomNumbers$SheetRow" (7 : Nat) "RoomNumbers$SheetRow" "sort" "I") ∈ tb_g := tb_c4 224 rfl rfl
theorem tw_945 : (Jvm.Cond.fieldLink "RoomNumbers" (253 : Nat) "RoomNumbers$SheetRow" "sort" "I") ∈ tb_g := tb_c4 225 rfl rfl
theorem tw_946 : (Jvm.Cond.fieldLink "RoomNumbers$SheetRow" (19 : Nat) "RoomNumbers$SheetRow" "items" "[J") ∈ tb_g := tb_c4 226 rfl rfl
theorem tw_947 : (Jvm.Cond.fieldLink "RoomNumbers" (256 : Nat) "RoomNumbers$SheetRow" "items" "[J") ∈ tb_g := tb_c4 227 rfl rfl
theorem tw_948 : (Jvm.Cond.laysFinal "RoomNumbers$SheetRow" "RoomNumbers$SheetRow" "sort" "I") ∈ tb_g := tb_c4 228 rfl rfl
theorem tw_950 : (Jvm.Cond.laysFinal "RoomNumbers$SheetRow" "RoomNumbers$SheetRow" "items" "[J") ∈ tb_g := tb_c4 230 rfl rfl
theorem tw_952 : (Jvm.Cond.superclass "RoomNumbers$SheetRow" "java/lang/Object") ∈ tb_g := tb_c4 232 rfl rfl
theorem tw_953 : (Jvm.Cond.methodLink "RoomNumbersLaw" (161 : Nat) ({ cls := "RoomNumbers", name := "put", desc := "(III)I" } : Jvm.MethodName)) ∈ tb_g := tb_c4 233 rfl rfl
theorem tw_954 : (Jvm.Cond.instanceMethod ({ cls := "RoomNumbers", name := "put", desc := "(III)I" } : Jvm.MethodName)) ∈ tb_g := tb_c4 234 rfl rfl
theorem tw_955 : (Jvm.Cond.selects "RoomNumbers" ({ cls := "RoomNumbers", name := "put", desc := "(III)I" } : Jvm.MethodName) ({ cls := "RoomNumbers", name := "put", desc := "(III)I" } : Jvm.MethodName)) ∈ tb_g := tb_c4 235 rfl rfl
theorem tw_956 : (Jvm.Cond.code ({ cls := "RoomNumbers", name := "put", desc := "(III)I" } : Jvm.MethodName) prog_1_method_36_code (5 : Nat) (Option.some Jvm.ClassFile.FieldType.int)) ∈ tb_g := tb_c4 236 rfl rfl
theorem tw_957 : (Jvm.Cond.methodLink "RoomNumbers" (270 : Nat) ({ cls := "RoomNumbers$SheetRow", name := "narrowed", desc := "(I)J" } : Jvm.MethodName)) ∈ tb_g := tb_c4 237 rfl rfl
theorem tw_958 : (Jvm.Cond.instanceMethod ({ cls := "RoomNumbers$SheetRow", name := "narrowed", desc := "(I)J" } : Jvm.MethodName)) ∈ tb_g := tb_c4 238 rfl rfl
theorem tw_959 : (Jvm.Cond.selects "RoomNumbers$SheetRow" ({ cls := "RoomNumbers$SheetRow", name := "narrowed", desc := "(I)J" } : Jvm.MethodName) ({ cls := "RoomNumbers$SheetRow", name := "narrowed", desc := "(I)J" } : Jvm.MethodName)) ∈ tb_g := tb_c4 239 rfl rfl
theorem tw_960 : (Jvm.Cond.code ({ cls := "RoomNumbers$SheetRow", name := "narrowed", desc := "(I)J" } : Jvm.MethodName) prog_7_method_2_code (2 : Nat) (Option.some Jvm.ClassFile.FieldType.long)) ∈ tb_g := tb_c5 0 rfl rfl
theorem tw_961 : (Jvm.Cond.methodLink "RoomNumbersLaw" (165 : Nat) ({ cls := "RoomNumbers", name := "item", desc := "(III)I" } : Jvm.MethodName)) ∈ tb_g := tb_c5 1 rfl rfl
theorem tw_962 : (Jvm.Cond.instanceMethod ({ cls := "RoomNumbers", name := "item", desc := "(III)I" } : Jvm.MethodName)) ∈ tb_g := tb_c5 2 rfl rfl
theorem tw_963 : (Jvm.Cond.selects "RoomNumbers" ({ cls := "RoomNumbers", name := "item", desc := "(III)I" } : Jvm.MethodName) ({ cls := "RoomNumbers", name := "item", desc := "(III)I" } : Jvm.MethodName)) ∈ tb_g := tb_c5 3 rfl rfl
theorem tw_964 : (Jvm.Cond.code ({ cls := "RoomNumbers", name := "item", desc := "(III)I" } : Jvm.MethodName) prog_1_method_37_code (5 : Nat) (Option.some Jvm.ClassFile.FieldType.int)) ∈ tb_g := tb_c5 4 rfl rfl
theorem tw_965 : (Jvm.Cond.methodLink "RoomNumbersLaw" (169 : Nat) ({ cls := "RoomNumbers", name := "shelf", desc := "(III)I" } : Jvm.MethodName)) ∈ tb_g := tb_c5 5 rfl rfl
theorem tw_966 : (Jvm.Cond.instanceMethod ({ cls := "RoomNumbers", name := "shelf", desc := "(III)I" } : Jvm.MethodName)) ∈ tb_g := tb_c5 6 rfl rfl
theorem tw_967 : (Jvm.Cond.selects "RoomNumbers" ({ cls := "RoomNumbers", name := "shelf", desc := "(III)I" } : Jvm.MethodName) ({ cls := "RoomNumbers", name := "shelf", desc := "(III)I" } : Jvm.MethodName)) ∈ tb_g := tb_c5 7 rfl rfl
theorem tw_968 : (Jvm.Cond.code ({ cls := "RoomNumbers", name := "shelf", desc := "(III)I" } : Jvm.MethodName) prog_1_method_38_code (4 : Nat) (Option.some Jvm.ClassFile.FieldType.int)) ∈ tb_g := tb_c5 8 rfl rfl
theorem tw_969 : (Jvm.Cond.methodLink "RoomNumbers" (274 : Nat) ({ cls := "RoomNumbers", name := "isShelf", desc := "(I)Z" } : Jvm.MethodName)) ∈ tb_g := tb_c5 9 rfl rfl
theorem tw_970 : (Jvm.Cond.static ({ cls := "RoomNumbers", name := "isShelf", desc := "(I)Z" } : Jvm.MethodName)) ∈ tb_g := tb_c5 10 rfl rfl
theorem tw_971 : (Jvm.Cond.code ({ cls := "RoomNumbers", name := "isShelf", desc := "(I)Z" } : Jvm.MethodName) prog_1_method_52_code (1 : Nat) (Option.some Jvm.ClassFile.FieldType.boolean)) ∈ tb_g := tb_c5 11 rfl rfl
theorem tw_972 : (Jvm.Cond.methodLink "RoomNumbersLaw" (173 : Nat) ({ cls := "RoomNumbers", name := "taken", desc := "(II)I" } : Jvm.MethodName)) ∈ tb_g := tb_c5 12 rfl rfl
theorem tw_973 : (Jvm.Cond.instanceMethod ({ cls := "RoomNumbers", name := "taken", desc := "(II)I" } : Jvm.MethodName)) ∈ tb_g := tb_c5 13 rfl rfl
theorem tw_974 : (Jvm.Cond.selects "RoomNumbers" ({ cls := "RoomNumbers", name := "taken", desc := "(II)I" } : Jvm.MethodName) ({ cls := "RoomNumbers", name := "taken", desc := "(II)I" } : Jvm.MethodName)) ∈ tb_g := tb_c5 14 rfl rfl
theorem tw_975 : (Jvm.Cond.code ({ cls := "RoomNumbers", name := "taken", desc := "(II)I" } : Jvm.MethodName) prog_1_method_39_code (6 : Nat) (Option.some Jvm.ClassFile.FieldType.int)) ∈ tb_g := tb_c5 15 rfl rfl
theorem tw_976 : (Jvm.Cond.methodLink "RoomNumbers" (277 : Nat) ({ cls := "RoomNumbers", name := "noteOn", desc := "(I)LRoomNumbers$Note;" } : Jvm.MethodName)) ∈ tb_g := tb_c5 16 rfl rfl
theorem tw_978 : (Jvm.Cond.instanceMethod ({ cls := "RoomNumbers", name := "noteOn", desc := "(I)LRoomNumbers$Note;" } : Jvm.MethodName)) ∈ tb_g := tb_c5 18 rfl rfl
theorem tw_979 : (Jvm.Cond.code ({ cls := "RoomNumbers", name := "noteOn", desc := "(I)LRoomNumbers$Note;" } : Jvm.MethodName) prog_1_method_47_code (2 : Nat) (Option.some (Jvm.ClassFile.FieldType.object "RoomNumbers$Note"))) ∈ tb_g := tb_c5 19 rfl rfl
theorem tw_980 : (Jvm.Cond.methodLink "RoomNumbers" (280 : Nat) ({ cls := "RoomNumbers$Note", name := "isOfKind", desc := "(I)Z" } : Jvm.MethodName)) ∈ tb_g := tb_c5 20 rfl rfl
theorem tw_981 : (Jvm.Cond.instanceMethod ({ cls := "RoomNumbers$Note", name := "isOfKind", desc := "(I)Z" } : Jvm.MethodName)) ∈ tb_g := tb_c5 21 rfl rfl
theorem tw_982 : (Jvm.Cond.selects "RoomNumbers$Note" ({ cls := "RoomNumbers$Note", name := "isOfKind", desc := "(I)Z" } : Jvm.MethodName) ({ cls := "RoomNumbers$Note", name := "isOfKind", desc := "(I)Z" } : Jvm.MethodName)) ∈ tb_g := tb_c5 22 rfl rfl
theorem tw_983 : (Jvm.Cond.sameMethod "RoomNumbers$Note" "RoomNumbers$Note" "isOfKind" "(I)Z") ∈ tb_g := tb_c5 23 rfl rfl
theorem tw_984 : (Jvm.Cond.selects "RoomNumbers$Broken" ({ cls := "RoomNumbers$Note", name := "isOfKind", desc := "(I)Z" } : Jvm.MethodName) ({ cls := "RoomNumbers$Note", name := "isOfKind", desc := "(I)Z" } : Jvm.MethodName)) ∈ tb_g := tb_c5 24 rfl rfl
theorem tw_985 : (Jvm.Cond.selects "RoomNumbers$Debt" ({ cls := "RoomNumbers$Note", name := "isOfKind", desc := "(I)Z" } : Jvm.MethodName) ({ cls := "RoomNumbers$Note", name := "isOfKind", desc := "(I)Z" } : Jvm.MethodName)) ∈ tb_g := tb_c5 25 rfl rfl
theorem tw_986 : (Jvm.Cond.selects "RoomNumbers$Left" ({ cls := "RoomNumbers$Note", name := "isOfKind", desc := "(I)Z" } : Jvm.MethodName) ({ cls := "RoomNumbers$Note", name := "isOfKind", desc := "(I)Z" } : Jvm.MethodName)) ∈ tb_g := tb_c5 26 rfl rfl
theorem tw_987 : (Jvm.Cond.selects "RoomNumbers$Strokes" ({ cls := "RoomNumbers$Note", name := "isOfKind", desc := "(I)Z" } : Jvm.MethodName) ({ cls := "RoomNumbers$Note", name := "isOfKind", desc := "(I)Z" } : Jvm.MethodName)) ∈ tb_g := tb_c5 27 rfl rfl
theorem tw_988 : (Jvm.Cond.selects "RoomNumbers$Turned" ({ cls := "RoomNumbers$Note", name := "isOfKind", desc := "(I)Z" } : Jvm.MethodName) ({ cls := "RoomNumbers$Note", name := "isOfKind", desc := "(I)Z" } : Jvm.MethodName)) ∈ tb_g := tb_c5 28 rfl rfl
theorem tw_989 : (Jvm.Cond.code ({ cls := "RoomNumbers$Note", name := "isOfKind", desc := "(I)Z" } : Jvm.MethodName) prog_6_method_5_code (2 : Nat) (Option.some Jvm.ClassFile.FieldType.boolean)) ∈ tb_g := tb_c5 29 rfl rfl
theorem tw_990 : (Jvm.Cond.classLink "RoomNumbers$Note" (29 : Nat) "RoomNumbers$Strokes") ∈ tb_g := tb_c5 30 rfl rfl
theorem tw_991 : (Jvm.Cond.classLink "RoomNumbers$Note" (31 : Nat) "RoomNumbers$Broken") ∈ tb_g := tb_c5 31 rfl rfl
theorem tw_992 : (Jvm.Cond.classLink "RoomNumbers$Note" (33 : Nat) "RoomNumbers$Left") ∈ tb_g := tb_c5 32 rfl rfl
theorem tw_993 : (Jvm.Cond.classLink "RoomNumbers$Note" (35 : Nat) "RoomNumbers$Turned") ∈ tb_g := tb_c5 33 rfl rfl
theorem tw_994 : (Jvm.Cond.classLink "RoomNumbers$Note" (37 : Nat) "RoomNumbers$Debt") ∈ tb_g := tb_c5 34 rfl rfl
theorem tw_995 : (Jvm.Cond.methodLink "RoomNumbersLaw" (177 : Nat) ({ cls := "RoomNumbers", name := "act", desc := "(III)I" } : Jvm.MethodName)) ∈ tb_g := tb_c5 35 rfl rfl
theorem tw_996 : (Jvm.Cond.instanceMethod ({ cls := "RoomNumbers", name := "act", desc := "(III)I" } : Jvm.MethodName)) ∈ tb_g := tb_c5 36 rfl rfl
theorem tw_997 : (Jvm.Cond.selects "RoomNumbers" ({ cls := "RoomNumbers", name := "act", desc := "(III)I" } : Jvm.MethodName) ({ cls := "RoomNumbers", name := "act", desc := "(III)I" } : Jvm.MethodName)) ∈ tb_g := tb_c5 37 rfl rfl
theorem tw_998 : (Jvm.Cond.code ({ cls := "RoomNumbers", name := "act", desc := "(III)I" } : Jvm.MethodName) prog_1_method_40_code (6 : Nat) (Option.some Jvm.ClassFile.FieldType.int)) ∈ tb_g := tb_c5 38 rfl rfl
theorem tw_999 : (Jvm.Cond.methodLink "RoomNumbers" (286 : Nat) ({ cls := "RoomNumbers$Trace", name := "clear", desc := "()V" } : Jvm.MethodName)) ∈ tb_g := tb_c5 39 rfl rfl
theorem tw_1000 : (Jvm.Cond.instanceMethod ({ cls := "RoomNumbers$Trace", name := "clear", desc := "()V" } : Jvm.MethodName)) ∈ tb_g := tb_c5 40 rfl rfl
theorem tw_1001 : (Jvm.Cond.selects "RoomNumbers$Trace" ({ cls := "RoomNumbers$Trace", name := "clear", desc := "()V" } : Jvm.MethodName) ({ cls := "RoomNumbers$Trace", name := "clear", desc := "()V" } : Jvm.MethodName)) ∈ tb_g := tb_c5 41 rfl rfl
theorem tw_1002 : (Jvm.Cond.code ({ cls := "RoomNumbers$Trace", name := "clear", desc := "()V" } : Jvm.MethodName) prog_10_method_2_code (1 : Nat) (Option.none : Option Jvm.ClassFile.FieldType)) ∈ tb_g := tb_c5 42 rfl rfl
theorem tw_1003 : (Jvm.Cond.methodLink "RoomNumbers" (289 : Nat) ({ cls := "RoomNumbers$Note", name := "reads", desc := "(ILRoomNumbers$Trace;)I" } : Jvm.MethodName)) ∈ tb_g := tb_c5 43 rfl rfl
theorem tw_1004 : (Jvm.Cond.instanceMethod ({ cls := "RoomNumbers$Note", name := "reads", desc := "(ILRoomNumbers$Trace;)I" } : Jvm.MethodName)) ∈ tb_g := tb_c5 44 rfl rfl
theorem tw_1005 : (Jvm.Cond.selects "RoomNumbers$Note" ({ cls := "RoomNumbers$Note", name := "reads", desc := "(ILRoomNumbers$Trace;)I" } : Jvm.MethodName) ({ cls := "RoomNumbers$Note", name := "reads", desc := "(ILRoomNumbers$Trace;)I" } : Jvm.MethodName)) ∈ tb_g := tb_c5 45 rfl rfl
theorem tw_1006 : (Jvm.Cond.sameMethod "RoomNumbers$Note" "RoomNumbers$Note" "reads" "(ILRoomNumbers$Trace;)I") ∈ tb_g := tb_c5 46 rfl rfl
theorem tw_1007 : (Jvm.Cond.selects "RoomNumbers$Broken" ({ cls := "RoomNumbers$Note", name := "reads", desc := "(ILRoomNumbers$Trace;)I" } : Jvm.MethodName) ({ cls := "RoomNumbers$Broken", name := "reads", desc := "(ILRoomNumbers$Trace;)I" } : Jvm.MethodName)) ∈ tb_g := tb_c5 47 rfl rfl
theorem tw_1008 : (Jvm.Cond.instanceMethod ({ cls := "RoomNumbers$Broken", name := "reads", desc := "(ILRoomNumbers$Trace;)I" } : Jvm.MethodName)) ∈ tb_g := tb_c5 48 rfl rfl
theorem tw_1009 : (Jvm.Cond.code ({ cls := "RoomNumbers$Broken", name := "reads", desc := "(ILRoomNumbers$Trace;)I" } : Jvm.MethodName) prog_2_method_6_code (3 : Nat) (Option.some Jvm.ClassFile.FieldType.int)) ∈ tb_g := tb_c5 49 rfl rfl
theorem tw_1010 : (Jvm.Cond.methodLink "RoomNumbers$Broken" (43 : Nat) ({ cls := "RoomNumbers$Note", name := "reads", desc := "(ILRoomNumbers$Trace;)I" } : Jvm.MethodName)) ∈ tb_g := tb_c5 50 rfl rfl
theorem tw_1011 : (Jvm.Cond.selects "RoomNumbers$Debt" ({ cls := "RoomNumbers$Note", name := "reads", desc := "(ILRoomNumbers$Trace;)I" } : Jvm.MethodName) ({ cls := "RoomNumbers$Debt", name := "reads", desc := "(ILRoomNumbers$Trace;)I" } : Jvm.MethodName)) ∈ tb_g := tb_c5 51 rfl rfl
theorem tw_1012 : (Jvm.Cond.instanceMethod ({ cls := "RoomNumbers$Debt", name := "reads", desc := "(ILRoomNumbers$Trace;)I" } : Jvm.MethodName)) ∈ tb_g := tb_c5 52 rfl rfl
theorem tw_1013 : (Jvm.Cond.code ({ cls := "RoomNumbers$Debt", name := "reads", desc := "(ILRoomNumbers$Trace;)I" } : Jvm.MethodName) prog_3_method_5_code (3 : Nat) (Option.some Jvm.ClassFile.FieldType.int)) ∈ tb_g := tb_c5 53 rfl rfl
theorem tw_1014 : (Jvm.Cond.methodLink "RoomNumbers$Debt" (25 : Nat) ({ cls := "RoomNumbers$Strokes", name := "reads", desc := "(ILRoomNumbers$Trace;)I" } : Jvm.MethodName)) ∈ tb_g := tb_c5 54 rfl rfl
theorem tw_1015 : (Jvm.Cond.sameMethod "RoomNumbers$Strokes" "RoomNumbers$Note" "reads" "(ILRoomNumbers$Trace;)I") ∈ tb_g := tb_c5 55 rfl rfl
theorem tw_1016 : (Jvm.Cond.declares ({ cls := "RoomNumbers$Note", name := "reads", desc := "(ILRoomNumbers$Trace;)I" } : Jvm.MethodName)) ∈ lw_tbl := tb_l5 (List.mem_of_getElem? (i := 56) rfl)
theorem tw_1017 : (Jvm.Cond.selects "RoomNumbers$Left" ({ cls := "RoomNumbers$Note", name := "reads", desc := "(ILRoomNumbers$Trace;)I" } : Jvm.MethodName) ({ cls := "RoomNumbers$Left", name := "reads", desc := "(ILRoomNumbers$Trace;)I" } : Jvm.MethodName)) ∈ tb_g := tb_c5 57 rfl rfl
theorem tw_1018 : (Jvm.Cond.instanceMethod ({ cls := "RoomNumbers$Left", name := "reads", desc := "(ILRoomNumbers$Trace;)I" } : Jvm.MethodName)) ∈ tb_g := tb_c5 58 rfl rfl
theorem tw_1019 : (Jvm.Cond.code ({ cls := "RoomNumbers$Left", name := "reads", desc := "(ILRoomNumbers$Trace;)I" } : Jvm.MethodName) prog_5_method_4_code (3 : Nat) (Option.some Jvm.ClassFile.FieldType.int)) ∈ tb_g := tb_c5 59 rfl rfl
theorem tw_1020 : (Jvm.Cond.methodLink "RoomNumbers$Left" (17 : Nat) ({ cls := "RoomNumbers$Broken", name := "reads", desc := "(ILRoomNumbers$Trace;)I" } : Jvm.MethodName)) ∈ tb_g := tb_c5 60 rfl rfl
theorem tw_1021 : (Jvm.Cond.selects "RoomNumbers$Strokes" ({ cls := "RoomNumbers$Note", name := "reads", desc := "(ILRoomNumbers$Trace;)I" } : Jvm.MethodName) ({ cls := "RoomNumbers$Note", name := "reads", desc := "(ILRoomNumbers$Trace;)I" } : Jvm.MethodName)) ∈ tb_g := tb_c5 61 rfl rfl
theorem tw_1022 : (Jvm.Cond.selects "RoomNumbers$Turned" ({ cls := "RoomNumbers$Note", name := "reads", desc := "(ILRoomNumbers$Trace;)I" } : Jvm.MethodName) ({ cls := "RoomNumbers$Note", name := "reads", desc := "(ILRoomNumbers$Trace;)I" } : Jvm.MethodName)) ∈ tb_g := tb_c5 62 rfl rfl
theorem tw_1023 : (Jvm.Cond.code ({ cls := "RoomNumbers$Note", name := "reads", desc := "(ILRoomNumbers$Trace;)I" } : Jvm.MethodName) prog_6_method_11_code (3 : Nat) (Option.some Jvm.ClassFile.FieldType.int)) ∈ tb_g := tb_c5 63 rfl rfl
theorem tw_1024 : (Jvm.Cond.methodLink "RoomNumbers" (293 : Nat) ({ cls := "RoomNumbers$Note", name := "writes", desc := "(ILRoomNumbers$Trace;)I" } : Jvm.MethodName)) ∈ tb_g := tb_c5 64 rfl rfl
theorem tw_1025 : (Jvm.Cond.instanceMethod ({ cls := "RoomNumbers$Note", name := "writes", desc := "(ILRoomNumbers$Trace;)I" } : Jvm.MethodName)) ∈ tb_g := tb_c5 65 rfl rfl
theorem tw_1026 : (Jvm.Cond.selects "RoomNumbers$Note" ({ cls := "RoomNumbers$Note", name := "writes", desc := "(ILRoomNumbers$Trace;)I" } : Jvm.MethodName) ({ cls := "RoomNumbers$Note", name := "writes", desc := "(ILRoomNumbers$Trace;)I" } : Jvm.MethodName)) ∈ tb_g := tb_c5 66 rfl rfl
theorem tw_1027 : (Jvm.Cond.sameMethod "RoomNumbers$Note" "RoomNumbers$Note" "writes" "(ILRoomNumbers$Trace;)I") ∈ tb_g := tb_c5 67 rfl rfl
theorem tw_1028 : (Jvm.Cond.selects "RoomNumbers$Broken" ({ cls := "RoomNumbers$Note", name := "writes", desc := "(ILRoomNumbers$Trace;)I" } : Jvm.MethodName) ({ cls := "RoomNumbers$Note", name := "writes", desc := "(ILRoomNumbers$Trace;)I" } : Jvm.MethodName)) ∈ tb_g := tb_c5 68 rfl rfl
theorem tw_1029 : (Jvm.Cond.selects "RoomNumbers$Debt" ({ cls := "RoomNumbers$Note", name := "writes", desc := "(ILRoomNumbers$Trace;)I" } : Jvm.MethodName) ({ cls := "RoomNumbers$Strokes", name := "writes", desc := "(ILRoomNumbers$Trace;)I" } : Jvm.MethodName)) ∈ tb_g := tb_c5 69 rfl rfl
theorem tw_1030 : (Jvm.Cond.instanceMethod ({ cls := "RoomNumbers$Strokes", name := "writes", desc := "(ILRoomNumbers$Trace;)I" } : Jvm.MethodName)) ∈ tb_g := tb_c5 70 rfl rfl
theorem tw_1031 : (Jvm.Cond.code ({ cls := "RoomNumbers$Strokes", name := "writes", desc := "(ILRoomNumbers$Trace;)I" } : Jvm.MethodName) prog_8_method_5_code (3 : Nat) (Option.some Jvm.ClassFile.FieldType.int)) ∈ tb_g := tb_c5 71 rfl rfl
theorem tw_1032 : (Jvm.Cond.methodLink "RoomNumbers$Strokes" (22 : Nat) ({ cls := "RoomNumbers$Note", name := "writes", desc := "(ILRoomNumbers$Trace;)I" } : Jvm.MethodName)) ∈ tb_g := tb_c5 72 rfl rfl
theorem tw_1033 : (Jvm.Cond.selects "RoomNumbers$Left" ({ cls := "RoomNumbers$Note", name := "writes", desc := "(ILRoomNumbers$Trace;)I" } : Jvm.MethodName) ({ cls := "RoomNumbers$Left", name := "writes", desc := "(ILRoomNumbers$Trace;)I" } : Jvm.MethodName)) ∈ tb_g := tb_c5 73 rfl rfl
theorem tw_1034 : (Jvm.Cond.instanceMethod ({ cls := "RoomNumbers$Left", name := "writes", desc := "(ILRoomNumbers$Trace;)I" } : Jvm.MethodName)) ∈ tb_g := tb_c5 74 rfl rfl
theorem tw_1035 : (Jvm.Cond.code ({ cls := "RoomNumbers$Left", name := "writes", desc := "(ILRoomNumbers$Trace;)I" } : Jvm.MethodName) prog_5_method_5_code (3 : Nat) (Option.some Jvm.ClassFile.FieldType.int)) ∈ tb_g := tb_c5 75 rfl rfl
theorem tw_1036 : (Jvm.Cond.methodLink "RoomNumbers$Left" (21 : Nat) ({ cls := "RoomNumbers$Broken", name := "writes", desc := "(ILRoomNumbers$Trace;)I" } : Jvm.MethodName)) ∈ tb_g := tb_c5 76 rfl rfl
theorem tw_1037 : (Jvm.Cond.sameMethod "RoomNumbers$Broken" "RoomNumbers$Note" "writes" "(ILRoomNumbers$Trace;)I") ∈ tb_g := tb_c5 77 rfl rfl
theorem tw_1038 : (Jvm.Cond.declares ({ cls := "RoomNumbers$Note", name := "writes", desc := "(ILRoomNumbers$Trace;)I" } : Jvm.MethodName)) ∈ lw_tbl := tb_l5 (List.mem_of_getElem? (i := 78) rfl)
theorem tw_1039 : (Jvm.Cond.methodLink "RoomNumbers$Left" (29 : Nat) ({ cls := "RoomNumbers$Left", name := "reads", desc := "(ILRoomNumbers$Trace;)I" } : Jvm.MethodName)) ∈ tb_g := tb_c5 79 rfl rfl
theorem tw_1040 : (Jvm.Cond.selects "RoomNumbers$Strokes" ({ cls := "RoomNumbers$Note", name := "writes", desc := "(ILRoomNumbers$Trace;)I" } : Jvm.MethodName) ({ cls := "RoomNumbers$Strokes", name := "writes", desc := "(ILRoomNumbers$Trace;)I" } : Jvm.MethodName)) ∈ tb_g := tb_c5 80 rfl rfl
theorem tw_1041 : (Jvm.Cond.selects "RoomNumbers$Turned" ({ cls := "RoomNumbers$Note", name := "writes", desc := "(ILRoomNumbers$Trace;)I" } : Jvm.MethodName) ({ cls := "RoomNumbers$Note", name := "writes", desc := "(ILRoomNumbers$Trace;)I" } : Jvm.MethodName)) ∈ tb_g := tb_c5 81 rfl rfl
theorem tw_1042 : (Jvm.Cond.code ({ cls := "RoomNumbers$Note", name := "writes", desc := "(ILRoomNumbers$Trace;)I" } : Jvm.MethodName) prog_6_method_12_code (3 : Nat) (Option.some Jvm.ClassFile.FieldType.int)) ∈ tb_g := tb_c5 82 rfl rfl
theorem tw_1043 : (Jvm.Cond.methodLink "RoomNumbers$Note" (58 : Nat) ({ cls := "RoomNumbers$Note", name := "reads", desc := "(ILRoomNumbers$Trace;)I" } : Jvm.MethodName)) ∈ tb_g := tb_c5 83 rfl rfl
theorem tw_1044 : (Jvm.Cond.methodLink "RoomNumbers" (296 : Nat) ({ cls := "RoomNumbers$Note", name := "shares", desc := "(ILRoomNumbers$Trace;)I" } : Jvm.MethodName)) ∈ tb_g := tb_c5 84 rfl rfl
theorem tw_1045 : (Jvm.Cond.instanceMethod ({ cls := "RoomNumbers$Note", name := "shares", desc := "(ILRoomNumbers$Trace;)I" } : Jvm.MethodName)) ∈ tb_g := tb_c5 85 rfl rfl
theorem tw_1046 : (Jvm.Cond.selects "RoomNumbers$Note" ({ cls := "RoomNumbers$Note", name := "shares", desc := "(ILRoomNumbers$Trace;)I" } : Jvm.MethodName) ({ cls := "RoomNumbers$Note", name := "shares", desc := "(ILRoomNumbers$Trace;)I" } : Jvm.MethodName)) ∈ tb_g := tb_c5 86 rfl rfl
theorem tw_1047 : (Jvm.Cond.sameMethod "RoomNumbers$Note" "RoomNumbers$Note" "shares" "(ILRoomNumbers$Trace;)I") ∈ tb_g := tb_c5 87 rfl rfl
theorem tw_1048 : (Jvm.Cond.selects "RoomNumbers$Broken" ({ cls := "RoomNumbers$Note", name := "shares", desc := "(ILRoomNumbers$Trace;)I" } : Jvm.MethodName) ({ cls := "RoomNumbers$Note", name := "shares", desc := "(ILRoomNumbers$Trace;)I" } : Jvm.MethodName)) ∈ tb_g := tb_c5 88 rfl rfl
theorem tw_1049 : (Jvm.Cond.selects "RoomNumbers$Debt" ({ cls := "RoomNumbers$Note", name := "shares", desc := "(ILRoomNumbers$Trace;)I" } : Jvm.MethodName) ({ cls := "RoomNumbers$Debt", name := "shares", desc := "(ILRoomNumbers$Trace;)I" } : Jvm.MethodName)) ∈ tb_g := tb_c5 89 rfl rfl
theorem tw_1050 : (Jvm.Cond.instanceMethod ({ cls := "RoomNumbers$Debt", name := "shares", desc := "(ILRoomNumbers$Trace;)I" } : Jvm.MethodName)) ∈ tb_g := tb_c5 90 rfl rfl
theorem tw_1051 : (Jvm.Cond.code ({ cls := "RoomNumbers$Debt", name := "shares", desc := "(ILRoomNumbers$Trace;)I" } : Jvm.MethodName) prog_3_method_4_code (3 : Nat) (Option.some Jvm.ClassFile.FieldType.int)) ∈ tb_g := tb_c5 91 rfl rfl
theorem tw_1052 : (Jvm.Cond.methodLink "RoomNumbers$Debt" (21 : Nat) ({ cls := "RoomNumbers$Strokes", name := "shares", desc := "(ILRoomNumbers$Trace;)I" } : Jvm.MethodName)) ∈ tb_g := tb_c5 92 rfl rfl
theorem tw_1053 : (Jvm.Cond.sameMethod "RoomNumbers$Strokes" "RoomNumbers$Note" "shares" "(ILRoomNumbers$Trace;)I") ∈ tb_g := tb_c5 93 rfl rfl
theorem tw_1054 : (Jvm.Cond.declares ({ cls := "RoomNumbers$Note", name := "shares", desc := "(ILRoomNumbers$Trace;)I" } : Jvm.MethodName)) ∈ lw_tbl := tb_l5 (List.mem_of_getElem? (i := 94) rfl)
theorem tw_1055 : (Jvm.Cond.selects "RoomNumbers$Left" ({ cls := "RoomNumbers$Note", name := "shares", desc := "(ILRoomNumbers$Trace;)I" } : Jvm.MethodName) ({ cls := "RoomNumbers$Note", name := "shares", desc := "(ILRoomNumbers$Trace;)I" } : Jvm.MethodName)) ∈ tb_g := tb_c5 95 rfl rfl
theorem tw_1056 : (Jvm.Cond.selects "RoomNumbers$Strokes" ({ cls := "RoomNumbers$Note", name := "shares", desc := "(ILRoomNumbers$Trace;)I" } : Jvm.MethodName) ({ cls := "RoomNumbers$Note", name := "shares", desc := "(ILRoomNumbers$Trace;)I" } : Jvm.MethodName)) ∈ tb_g := tb_c5 96 rfl rfl
theorem tw_1057 : (Jvm.Cond.selects "RoomNumbers$Turned" ({ cls := "RoomNumbers$Note", name := "shares", desc := "(ILRoomNumbers$Trace;)I" } : Jvm.MethodName) ({ cls := "RoomNumbers$Turned", name := "shares", desc := "(ILRoomNumbers$Trace;)I" } : Jvm.MethodName)) ∈ tb_g := tb_c5 97 rfl rfl
theorem tw_1058 : (Jvm.Cond.instanceMethod ({ cls := "RoomNumbers$Turned", name := "shares", desc := "(ILRoomNumbers$Trace;)I" } : Jvm.MethodName)) ∈ tb_g := tb_c5 98 rfl rfl
theorem tw_1059 : (Jvm.Cond.code ({ cls := "RoomNumbers$Turned", name := "shares", desc := "(ILRoomNumbers$Trace;)I" } : Jvm.MethodName) prog_11_method_5_code (3 : Nat) (Option.some Jvm.ClassFile.FieldType.int)) ∈ tb_g := tb_c5 99 rfl rfl
theorem tw_1060 : (Jvm.Cond.methodLink "RoomNumbers$Turned" (26 : Nat) ({ cls := "RoomNumbers$Note", name := "shares", desc := "(ILRoomNumbers$Trace;)I" } : Jvm.MethodName)) ∈ tb_g := tb_c5 100 rfl rfl
theorem tw_1061 : (Jvm.Cond.methodLink "RoomNumbers$Turned" (32 : Nat) ({ cls := "RoomNumbers$Turned", name := "reads", desc := "(ILRoomNumbers$Trace;)I" } : Jvm.MethodName)) ∈ tb_g := tb_c5 101 rfl rfl
theorem tw_1062 : (Jvm.Cond.sameMethod "RoomNumbers$Turned" "RoomNumbers$Note" "reads" "(ILRoomNumbers$Trace;)I") ∈ tb_g := tb_c5 102 rfl rfl
theorem tw_1063 : (Jvm.Cond.selects "RoomNumbers$Turned" ({ cls := "RoomNumbers$Turned", name := "reads", desc := "(ILRoomNumbers$Trace;)I" } : Jvm.MethodName) ({ cls := "RoomNumbers$Note", name := "reads", desc := "(ILRoomNumbers$Trace;)I" } : Jvm.MethodName)) ∈ tb_g := tb_c5 103 rfl rfl
theorem tw_1064 : (Jvm.Cond.code ({ cls := "RoomNumbers$Note", name := "shares", desc := "(ILRoomNumbers$Trace;)I" } : Jvm.MethodName) prog_6_method_13_code (4 : Nat) (Option.some Jvm.ClassFile.FieldType.int)) ∈ tb_g := tb_c5 104 rfl rfl
theorem tw_1065 : (Jvm.Cond.methodLink "RoomNumbers$Note" (62 : Nat) ({ cls := "RoomNumbers$Trace", name := "end", desc := "()V" } : Jvm.MethodName)) ∈ tb_g := tb_c5 105 rfl rfl
theorem tw_1066 : (Jvm.Cond.instanceMethod ({ cls := "RoomNumbers$Trace", name := "end", desc := "()V" } : Jvm.MethodName)) ∈ tb_g := tb_c5 106 rfl rfl
theorem tw_1067 : (Jvm.Cond.selects "RoomNumbers$Trace" ({ cls := "RoomNumbers$Trace", name := "end", desc := "()V" } : Jvm.MethodName) ({ cls := "RoomNumbers$Trace", name := "end", desc := "()V" } : Jvm.MethodName)) ∈ tb_g := tb_c5 107 rfl rfl
theorem tw_1068 : (Jvm.Cond.code ({ cls := "RoomNumbers$Trace", name := "end", desc := "()V" } : Jvm.MethodName) prog_10_method_3_code (1 : Nat) (Option.none : Option Jvm.ClassFile.FieldType)) ∈ tb_g := tb_c5 108 rfl rfl
theorem tw_1069 : (Jvm.Cond.methodLink "RoomNumbers" (299 : Nat) ({ cls := "RoomNumbers$Note", name := "tells", desc := "(ILRoomNumbers$Trace;)I" } : Jvm.MethodName)) ∈ tb_g := tb_c5 109 rfl rfl
theorem tw_1070 : (Jvm.Cond.instanceMethod ({ cls := "RoomNumbers$Note", name := "tells", desc := "(ILRoomNumbers$Trace;)I" } : Jvm.MethodName)) ∈ tb_g := tb_c5 110 rfl rfl
theorem tw_1071 : (Jvm.Cond.selects "RoomNumbers$Note" ({ cls := "RoomNumbers$Note", name := "tells", desc := "(ILRoomNumbers$Trace;)I" } : Jvm.MethodName) ({ cls := "RoomNumbers$Note", name := "tells", desc := "(ILRoomNumbers$Trace;)I" } : Jvm.MethodName)) ∈ tb_g := tb_c5 111 rfl rfl
theorem tw_1072 : (Jvm.Cond.sameMethod "RoomNumbers$Note" "RoomNumbers$Note" "tells" "(ILRoomNumbers$Trace;)I") ∈ tb_g := tb_c5 112 rfl rfl
theorem tw_1073 : (Jvm.Cond.selects "RoomNumbers$Broken" ({ cls := "RoomNumbers$Note", name := "tells", desc := "(ILRoomNumbers$Trace;)I" } : Jvm.MethodName) ({ cls := "RoomNumbers$Broken", name := "tells", desc := "(ILRoomNumbers$Trace;)I" } : Jvm.MethodName)) ∈ tb_g := tb_c5 113 rfl rfl
theorem tw_1074 : (Jvm.Cond.instanceMethod ({ cls := "RoomNumbers$Broken", name := "tells", desc := "(ILRoomNumbers$Trace;)I" } : Jvm.MethodName)) ∈ tb_g := tb_c5 114 rfl rfl
theorem tw_1075 : (Jvm.Cond.code ({ cls := "RoomNumbers$Broken", name := "tells", desc := "(ILRoomNumbers$Trace;)I" } : Jvm.MethodName) prog_2_method_7_code (3 : Nat) (Option.some Jvm.ClassFile.FieldType.int)) ∈ tb_g := tb_c5 115 rfl rfl
theorem tw_1076 : (Jvm.Cond.methodLink "RoomNumbers$Broken" (47 : Nat) ({ cls := "RoomNumbers$Note", name := "tells", desc := "(ILRoomNumbers$Trace;)I" } : Jvm.MethodName)) ∈ tb_g := tb_c5 116 rfl rfl
theorem tw_1077 : (Jvm.Cond.methodLink "RoomNumbers$Broken" (53 : Nat) ({ cls := "RoomNumbers$Broken", name := "shares", desc := "(ILRoomNumbers$Trace;)I" } : Jvm.MethodName)) ∈ tb_g := tb_c5 117 rfl rfl
theorem tw_1078 : (Jvm.Cond.sameMethod "RoomNumbers$Broken" "RoomNumbers$Note" "shares" "(ILRoomNumbers$Trace;)I") ∈ tb_g := tb_c5 118 rfl rfl
theorem tw_1079 : (Jvm.Cond.selects "RoomNumbers$Broken" ({ cls := "RoomNumbers$Broken", name := "shares", desc := "(ILRoomNumbers$Trace;)I" } : Jvm.MethodName) ({ cls := "RoomNumbers$Note", name := "shares", desc := "(ILRoomNumbers$Trace;)I" } : Jvm.MethodName)) ∈ tb_g := tb_c5 119 rfl rfl
theorem tw_1080 : (Jvm.Cond.selects "RoomNumbers$Left" ({ cls := "RoomNumbers$Broken", name := "shares", desc := "(ILRoomNumbers$Trace;)I" } : Jvm.MethodName) ({ cls := "RoomNumbers$Note", name := "shares", desc := "(ILRoomNumbers$Trace;)I" } : Jvm.MethodName)) ∈ tb_g := tb_c5 120 rfl rfl
theorem tw_1081 : (Jvm.Cond.selects "RoomNumbers$Debt" ({ cls := "RoomNumbers$Note", name := "tells", desc := "(ILRoomNumbers$Trace;)I" } : Jvm.MethodName) ({ cls := "RoomNumbers$Note", name := "tells", desc := "(ILRoomNumbers$Trace;)I" } : Jvm.MethodName)) ∈ tb_g := tb_c5 121 rfl rfl
theorem tw_1082 : (Jvm.Cond.selects "RoomNumbers$Left" ({ cls := "RoomNumbers$Note", name := "tells", desc := "(ILRoomNumbers$Trace;)I" } : Jvm.MethodName) ({ cls := "RoomNumbers$Broken", name := "tells", desc := "(ILRoomNumbers$Trace;)I" } : Jvm.MethodName)) ∈ tb_g := tb_c5 122 rfl rfl
theorem tw_1083 : (Jvm.Cond.selects "RoomNumbers$Strokes" ({ cls := "RoomNumbers$Note", name := "tells", desc := "(ILRoomNumbers$Trace;)I" } : Jvm.MethodName) ({ cls := "RoomNumbers$Note", name := "tells", desc := "(ILRoomNumbers$Trace;)I" } : Jvm.MethodName)) ∈ tb_g := tb_c5 123 rfl rfl
theorem tw_1084 : (Jvm.Cond.selects "RoomNumbers$Turned" ({ cls := "RoomNumbers$Note", name := "tells", desc := "(ILRoomNumbers$Trace;)I" } : Jvm.MethodName) ({ cls := "RoomNumbers$Turned", name := "tells", desc := "(ILRoomNumbers$Trace;)I" } : Jvm.MethodName)) ∈ tb_g := tb_c5 124 rfl rfl
theorem tw_1085 : (Jvm.Cond.instanceMethod ({ cls := "RoomNumbers$Turned", name := "tells", desc := "(ILRoomNumbers$Trace;)I" } : Jvm.MethodName)) ∈ tb_g := tb_c5 125 rfl rfl
theorem tw_1086 : (Jvm.Cond.code ({ cls := "RoomNumbers$Turned", name := "tells", desc := "(ILRoomNumbers$Trace;)I" } : Jvm.MethodName) prog_11_method_4_code (3 : Nat) (Option.some Jvm.ClassFile.FieldType.int)) ∈ tb_g := tb_c5 126 rfl rfl
theorem tw_1087 : (Jvm.Cond.methodLink "RoomNumbers$Turned" (22 : Nat) ({ cls := "RoomNumbers$Note", name := "tells", desc := "(ILRoomNumbers$Trace;)I" } : Jvm.MethodName)) ∈ tb_g := tb_c5 127 rfl rfl
theorem tw_1088 : (Jvm.Cond.code ({ cls := "RoomNumbers$Note", name := "tells", desc := "(ILRoomNumbers$Trace;)I" } : Jvm.MethodName) prog_6_method_14_code (3 : Nat) (Option.some Jvm.ClassFile.FieldType.int)) ∈ tb_g := tb_c5 128 rfl rfl
theorem tw_1089 : (Jvm.Cond.methodLink "RoomNumbers$Note" (65 : Nat) ({ cls := "RoomNumbers$Note", name := "writes", desc := "(ILRoomNumbers$Trace;)I" } : Jvm.MethodName)) ∈ tb_g := tb_c5 129 rfl rfl
theorem tw_1090 : (Jvm.Cond.methodLink "RoomNumbers" (302 : Nat) ({ cls := "RoomNumbers$Trace", name := "ended", desc := "()Z" } : Jvm.MethodName)) ∈ tb_g := tb_c5 130 rfl rfl
theorem tw_1091 : (Jvm.Cond.instanceMethod ({ cls := "RoomNumbers$Trace", name := "ended", desc := "()Z" } : Jvm.MethodName)) ∈ tb_g := tb_c5 131 rfl rfl
theorem tw_1092 : (Jvm.Cond.selects "RoomNumbers$Trace" ({ cls := "RoomNumbers$Trace", name := "ended", desc := "()Z" } : Jvm.MethodName) ({ cls := "RoomNumbers$Trace", name := "ended", desc := "()Z" } : Jvm.MethodName)) ∈ tb_g := tb_c5 132 rfl rfl
theorem tw_1093 : (Jvm.Cond.code ({ cls := "RoomNumbers$Trace", name := "ended", desc := "()Z" } : Jvm.MethodName) prog_10_method_4_code (1 : Nat) (Option.some Jvm.ClassFile.FieldType.boolean)) ∈ tb_g := tb_c5 133 rfl rfl
theorem tw_1094 : (Jvm.Cond.methodLink "RoomNumbersLaw" (181 : Nat) ({ cls := "RoomNumbers", name := "trace", desc := "(I)I" } : Jvm.MethodName)) ∈ tb_g := tb_c5 134 rfl rfl
theorem tw_1095 : (Jvm.Cond.instanceMethod ({ cls := "RoomNumbers", name := "trace", desc := "(I)I" } : Jvm.MethodName)) ∈ tb_g := tb_c5 135 rfl rfl
theorem tw_1096 : (Jvm.Cond.selects "RoomNumbers" ({ cls := "RoomNumbers", name := "trace", desc := "(I)I" } : Jvm.MethodName) ({ cls := "RoomNumbers", name := "trace", desc := "(I)I" } : Jvm.MethodName)) ∈ tb_g := tb_c5 136 rfl rfl
theorem tw_1097 : (Jvm.Cond.code ({ cls := "RoomNumbers", name := "trace", desc := "(I)I" } : Jvm.MethodName) prog_1_method_41_code (2 : Nat) (Option.some Jvm.ClassFile.FieldType.int)) ∈ tb_g := tb_c5 137 rfl rfl
theorem tw_1098 : (Jvm.Cond.methodLink "RoomNumbers" (305 : Nat) ({ cls := "RoomNumbers$Trace", name := "howMany", desc := "()I" } : Jvm.MethodName)) ∈ tb_g := tb_c5 138 rfl rfl
theorem tw_1099 : (Jvm.Cond.instanceMethod ({ cls := "RoomNumbers$Trace", name := "howMany", desc := "()I" } : Jvm.MethodName)) ∈ tb_g := tb_c5 139 rfl rfl
theorem tw_1100 : (Jvm.Cond.selects "RoomNumbers$Trace" ({ cls := "RoomNumbers$Trace", name := "howMany", desc := "()I" } : Jvm.MethodName) ({ cls := "RoomNumbers$Trace", name := "howMany", desc := "()I" } : Jvm.MethodName)) ∈ tb_g := tb_c5 140 rfl rfl
theorem tw_1101 : (Jvm.Cond.code ({ cls := "RoomNumbers$Trace", name := "howMany", desc := "()I" } : Jvm.MethodName) prog_10_method_5_code (1 : Nat) (Option.some Jvm.ClassFile.FieldType.int)) ∈ tb_g := tb_c5 141 rfl rfl
theorem tw_1102 : (Jvm.Cond.methodLink "RoomNumbers$Trace" (20 : Nat) ({ cls := "RoomNumbers$Trace", name := "ended", desc := "()Z" } : Jvm.MethodName)) ∈ tb_g := tb_c5 142 rfl rfl
theorem tw_1103 : (Jvm.Cond.methodLink "RoomNumbers$Trace" (24 : Nat) ({ cls := "java/lang/Math", name := "min", desc := "(II)I" } : Jvm.MethodName)) ∈ tb_g := tb_c5 143 rfl rfl
theorem tw_1104 : (Jvm.Cond.methodLink "RoomNumbersLaw" (185 : Nat) ({ cls := "RoomNumbers", name := "many", desc := "(I)I" } : Jvm.MethodName)) ∈ tb_g := tb_c5 144 rfl rfl
theorem tw_1105 : (Jvm.Cond.instanceMethod ({ cls := "RoomNumbers", name := "many", desc := "(I)I" } : Jvm.MethodName)) ∈ tb_g := tb_c5 145 rfl rfl
theorem tw_1106 : (Jvm.Cond.selects "RoomNumbers" ({ cls := "RoomNumbers", name := "many", desc := "(I)I" } : Jvm.MethodName) ({ cls := "RoomNumbers", name := "many", desc := "(I)I" } : Jvm.MethodName)) ∈ tb_g := tb_c5 146 rfl rfl
theorem tw_1107 : (Jvm.Cond.code ({ cls := "RoomNumbers", name := "many", desc := "(I)I" } : Jvm.MethodName) prog_1_method_42_code (2 : Nat) (Option.some Jvm.ClassFile.FieldType.int)) ∈ tb_g := tb_c5 147 rfl rfl
theorem tw_1108 : (Jvm.Cond.methodLink "RoomNumbersLaw" (189 : Nat) ({ cls := "RoomNumbers", name := "keep", desc := "()I" } : Jvm.MethodName)) ∈ tb_g := tb_c5 148 rfl rfl
theorem tw_1109 : (Jvm.Cond.instanceMethod ({ cls := "RoomNumbers", name := "keep", desc := "()I" } : Jvm.MethodName)) ∈ tb_g := tb_c5 149 rfl rfl
theorem tw_1110 : (Jvm.Cond.selects "RoomNumbers" ({ cls := "RoomNumbers", name := "keep", desc := "()I" } : Jvm.MethodName) ({ cls := "RoomNumbers", name := "keep", desc := "()I" } : Jvm.MethodName)) ∈ tb_g := tb_c5 150 rfl rfl
theorem tw_1111 : (Jvm.Cond.code ({ cls := "RoomNumbers", name := "keep", desc := "()I" } : Jvm.MethodName) prog_1_method_43_code (1 : Nat) (Option.some Jvm.ClassFile.FieldType.int)) ∈ tb_g := tb_c5 151 rfl rfl
theorem tw_1112 : (Jvm.Cond.methodLink "RoomNumbersLaw" (193 : Nat) ({ cls := "RoomNumbers", name := "again", desc := "()I" } : Jvm.MethodName)) ∈ tb_g := tb_c5 152 rfl rfl
theorem tw_1113 : (Jvm.Cond.instanceMethod ({ cls := "RoomNumbers", name := "again", desc := "()I" } : Jvm.MethodName)) ∈ tb_g := tb_c5 153 rfl rfl
theorem tw_1114 : (Jvm.Cond.selects "RoomNumbers" ({ cls := "RoomNumbers", name := "again", desc := "()I" } : Jvm.MethodName) ({ cls := "RoomNumbers", name := "again", desc := "()I" } : Jvm.MethodName)) ∈ tb_g := tb_c5 154 rfl rfl
theorem tw_1115 : (Jvm.Cond.code ({ cls := "RoomNumbers", name := "again", desc := "()I" } : Jvm.MethodName) prog_1_method_44_code (1 : Nat) (Option.some Jvm.ClassFile.FieldType.int)) ∈ tb_g := tb_c5 155 rfl rfl
theorem tw_1116 : (Jvm.Cond.classLink "RoomNumbersLaw" (10 : Nat) "RoomNumbersModel") ∈ tb_g := tb_c5 156 rfl rfl
theorem tw_1117 : (Jvm.Cond.instantiable "RoomNumbersModel" (25 : Nat)) ∈ tb_g := tb_c5 157 rfl rfl
theorem tw_1118 : (Jvm.Cond.methodLink "RoomNumbersLaw" (12 : Nat) ({ cls := "RoomNumbersModel", name := "<init>", desc := "()V" } : Jvm.MethodName)) ∈ tb_g := tb_c5 158 rfl rfl
theorem tw_1119 : (Jvm.Cond.instanceMethod ({ cls := "RoomNumbersModel", name := "<init>", desc := "()V" } : Jvm.MethodName)) ∈ tb_g := tb_c5 159 rfl rfl
theorem tw_1120 : (Jvm.Cond.code ({ cls := "RoomNumbersModel", name := "<init>", desc := "()V" } : Jvm.MethodName) prog_14_method_1_code (1 : Nat) (Option.none : Option Jvm.ClassFile.FieldType)) ∈ tb_g := tb_c5 160 rfl rfl
theorem tw_1121 : (Jvm.Cond.methodLink "RoomNumbersModel" (1 : Nat) ({ cls := "java/lang/Object", name := "<init>", desc := "()V" } : Jvm.MethodName)) ∈ tb_g := tb_c5 161 rfl rfl
theorem tw_1122 : (Jvm.Cond.methodLink "RoomNumbersModel" (53 : Nat) ({ cls := "RoomNumbersModel", name := "clears", desc := "()V" } : Jvm.MethodName)) ∈ tb_g := tb_c5 162 rfl rfl
theorem tw_1124 : (Jvm.Cond.instanceMethod ({ cls := "RoomNumbersModel", name := "clears", desc := "()V" } : Jvm.MethodName)) ∈ tb_g := tb_c5 164 rfl rfl
theorem tw_1125 : (Jvm.Cond.code ({ cls := "RoomNumbersModel", name := "clears", desc := "()V" } : Jvm.MethodName) prog_14_method_3_code (2 : Nat) (Option.none : Option Jvm.ClassFile.FieldType)) ∈ tb_g := tb_c5 165 rfl rfl
theorem tw_1126 : (Jvm.Cond.fieldLink "RoomNumbersModel" (7 : Nat) "RoomNumbersModel" "s" "[I") ∈ tb_g := tb_c5 166 rfl rfl
theorem tw_1127 : (Jvm.Cond.fieldLink "RoomNumbersModel" (13 : Nat) "RoomNumbersModel" "kept" "[I") ∈ tb_g := tb_c5 167 rfl rfl
theorem tw_1128 : (Jvm.Cond.fieldLink "RoomNumbersModel" (16 : Nat) "RoomNumbersModel" "put" "[I") ∈ tb_g := tb_c5 168 rfl rfl
theorem tw_1129 : (Jvm.Cond.fieldLink "RoomNumbersModel" (301 : Nat) "RoomNumbersModel" "isKept" "Z") ∈ tb_g := tb_c5 169 rfl rfl
theorem tw_1130 : (Jvm.Cond.fieldLink "RoomNumbersModel" (19 : Nat) "RoomNumbersModel" "tape" "[I") ∈ tb_g := tb_c5 170 rfl rfl
theorem tw_1131 : (Jvm.Cond.fieldLink "RoomNumbersModel" (60 : Nat) "RoomNumbersModel" "taped" "I") ∈ tb_g := tb_c5 171 rfl rfl
theorem tw_1132 : (Jvm.Cond.fieldLink "RoomNumbersModel" (66 : Nat) "RoomNumbersModel" "at" "I") ∈ tb_g := tb_c5 172 rfl rfl
theorem tw_1133 : (Jvm.Cond.fieldLink "RoomNumbersModel" (73 : Nat) "RoomNumbersModel" "begins" "I") ∈ tb_g := tb_c5 173 rfl rfl
theorem tw_1134 : (Jvm.Cond.fieldLink "RoomNumbersModel" (76 : Nat) "RoomNumbersModel" "token" "I") ∈ tb_g := tb_c5 174 rfl rfl
theorem tw_1135 : (Jvm.Cond.fieldLink "RoomNumbersModel" (79 : Nat) "RoomNumbersModel" "value" "I") ∈ tb_g := tb_c5 175 rfl rfl
theorem tw_1136 : (Jvm.Cond.fieldLink "RoomNumbersModel" (95 : Nat) "RoomNumbersModel" "taken" "I") ∈ tb_g := tb_c5 176 rfl rfl
theorem tw_1137 : (Jvm.Cond.fieldLink "RoomNumbersModel" (22 : Nat) "RoomNumbersModel" "base" "[I") ∈ tb_g := tb_c5 177 rfl rfl
theorem tw_1138 : (Jvm.Cond.fieldLink "RoomNumbersModel" (25 : Nat) "RoomNumbersModel" "mays" "[I") ∈ tb_g := tb_c5 178 rfl rfl
theorem tw_1139 : (Jvm.Cond.fieldLink "RoomNumbersModel" (28 : Nat) "RoomNumbersModel" "met" "[I") ∈ tb_g := tb_c5 179 rfl rfl
theorem tw_1140 : (Jvm.Cond.fieldLink "RoomNumbersModel" (31 : Nat) "RoomNumbersModel" "row" "[J") ∈ tb_g := tb_c5 180 rfl rfl
theorem tw_1141 : (Jvm.Cond.fieldLink "RoomNumbersModel" (153 : Nat) "RoomNumbersModel" "rows" "I") ∈ tb_g := tb_c5 181 rfl rfl
theorem tw_1142 : (Jvm.Cond.fieldLink "RoomNumbersModel" (35 : Nat) "RoomNumbersModel" "sorts" "[I") ∈ tb_g := tb_c5 182 rfl rfl
theorem tw_1143 : (Jvm.Cond.fieldLink "RoomNumbersModel" (38 : Nat) "RoomNumbersModel" "sizes" "[I") ∈ tb_g := tb_c5 183 rfl rfl
theorem tw_1144 : (Jvm.Cond.fieldLink "RoomNumbersModel" (41 : Nat) "RoomNumbersModel" "item" "[J") ∈ tb_g := tb_c5 184 rfl rfl
theorem tw_1145 : (Jvm.Cond.fieldLink "RoomNumbersModel" (44 : Nat) "RoomNumbersModel" "holds" "[I") ∈ tb_g := tb_c5 185 rfl rfl
theorem tw_1146 : (Jvm.Cond.fieldLink "RoomNumbersModel" (47 : Nat) "RoomNumbersModel" "held" "[I") ∈ tb_g := tb_c5 186 rfl rfl
theorem tw_1147 : (Jvm.Cond.fieldLink "RoomNumbersModel" (50 : Nat) "RoomNumbersModel" "trace" "[I") ∈ tb_g := tb_c5 187 rfl rfl
theorem tw_1148 : (Jvm.Cond.fieldLink "RoomNumbersModel" (269 : Nat) "RoomNumbersModel" "traced" "I") ∈ tb_g := tb_c5 188 rfl rfl
theorem tw_1149 : (Jvm.Cond.fieldLink "RoomNumbersModel" (272 : Nat) "RoomNumbersModel" "speaks" "I") ∈ tb_g := tb_c5 189 rfl rfl
theorem tw_1150 : (Jvm.Cond.fieldLink "RoomNumbersModel" (291 : Nat) "RoomNumbersModel" "isParted" "Z") ∈ tb_g := tb_c5 190 rfl rfl
theorem tw_1151 : (Jvm.Cond.laysFinal "RoomNumbersModel" "RoomNumbersModel" "s" "[I") ∈ tb_g := tb_c5 191 rfl rfl
theorem tw_1153 : (Jvm.Cond.laysFinal "RoomNumbersModel" "RoomNumbersModel" "kept" "[I") ∈ tb_g := tb_c5 193 rfl rfl
theorem tw_1155 : (Jvm.Cond.laysFinal "RoomNumbersModel" "RoomNumbersModel" "put" "[I") ∈ tb_g := tb_c5 195 rfl rfl
theorem tw_1157 : (Jvm.Cond.lays "RoomNumbersModel" "RoomNumbersModel" "isKept" "Z") ∈ tb_g := tb_c5 197 rfl rfl
theorem tw_1159 : (Jvm.Cond.laysFinal "RoomNumbersModel" "RoomNumbersModel" "tape" "[I") ∈ tb_g := tb_c5 199 rfl rfl
theorem tw_1161 : (Jvm.Cond.lays "RoomNumbersModel" "RoomNumbersModel" "taped" "I") ∈ tb_g := tb_c5 201 rfl rfl
theorem tw_1163 : (Jvm.Cond.lays "RoomNumbersModel" "RoomNumbersModel" "at" "I") ∈ tb_g := tb_c5 203 rfl rfl
theorem tw_1165 : (Jvm.Cond.lays "RoomNumbersModel" "RoomNumbersModel" "begins" "I") ∈ tb_g := tb_c5 205 rfl rfl
theorem tw_1167 : (Jvm.Cond.lays "RoomNumbersModel" "RoomNumbersModel" "token" "I") ∈ tb_g := tb_c5 207 rfl rfl
theorem tw_1169 : (Jvm.Cond.lays "RoomNumbersModel" "RoomNumbersModel" "value" "I") ∈ tb_g := tb_c5 209 rfl rfl
theorem tw_1171 : (Jvm.Cond.lays "RoomNumbersModel" "RoomNumbersModel" "taken" "I") ∈ tb_g := tb_c5 211 rfl rfl
theorem tw_1173 : (Jvm.Cond.laysFinal "RoomNumbersModel" "RoomNumbersModel" "base" "[I") ∈ tb_g := tb_c5 213 rfl rfl
theorem tw_1175 : (Jvm.Cond.laysFinal "RoomNumbersModel" "RoomNumbersModel" "mays" "[I") ∈ tb_g := tb_c5 215 rfl rfl
theorem tw_1177 : (Jvm.Cond.laysFinal "RoomNumbersModel" "RoomNumbersModel" "met" "[I") ∈ tb_g := tb_c5 217 rfl rfl
theorem tw_1179 : (Jvm.Cond.laysFinal "RoomNumbersModel" "RoomNumbersModel" "row" "[J") ∈ tb_g := tb_c5 219 rfl rfl
theorem tw_1181 : (Jvm.Cond.lays "RoomNumbersModel" "RoomNumbersModel" "rows" "I") ∈ tb_g := tb_c5 221 rfl rfl
theorem tw_1183 : (Jvm.Cond.laysFinal "RoomNumbersModel" "RoomNumbersModel" "sorts" "[I") ∈ tb_g := tb_c5 223 rfl rfl
theorem tw_1185 : (Jvm.Cond.laysFinal "RoomNumbersModel" "RoomNumbersModel" "sizes" "[I") ∈ tb_g := tb_c5 225 rfl rfl
theorem tw_1187 : (Jvm.Cond.laysFinal "RoomNumbersModel" "RoomNumbersModel" "item" "[J") ∈ tb_g := tb_c5 227 rfl rfl
theorem tw_1189 : (Jvm.Cond.laysFinal "RoomNumbersModel" "RoomNumbersModel" "holds" "[I") ∈ tb_g := tb_c5 229 rfl rfl
theorem tw_1191 : (Jvm.Cond.laysFinal "RoomNumbersModel" "RoomNumbersModel" "held" "[I") ∈ tb_g := tb_c5 231 rfl rfl
theorem tw_1193 : (Jvm.Cond.laysFinal "RoomNumbersModel" "RoomNumbersModel" "trace" "[I") ∈ tb_g := tb_c5 233 rfl rfl
theorem tw_1195 : (Jvm.Cond.lays "RoomNumbersModel" "RoomNumbersModel" "traced" "I") ∈ tb_g := tb_c5 235 rfl rfl
theorem tw_1197 : (Jvm.Cond.lays "RoomNumbersModel" "RoomNumbersModel" "speaks" "I") ∈ tb_g := tb_c5 237 rfl rfl
theorem tw_1199 : (Jvm.Cond.lays "RoomNumbersModel" "RoomNumbersModel" "isParted" "Z") ∈ tb_g := tb_c5 239 rfl rfl
theorem tw_1201 : (Jvm.Cond.superclass "RoomNumbersModel" "java/lang/Object") ∈ tb_g := tb_c6 1 rfl rfl
theorem tw_1202 : (Jvm.Cond.methodLink "RoomNumbersLaw" (19 : Nat) ({ cls := "RoomNumbersModel", name := "feed", desc := "(JI)I" } : Jvm.MethodName)) ∈ tb_g := tb_c6 2 rfl rfl
theorem tw_1203 : (Jvm.Cond.instanceMethod ({ cls := "RoomNumbersModel", name := "feed", desc := "(JI)I" } : Jvm.MethodName)) ∈ tb_g := tb_c6 3 rfl rfl
theorem tw_1204 : (Jvm.Cond.selects "RoomNumbersModel" ({ cls := "RoomNumbersModel", name := "feed", desc := "(JI)I" } : Jvm.MethodName) ({ cls := "RoomNumbersModel", name := "feed", desc := "(JI)I" } : Jvm.MethodName)) ∈ tb_g := tb_c6 4 rfl rfl
theorem tw_1205 : (Jvm.Cond.code ({ cls := "RoomNumbersModel", name := "feed", desc := "(JI)I" } : Jvm.MethodName) prog_14_method_10_code (5 : Nat) (Option.some Jvm.ClassFile.FieldType.int)) ∈ tb_g := tb_c6 5 rfl rfl
theorem tw_1206 : (Jvm.Cond.methodLink "RoomNumbersModel" (56 : Nat) ({ cls := "RoomNumbersModel", name := "in", desc := "(III)Z" } : Jvm.MethodName)) ∈ tb_g := tb_c6 6 rfl rfl
theorem tw_1207 : (Jvm.Cond.static ({ cls := "RoomNumbersModel", name := "in", desc := "(III)Z" } : Jvm.MethodName)) ∈ tb_g := tb_c6 7 rfl rfl
theorem tw_1208 : (Jvm.Cond.code ({ cls := "RoomNumbersModel", name := "in", desc := "(III)Z" } : Jvm.MethodName) prog_14_method_4_code (3 : Nat) (Option.some Jvm.ClassFile.FieldType.boolean)) ∈ tb_g := tb_c6 8 rfl rfl
theorem tw_1209 : (Jvm.Cond.constantLong "RoomNumbersModel" (64 : Nat) (255 : Int64)) ∈ tb_g := tb_c6 9 rfl rfl
theorem tw_1210 : (Jvm.Cond.methodLink "RoomNumbersLaw" (24 : Nat) ({ cls := "RoomNumbersModel", name := "valley", desc := "()I" } : Jvm.MethodName)) ∈ tb_g := tb_c6 10 rfl rfl
theorem tw_1211 : (Jvm.Cond.instanceMethod ({ cls := "RoomNumbersModel", name := "valley", desc := "()I" } : Jvm.MethodName)) ∈ tb_g := tb_c6 11 rfl rfl
theorem tw_1212 : (Jvm.Cond.selects "RoomNumbersModel" ({ cls := "RoomNumbersModel", name := "valley", desc := "()I" } : Jvm.MethodName) ({ cls := "RoomNumbersModel", name := "valley", desc := "()I" } : Jvm.MethodName)) ∈ tb_g := tb_c6 12 rfl rfl
theorem tw_1213 : (Jvm.Cond.code ({ cls := "RoomNumbersModel", name := "valley", desc := "()I" } : Jvm.MethodName) prog_14_method_21_code (2 : Nat) (Option.some Jvm.ClassFile.FieldType.int)) ∈ tb_g := tb_c6 13 rfl rfl
theorem tw_1214 : (Jvm.Cond.methodLink "RoomNumbersModel" (146 : Nat) ({ cls := "RoomNumbersModel", name := "carry", desc := "([I[I)V" } : Jvm.MethodName)) ∈ tb_g := tb_c6 14 rfl rfl
theorem tw_1215 : (Jvm.Cond.static ({ cls := "RoomNumbersModel", name := "carry", desc := "([I[I)V" } : Jvm.MethodName)) ∈ tb_g := tb_c6 15 rfl rfl
theorem tw_1216 : (Jvm.Cond.code ({ cls := "RoomNumbersModel", name := "carry", desc := "([I[I)V" } : Jvm.MethodName) prog_14_method_2_code (3 : Nat) (Option.none : Option Jvm.ClassFile.FieldType)) ∈ tb_g := tb_c6 16 rfl rfl
theorem tw_1217 : (Jvm.Cond.methodLink "RoomNumbersModel" (150 : Nat) ({ cls := "RoomNumbersModel", name := "takesAll", desc := "()Z" } : Jvm.MethodName)) ∈ tb_g := tb_c6 17 rfl rfl
theorem tw_1219 : (Jvm.Cond.instanceMethod ({ cls := "RoomNumbersModel", name := "takesAll", desc := "()Z" } : Jvm.MethodName)) ∈ tb_g := tb_c6 19 rfl rfl
theorem tw_1220 : (Jvm.Cond.code ({ cls := "RoomNumbersModel", name := "takesAll", desc := "()Z" } : Jvm.MethodName) prog_14_method_20_code (4 : Nat) (Option.some Jvm.ClassFile.FieldType.boolean)) ∈ tb_g := tb_c6 20 rfl rfl
theorem tw_1221 : (Jvm.Cond.methodLink "RoomNumbersModel" (92 : Nat) ({ cls := "RoomNumbersModel", name := "next", desc := "()V" } : Jvm.MethodName)) ∈ tb_g := tb_c6 21 rfl rfl
theorem tw_1223 : (Jvm.Cond.instanceMethod ({ cls := "RoomNumbersModel", name := "next", desc := "()V" } : Jvm.MethodName)) ∈ tb_g := tb_c6 23 rfl rfl
theorem tw_1224 : (Jvm.Cond.code ({ cls := "RoomNumbersModel", name := "next", desc := "()V" } : Jvm.MethodName) prog_14_method_12_code (2 : Nat) (Option.none : Option Jvm.ClassFile.FieldType)) ∈ tb_g := tb_c6 24 rfl rfl
theorem tw_1225 : (Jvm.Cond.methodLink "RoomNumbersModel" (69 : Nat) ({ cls := "RoomNumbersModel", name := "byteAt", desc := "(I)I" } : Jvm.MethodName)) ∈ tb_g := tb_c6 25 rfl rfl
theorem tw_1227 : (Jvm.Cond.instanceMethod ({ cls := "RoomNumbersModel", name := "byteAt", desc := "(I)I" } : Jvm.MethodName)) ∈ tb_g := tb_c6 27 rfl rfl
theorem tw_1228 : (Jvm.Cond.code ({ cls := "RoomNumbersModel", name := "byteAt", desc := "(I)I" } : Jvm.MethodName) prog_14_method_11_code (2 : Nat) (Option.some Jvm.ClassFile.FieldType.int)) ∈ tb_g := tb_c6 28 rfl rfl
theorem tw_1229 : (Jvm.Cond.methodLink "RoomNumbersModel" (123 : Nat) ({ cls := "RoomNumbersModel", name := "kindNamed", desc := "()I" } : Jvm.MethodName)) ∈ tb_g := tb_c6 29 rfl rfl
theorem tw_1231 : (Jvm.Cond.instanceMethod ({ cls := "RoomNumbersModel", name := "kindNamed", desc := "()I" } : Jvm.MethodName)) ∈ tb_g := tb_c6 31 rfl rfl
theorem tw_1232 : (Jvm.Cond.code ({ cls := "RoomNumbersModel", name := "kindNamed", desc := "()I" } : Jvm.MethodName) prog_14_method_16_code (1 : Nat) (Option.some Jvm.ClassFile.FieldType.int)) ∈ tb_g := tb_c6 32 rfl rfl
theorem tw_1233 : (Jvm.Cond.stringRef "RoomNumbersModel" (98 : Nat) "note") ∈ lw_tbl := tb_l6 (List.mem_of_getElem? (i := 33) rfl)
theorem tw_1234 : (Jvm.Cond.methodLink "RoomNumbersModel" (100 : Nat) ({ cls := "RoomNumbersModel", name := "isName", desc := "(Ljava/lang/String;)Z" } : Jvm.MethodName)) ∈ tb_g := tb_c6 34 rfl rfl
theorem tw_1236 : (Jvm.Cond.instanceMethod ({ cls := "RoomNumbersModel", name := "isName", desc := "(Ljava/lang/String;)Z" } : Jvm.MethodName)) ∈ tb_g := tb_c6 36 rfl rfl
theorem tw_1237 : (Jvm.Cond.code ({ cls := "RoomNumbersModel", name := "isName", desc := "(Ljava/lang/String;)Z" } : Jvm.MethodName) prog_14_method_13_code (4 : Nat) (Option.some Jvm.ClassFile.FieldType.boolean)) ∈ tb_g := tb_c6 37 rfl rfl
theorem tw_1238 : (Jvm.Cond.methodLink "RoomNumbersModel" (82 : Nat) ({ cls := "java/lang/String", name := "length", desc := "()I" } : Jvm.MethodName)) ∈ tb_g := tb_c6 38 rfl rfl
theorem tw_1239 : (Jvm.Cond.methodLink "RoomNumbersModel" (88 : Nat) ({ cls := "java/lang/String", name := "charAt", desc := "(I)C" } : Jvm.MethodName)) ∈ tb_g := tb_c6 39 rfl rfl
theorem tw_1240 : (Jvm.Cond.stringRef "RoomNumbersModel" (104 : Nat) "strokes") ∈ lw_tbl := tb_l6 (List.mem_of_getElem? (i := 40) rfl)
theorem tw_1241 : (Jvm.Cond.stringRef "RoomNumbersModel" (106 : Nat) "broken") ∈ lw_tbl := tb_l6 (List.mem_of_getElem? (i := 41) rfl)
theorem tw_1242 : (Jvm.Cond.stringRef "RoomNumbersModel" (108 : Nat) "left") ∈ lw_tbl := tb_l6 (List.mem_of_getElem? (i := 42) rfl)
theorem tw_1243 : (Jvm.Cond.stringRef "RoomNumbersModel" (110 : Nat) "turned") ∈ lw_tbl := tb_l6 (List.mem_of_getElem? (i := 43) rfl)
theorem tw_1244 : (Jvm.Cond.stringRef "RoomNumbersModel" (112 : Nat) "debt") ∈ lw_tbl := tb_l6 (List.mem_of_getElem? (i := 44) rfl)
theorem tw_1245 : (Jvm.Cond.stringRef "RoomNumbersModel" (126 : Nat) "same") ∈ lw_tbl := tb_l6 (List.mem_of_getElem? (i := 45) rfl)
theorem tw_1246 : (Jvm.Cond.stringRef "RoomNumbersModel" (128 : Nat) "more") ∈ lw_tbl := tb_l6 (List.mem_of_getElem? (i := 46) rfl)
theorem tw_1247 : (Jvm.Cond.stringRef "RoomNumbersModel" (130 : Nat) "sum") ∈ lw_tbl := tb_l6 (List.mem_of_getElem? (i := 47) rfl)
theorem tw_1248 : (Jvm.Cond.stringRef "RoomNumbersModel" (132 : Nat) "whole") ∈ lw_tbl := tb_l6 (List.mem_of_getElem? (i := 48) rfl)
theorem tw_1249 : (Jvm.Cond.methodLink "RoomNumbersModel" (134 : Nat) ({ cls := "RoomNumbersModel", name := "takesNote", desc := "(I)Z" } : Jvm.MethodName)) ∈ tb_g := tb_c6 49 rfl rfl
theorem tw_1251 : (Jvm.Cond.instanceMethod ({ cls := "RoomNumbersModel", name := "takesNote", desc := "(I)Z" } : Jvm.MethodName)) ∈ tb_g := tb_c6 51 rfl rfl
theorem tw_1252 : (Jvm.Cond.code ({ cls := "RoomNumbersModel", name := "takesNote", desc := "(I)Z" } : Jvm.MethodName) prog_14_method_17_code (5 : Nat) (Option.some Jvm.ClassFile.FieldType.boolean)) ∈ tb_g := tb_c6 52 rfl rfl
theorem tw_1253 : (Jvm.Cond.methodLink "RoomNumbersModel" (114 : Nat) ({ cls := "RoomNumbersModel", name := "takesNumber", desc := "(II)Z" } : Jvm.MethodName)) ∈ tb_g := tb_c6 53 rfl rfl
theorem tw_1255 : (Jvm.Cond.instanceMethod ({ cls := "RoomNumbersModel", name := "takesNumber", desc := "(II)Z" } : Jvm.MethodName)) ∈ tb_g := tb_c6 55 rfl rfl
theorem tw_1256 : (Jvm.Cond.code ({ cls := "RoomNumbersModel", name := "takesNumber", desc := "(II)Z" } : Jvm.MethodName) prog_14_method_15_code (3 : Nat) (Option.some Jvm.ClassFile.FieldType.boolean)) ∈ tb_g := tb_c6 56 rfl rfl
theorem tw_1257 : (Jvm.Cond.stringRef "RoomNumbersModel" (118 : Nat) "at") ∈ lw_tbl := tb_l6 (List.mem_of_getElem? (i := 57) rfl)
theorem tw_1258 : (Jvm.Cond.methodLink "RoomNumbersModel" (119 : Nat) ({ cls := "RoomNumbersModel", name := "takesByte", desc := "(I)Z" } : Jvm.MethodName)) ∈ tb_g := tb_c6 58 rfl rfl
theorem tw_1260 : (Jvm.Cond.instanceMethod ({ cls := "RoomNumbersModel", name := "takesByte", desc := "(I)Z" } : Jvm.MethodName)) ∈ tb_g := tb_c6 60 rfl rfl
theorem tw_1261 : (Jvm.Cond.code ({ cls := "RoomNumbersModel", name := "takesByte", desc := "(I)Z" } : Jvm.MethodName) prog_14_method_14_code (2 : Nat) (Option.some Jvm.ClassFile.FieldType.boolean)) ∈ tb_g := tb_c6 61 rfl rfl
theorem tw_1262 : (Jvm.Cond.methodLink "RoomNumbersModel" (137 : Nat) ({ cls := "RoomNumbersModel", name := "takesLine", desc := "(I)Z" } : Jvm.MethodName)) ∈ tb_g := tb_c6 62 rfl rfl
theorem tw_1264 : (Jvm.Cond.instanceMethod ({ cls := "RoomNumbersModel", name := "takesLine", desc := "(I)Z" } : Jvm.MethodName)) ∈ tb_g := tb_c6 64 rfl rfl
theorem tw_1265 : (Jvm.Cond.code ({ cls := "RoomNumbersModel", name := "takesLine", desc := "(I)Z" } : Jvm.MethodName) prog_14_method_19_code (4 : Nat) (Option.some Jvm.ClassFile.FieldType.boolean)) ∈ tb_g := tb_c6 65 rfl rfl
theorem tw_1266 : (Jvm.Cond.stringRef "RoomNumbersModel" (140 : Nat) "evening") ∈ lw_tbl := tb_l6 (List.mem_of_getElem? (i := 66) rfl)
theorem tw_1267 : (Jvm.Cond.methodLink "RoomNumbersModel" (142 : Nat) ({ cls := "RoomNumbersModel", name := "takesEvening", desc := "()Z" } : Jvm.MethodName)) ∈ tb_g := tb_c6 67 rfl rfl
theorem tw_1269 : (Jvm.Cond.instanceMethod ({ cls := "RoomNumbersModel", name := "takesEvening", desc := "()Z" } : Jvm.MethodName)) ∈ tb_g := tb_c6 69 rfl rfl
theorem tw_1270 : (Jvm.Cond.code ({ cls := "RoomNumbersModel", name := "takesEvening", desc := "()Z" } : Jvm.MethodName) prog_14_method_18_code (3 : Nat) (Option.some Jvm.ClassFile.FieldType.boolean)) ∈ tb_g := tb_c6 70 rfl rfl
theorem tw_1271 : (Jvm.Cond.methodLink "RoomNumbersLaw" (29 : Nat) ({ cls := "RoomNumbersModel", name := "evening", desc := "(III)I" } : Jvm.MethodName)) ∈ tb_g := tb_c6 71 rfl rfl
theorem tw_1272 : (Jvm.Cond.instanceMethod ({ cls := "RoomNumbersModel", name := "evening", desc := "(III)I" } : Jvm.MethodName)) ∈ tb_g := tb_c6 72 rfl rfl
theorem tw_1273 : (Jvm.Cond.selects "RoomNumbersModel" ({ cls := "RoomNumbersModel", name := "evening", desc := "(III)I" } : Jvm.MethodName) ({ cls := "RoomNumbersModel", name := "evening", desc := "(III)I" } : Jvm.MethodName)) ∈ tb_g := tb_c6 73 rfl rfl
theorem tw_1274 : (Jvm.Cond.code ({ cls := "RoomNumbersModel", name := "evening", desc := "(III)I" } : Jvm.MethodName) prog_14_method_22_code (4 : Nat) (Option.some Jvm.ClassFile.FieldType.int)) ∈ tb_g := tb_c6 74 rfl rfl
theorem tw_1275 : (Jvm.Cond.methodLink "RoomNumbersModel" (156 : Nat) ({ cls := "RoomNumbersModel", name := "isEvening", desc := "(I)Z" } : Jvm.MethodName)) ∈ tb_g := tb_c6 75 rfl rfl
theorem tw_1276 : (Jvm.Cond.static ({ cls := "RoomNumbersModel", name := "isEvening", desc := "(I)Z" } : Jvm.MethodName)) ∈ tb_g := tb_c6 76 rfl rfl
theorem tw_1277 : (Jvm.Cond.code ({ cls := "RoomNumbersModel", name := "isEvening", desc := "(I)Z" } : Jvm.MethodName) prog_14_method_6_code (1 : Nat) (Option.some Jvm.ClassFile.FieldType.boolean)) ∈ tb_g := tb_c6 77 rfl rfl
theorem tw_1278 : (Jvm.Cond.methodLink "RoomNumbersModel" (159 : Nat) ({ cls := "RoomNumbersModel", name := "isBase", desc := "(I)Z" } : Jvm.MethodName)) ∈ tb_g := tb_c6 78 rfl rfl
theorem tw_1279 : (Jvm.Cond.static ({ cls := "RoomNumbersModel", name := "isBase", desc := "(I)Z" } : Jvm.MethodName)) ∈ tb_g := tb_c6 79 rfl rfl
theorem tw_1280 : (Jvm.Cond.code ({ cls := "RoomNumbersModel", name := "isBase", desc := "(I)Z" } : Jvm.MethodName) prog_14_method_7_code (1 : Nat) (Option.some Jvm.ClassFile.FieldType.boolean)) ∈ tb_g := tb_c6 80 rfl rfl
theorem tw_1281 : (Jvm.Cond.methodLink "RoomNumbersLaw" (34 : Nat) ({ cls := "RoomNumbersModel", name := "eveningOf", desc := "(II)I" } : Jvm.MethodName)) ∈ tb_g := tb_c6 81 rfl rfl
theorem tw_1282 : (Jvm.Cond.instanceMethod ({ cls := "RoomNumbersModel", name := "eveningOf", desc := "(II)I" } : Jvm.MethodName)) ∈ tb_g := tb_c6 82 rfl rfl
theorem tw_1283 : (Jvm.Cond.selects "RoomNumbersModel" ({ cls := "RoomNumbersModel", name := "eveningOf", desc := "(II)I" } : Jvm.MethodName) ({ cls := "RoomNumbersModel", name := "eveningOf", desc := "(II)I" } : Jvm.MethodName)) ∈ tb_g := tb_c6 83 rfl rfl
theorem tw_1284 : (Jvm.Cond.code ({ cls := "RoomNumbersModel", name := "eveningOf", desc := "(II)I" } : Jvm.MethodName) prog_14_method_23_code (5 : Nat) (Option.some Jvm.ClassFile.FieldType.int)) ∈ tb_g := tb_c6 84 rfl rfl
theorem tw_1285 : (Jvm.Cond.methodLink "RoomNumbersModel" (162 : Nat) ({ cls := "RoomNumbersModel", name := "its", desc := "(II)I" } : Jvm.MethodName)) ∈ tb_g := tb_c6 85 rfl rfl
theorem tw_1287 : (Jvm.Cond.instanceMethod ({ cls := "RoomNumbersModel", name := "its", desc := "(II)I" } : Jvm.MethodName)) ∈ tb_g := tb_c6 87 rfl rfl
theorem tw_1288 : (Jvm.Cond.code ({ cls := "RoomNumbersModel", name := "its", desc := "(II)I" } : Jvm.MethodName) prog_14_method_8_code (3 : Nat) (Option.some Jvm.ClassFile.FieldType.int)) ∈ tb_g := tb_c6 88 rfl rfl
theorem tw_1289 : (Jvm.Cond.methodLink "RoomNumbersLaw" (39 : Nat) ({ cls := "RoomNumbersModel", name := "note", desc := "(IIIII)I" } : Jvm.MethodName)) ∈ tb_g := tb_c6 89 rfl rfl
theorem tw_1290 : (Jvm.Cond.instanceMethod ({ cls := "RoomNumbersModel", name := "note", desc := "(IIIII)I" } : Jvm.MethodName)) ∈ tb_g := tb_c6 90 rfl rfl
theorem tw_1291 : (Jvm.Cond.selects "RoomNumbersModel" ({ cls := "RoomNumbersModel", name := "note", desc := "(IIIII)I" } : Jvm.MethodName) ({ cls := "RoomNumbersModel", name := "note", desc := "(IIIII)I" } : Jvm.MethodName)) ∈ tb_g := tb_c6 91 rfl rfl
theorem tw_1292 : (Jvm.Cond.code ({ cls := "RoomNumbersModel", name := "note", desc := "(IIIII)I" } : Jvm.MethodName) prog_14_method_24_code (8 : Nat) (Option.some Jvm.ClassFile.FieldType.int)) ∈ tb_g := tb_c6 92 rfl rfl
theorem tw_1293 : (Jvm.Cond.methodLink "RoomNumbersLaw" (43 : Nat) ({ cls := "RoomNumbersModel", name := "noteOf", desc := "(II)I" } : Jvm.MethodName)) ∈ tb_g := tb_c6 93 rfl rfl
theorem tw_1294 : (Jvm.Cond.instanceMethod ({ cls := "RoomNumbersModel", name := "noteOf", desc := "(II)I" } : Jvm.MethodName)) ∈ tb_g := tb_c6 94 rfl rfl
theorem tw_1295 : (Jvm.Cond.selects "RoomNumbersModel" ({ cls := "RoomNumbersModel", name := "noteOf", desc := "(II)I" } : Jvm.MethodName) ({ cls := "RoomNumbersModel", name := "noteOf", desc := "(II)I" } : Jvm.MethodName)) ∈ tb_g := tb_c6 95 rfl rfl
theorem tw_1296 : (Jvm.Cond.code ({ cls := "RoomNumbersModel", name := "noteOf", desc := "(II)I" } : Jvm.MethodName) prog_14_method_25_code (3 : Nat) (Option.some Jvm.ClassFile.FieldType.int)) ∈ tb_g := tb_c6 96 rfl rfl
theorem tw_1297 : (Jvm.Cond.methodLink "RoomNumbersModel" (166 : Nat) ({ cls := "RoomNumbersModel", name := "isNote", desc := "(I)Z" } : Jvm.MethodName)) ∈ tb_g := tb_c6 97 rfl rfl
theorem tw_1299 : (Jvm.Cond.instanceMethod ({ cls := "RoomNumbersModel", name := "isNote", desc := "(I)Z" } : Jvm.MethodName)) ∈ tb_g := tb_c6 99 rfl rfl
theorem tw_1300 : (Jvm.Cond.code ({ cls := "RoomNumbersModel", name := "isNote", desc := "(I)Z" } : Jvm.MethodName) prog_14_method_5_code (2 : Nat) (Option.some Jvm.ClassFile.FieldType.boolean)) ∈ tb_g := tb_c6 100 rfl rfl
theorem tw_1301 : (Jvm.Cond.methodLink "RoomNumbersLaw" (47 : Nat) ({ cls := "RoomNumbersModel", name := "alter", desc := "(III)I" } : Jvm.MethodName)) ∈ tb_g := tb_c6 101 rfl rfl
theorem tw_1302 : (Jvm.Cond.instanceMethod ({ cls := "RoomNumbersModel", name := "alter", desc := "(III)I" } : Jvm.MethodName)) ∈ tb_g := tb_c6 102 rfl rfl
theorem tw_1303 : (Jvm.Cond.selects "RoomNumbersModel" ({ cls := "RoomNumbersModel", name := "alter", desc := "(III)I" } : Jvm.MethodName) ({ cls := "RoomNumbersModel", name := "alter", desc := "(III)I" } : Jvm.MethodName)) ∈ tb_g := tb_c6 103 rfl rfl
theorem tw_1304 : (Jvm.Cond.code ({ cls := "RoomNumbersModel", name := "alter", desc := "(III)I" } : Jvm.MethodName) prog_14_method_27_code (5 : Nat) (Option.some Jvm.ClassFile.FieldType.int)) ∈ tb_g := tb_c6 104 rfl rfl
theorem tw_1305 : (Jvm.Cond.methodLink "RoomNumbersModel" (169 : Nat) ({ cls := "RoomNumbersModel", name := "isPlace", desc := "(II)Z" } : Jvm.MethodName)) ∈ tb_g := tb_c6 105 rfl rfl
theorem tw_1307 : (Jvm.Cond.instanceMethod ({ cls := "RoomNumbersModel", name := "isPlace", desc := "(II)Z" } : Jvm.MethodName)) ∈ tb_g := tb_c6 107 rfl rfl
theorem tw_1308 : (Jvm.Cond.code ({ cls := "RoomNumbersModel", name := "isPlace", desc := "(II)Z" } : Jvm.MethodName) prog_14_method_26_code (3 : Nat) (Option.some Jvm.ClassFile.FieldType.boolean)) ∈ tb_g := tb_c6 108 rfl rfl
theorem tw_1309 : (Jvm.Cond.methodLink "RoomNumbersLaw" (51 : Nat) ({ cls := "RoomNumbersModel", name := "move", desc := "(II)I" } : Jvm.MethodName)) ∈ tb_g := tb_c6 109 rfl rfl
theorem tw_1310 : (Jvm.Cond.instanceMethod ({ cls := "RoomNumbersModel", name := "move", desc := "(II)I" } : Jvm.MethodName)) ∈ tb_g := tb_c6 110 rfl rfl
theorem tw_1311 : (Jvm.Cond.selects "RoomNumbersModel" ({ cls := "RoomNumbersModel", name := "move", desc := "(II)I" } : Jvm.MethodName) ({ cls := "RoomNumbersModel", name := "move", desc := "(II)I" } : Jvm.MethodName)) ∈ tb_g := tb_c6 111 rfl rfl
theorem tw_1312 : (Jvm.Cond.code ({ cls := "RoomNumbersModel", name := "move", desc := "(II)I" } : Jvm.MethodName) prog_14_method_28_code (4 : Nat) (Option.some Jvm.ClassFile.FieldType.int)) ∈ tb_g := tb_c6 112 rfl rfl
theorem tw_1313 : (Jvm.Cond.methodLink "RoomNumbersLaw" (56 : Nat) ({ cls := "RoomNumbersModel", name := "worth", desc := "(II)J" } : Jvm.MethodName)) ∈ tb_g := tb_c6 113 rfl rfl
theorem tw_1314 : (Jvm.Cond.instanceMethod ({ cls := "RoomNumbersModel", name := "worth", desc := "(II)J" } : Jvm.MethodName)) ∈ tb_g := tb_c6 114 rfl rfl
theorem tw_1315 : (Jvm.Cond.selects "RoomNumbersModel" ({ cls := "RoomNumbersModel", name := "worth", desc := "(II)J" } : Jvm.MethodName) ({ cls := "RoomNumbersModel", name := "worth", desc := "(II)J" } : Jvm.MethodName)) ∈ tb_g := tb_c6 115 rfl rfl
theorem tw_1316 : (Jvm.Cond.code ({ cls := "RoomNumbersModel", name := "worth", desc := "(II)J" } : Jvm.MethodName) prog_14_method_32_code (3 : Nat) (Option.some Jvm.ClassFile.FieldType.long)) ∈ tb_g := tb_c6 116 rfl rfl
theorem tw_1317 : (Jvm.Cond.methodLink "RoomNumbersModel" (176 : Nat) ({ cls := "RoomNumbersModel", name := "worthBy", desc := "(II)J" } : Jvm.MethodName)) ∈ tb_g := tb_c6 117 rfl rfl
theorem tw_1319 : (Jvm.Cond.instanceMethod ({ cls := "RoomNumbersModel", name := "worthBy", desc := "(II)J" } : Jvm.MethodName)) ∈ tb_g := tb_c6 119 rfl rfl
theorem tw_1320 : (Jvm.Cond.code ({ cls := "RoomNumbersModel", name := "worthBy", desc := "(II)J" } : Jvm.MethodName) prog_14_method_30_code (8 : Nat) (Option.some Jvm.ClassFile.FieldType.long)) ∈ tb_g := tb_c6 120 rfl rfl
theorem tw_1321 : (Jvm.Cond.methodLink "RoomNumbersModel" (172 : Nat) ({ cls := "RoomNumbersModel", name := "baseAt", desc := "(III)I" } : Jvm.MethodName)) ∈ tb_g := tb_c6 121 rfl rfl
theorem tw_1323 : (Jvm.Cond.instanceMethod ({ cls := "RoomNumbersModel", name := "baseAt", desc := "(III)I" } : Jvm.MethodName)) ∈ tb_g := tb_c6 123 rfl rfl
theorem tw_1324 : (Jvm.Cond.code ({ cls := "RoomNumbersModel", name := "baseAt", desc := "(III)I" } : Jvm.MethodName) prog_14_method_29_code (5 : Nat) (Option.some Jvm.ClassFile.FieldType.int)) ∈ tb_g := tb_c6 124 rfl rfl
theorem tw_1325 : (Jvm.Cond.constantLong "RoomNumbersModel" (180 : Nat) (-1000000000000 : Int64)) ∈ tb_g := tb_c6 125 rfl rfl
theorem tw_1326 : (Jvm.Cond.methodLink "RoomNumbersLaw" (61 : Nat) ({ cls := "RoomNumbersModel", name := "can", desc := "(I)I" } : Jvm.MethodName)) ∈ tb_g := tb_c6 126 rfl rfl
theorem tw_1327 : (Jvm.Cond.instanceMethod ({ cls := "RoomNumbersModel", name := "can", desc := "(I)I" } : Jvm.MethodName)) ∈ tb_g := tb_c6 127 rfl rfl
theorem tw_1328 : (Jvm.Cond.selects "RoomNumbersModel" ({ cls := "RoomNumbersModel", name := "can", desc := "(I)I" } : Jvm.MethodName) ({ cls := "RoomNumbersModel", name := "can", desc := "(I)I" } : Jvm.MethodName)) ∈ tb_g := tb_c6 128 rfl rfl
theorem tw_1329 : (Jvm.Cond.code ({ cls := "RoomNumbersModel", name := "can", desc := "(I)I" } : Jvm.MethodName) prog_14_method_33_code (4 : Nat) (Option.some Jvm.ClassFile.FieldType.int)) ∈ tb_g := tb_c6 129 rfl rfl
theorem tw_1330 : (Jvm.Cond.methodLink "RoomNumbersModel" (182 : Nat) ({ cls := "RoomNumbersModel", name := "canBe", desc := "(II)Z" } : Jvm.MethodName)) ∈ tb_g := tb_c6 130 rfl rfl
theorem tw_1332 : (Jvm.Cond.instanceMethod ({ cls := "RoomNumbersModel", name := "canBe", desc := "(II)Z" } : Jvm.MethodName)) ∈ tb_g := tb_c6 132 rfl rfl
theorem tw_1333 : (Jvm.Cond.code ({ cls := "RoomNumbersModel", name := "canBe", desc := "(II)Z" } : Jvm.MethodName) prog_14_method_31_code (6 : Nat) (Option.some Jvm.ClassFile.FieldType.boolean)) ∈ tb_g := tb_c6 133 rfl rfl
theorem tw_1334 : (Jvm.Cond.methodLink "RoomNumbersLaw" (66 : Nat) ({ cls := "RoomNumbersModel", name := "line", desc := "(IIII)I" } : Jvm.MethodName)) ∈ tb_g := tb_c6 134 rfl rfl
theorem tw_1335 : (Jvm.Cond.instanceMethod ({ cls := "RoomNumbersModel", name := "line", desc := "(IIII)I" } : Jvm.MethodName)) ∈ tb_g := tb_c6 135 rfl rfl
theorem tw_1336 : (Jvm.Cond.selects "RoomNumbersModel" ({ cls := "RoomNumbersModel", name := "line", desc := "(IIII)I" } : Jvm.MethodName) ({ cls := "RoomNumbersModel", name := "line", desc := "(IIII)I" } : Jvm.MethodName)) ∈ tb_g := tb_c6 136 rfl rfl
theorem tw_1337 : (Jvm.Cond.code ({ cls := "RoomNumbersModel", name := "line", desc := "(IIII)I" } : Jvm.MethodName) prog_14_method_35_code (7 : Nat) (Option.some Jvm.ClassFile.FieldType.int)) ∈ tb_g := tb_c6 137 rfl rfl
theorem tw_1338 : (Jvm.Cond.methodLink "RoomNumbersLaw" (70 : Nat) ({ cls := "RoomNumbersModel", name := "lineOf", desc := "(II)I" } : Jvm.MethodName)) ∈ tb_g := tb_c6 138 rfl rfl
theorem tw_1339 : (Jvm.Cond.instanceMethod ({ cls := "RoomNumbersModel", name := "lineOf", desc := "(II)I" } : Jvm.MethodName)) ∈ tb_g := tb_c6 139 rfl rfl
theorem tw_1340 : (Jvm.Cond.selects "RoomNumbersModel" ({ cls := "RoomNumbersModel", name := "lineOf", desc := "(II)I" } : Jvm.MethodName) ({ cls := "RoomNumbersModel", name := "lineOf", desc := "(II)I" } : Jvm.MethodName)) ∈ tb_g := tb_c6 140 rfl rfl
theorem tw_1341 : (Jvm.Cond.code ({ cls := "RoomNumbersModel", name := "lineOf", desc := "(II)I" } : Jvm.MethodName) prog_14_method_36_code (3 : Nat) (Option.some Jvm.ClassFile.FieldType.int)) ∈ tb_g := tb_c6 141 rfl rfl
theorem tw_1342 : (Jvm.Cond.methodLink "RoomNumbersModel" (185 : Nat) ({ cls := "RoomNumbersModel", name := "isLine", desc := "(I)Z" } : Jvm.MethodName)) ∈ tb_g := tb_c6 142 rfl rfl
theorem tw_1344 : (Jvm.Cond.instanceMethod ({ cls := "RoomNumbersModel", name := "isLine", desc := "(I)Z" } : Jvm.MethodName)) ∈ tb_g := tb_c6 144 rfl rfl
theorem tw_1345 : (Jvm.Cond.code ({ cls := "RoomNumbersModel", name := "isLine", desc := "(I)Z" } : Jvm.MethodName) prog_14_method_34_code (2 : Nat) (Option.some Jvm.ClassFile.FieldType.boolean)) ∈ tb_g := tb_c6 145 rfl rfl
theorem tw_1346 : (Jvm.Cond.methodLink "RoomNumbersModel" (188 : Nat) ({ cls := "RoomNumbersModel", name := "of", desc := "(II)I" } : Jvm.MethodName)) ∈ tb_g := tb_c6 146 rfl rfl
theorem tw_1348 : (Jvm.Cond.instanceMethod ({ cls := "RoomNumbersModel", name := "of", desc := "(II)I" } : Jvm.MethodName)) ∈ tb_g := tb_c6 148 rfl rfl
theorem tw_1349 : (Jvm.Cond.code ({ cls := "RoomNumbersModel", name := "of", desc := "(II)I" } : Jvm.MethodName) prog_14_method_9_code (3 : Nat) (Option.some Jvm.ClassFile.FieldType.int)) ∈ tb_g := tb_c6 149 rfl rfl
theorem tw_1350 : (Jvm.Cond.methodLink "RoomNumbersLaw" (74 : Nat) ({ cls := "RoomNumbersModel", name := "strike", desc := "(I)I" } : Jvm.MethodName)) ∈ tb_g := tb_c6 150 rfl rfl
theorem tw_1351 : (Jvm.Cond.instanceMethod ({ cls := "RoomNumbersModel", name := "strike", desc := "(I)I" } : Jvm.MethodName)) ∈ tb_g := tb_c6 151 rfl rfl
theorem tw_1352 : (Jvm.Cond.selects "RoomNumbersModel" ({ cls := "RoomNumbersModel", name := "strike", desc := "(I)I" } : Jvm.MethodName) ({ cls := "RoomNumbersModel", name := "strike", desc := "(I)I" } : Jvm.MethodName)) ∈ tb_g := tb_c6 152 rfl rfl
theorem tw_1353 : (Jvm.Cond.code ({ cls := "RoomNumbersModel", name := "strike", desc := "(I)I" } : Jvm.MethodName) prog_14_method_37_code (3 : Nat) (Option.some Jvm.ClassFile.FieldType.int)) ∈ tb_g := tb_c6 153 rfl rfl
theorem tw_1354 : (Jvm.Cond.methodLink "RoomNumbersLaw" (78 : Nat) ({ cls := "RoomNumbersModel", name := "worlds", desc := "()I" } : Jvm.MethodName)) ∈ tb_g := tb_c6 154 rfl rfl
theorem tw_1355 : (Jvm.Cond.instanceMethod ({ cls := "RoomNumbersModel", name := "worlds", desc := "()I" } : Jvm.MethodName)) ∈ tb_g := tb_c6 155 rfl rfl
theorem tw_1356 : (Jvm.Cond.selects "RoomNumbersModel" ({ cls := "RoomNumbersModel", name := "worlds", desc := "()I" } : Jvm.MethodName) ({ cls := "RoomNumbersModel", name := "worlds", desc := "()I" } : Jvm.MethodName)) ∈ tb_g := tb_c6 156 rfl rfl
theorem tw_1357 : (Jvm.Cond.code ({ cls := "RoomNumbersModel", name := "worlds", desc := "()I" } : Jvm.MethodName) prog_14_method_43_code (1 : Nat) (Option.some Jvm.ClassFile.FieldType.int)) ∈ tb_g := tb_c6 157 rfl rfl
theorem tw_1358 : (Jvm.Cond.methodLink "RoomNumbersModel" (204 : Nat) ({ cls := "RoomNumbersModel", name := "findWorlds", desc := "(II)I" } : Jvm.MethodName)) ∈ tb_g := tb_c6 158 rfl rfl
theorem tw_1360 : (Jvm.Cond.instanceMethod ({ cls := "RoomNumbersModel", name := "findWorlds", desc := "(II)I" } : Jvm.MethodName)) ∈ tb_g := tb_c6 160 rfl rfl
theorem tw_1361 : (Jvm.Cond.code ({ cls := "RoomNumbersModel", name := "findWorlds", desc := "(II)I" } : Jvm.MethodName) prog_14_method_42_code (7 : Nat) (Option.some Jvm.ClassFile.FieldType.int)) ∈ tb_g := tb_c6 161 rfl rfl
theorem tw_1362 : (Jvm.Cond.methodLink "RoomNumbersModel" (198 : Nat) ({ cls := "RoomNumbersModel", name := "may1", desc := "(I)I" } : Jvm.MethodName)) ∈ tb_g := tb_c6 162 rfl rfl
theorem tw_1364 : (Jvm.Cond.instanceMethod ({ cls := "RoomNumbersModel", name := "may1", desc := "(I)I" } : Jvm.MethodName)) ∈ tb_g := tb_c6 164 rfl rfl
theorem tw_1365 : (Jvm.Cond.code ({ cls := "RoomNumbersModel", name := "may1", desc := "(I)I" } : Jvm.MethodName) prog_14_method_41_code (6 : Nat) (Option.some Jvm.ClassFile.FieldType.int)) ∈ tb_g := tb_c6 165 rfl rfl
theorem tw_1366 : (Jvm.Cond.methodLink "RoomNumbersModel" (201 : Nat) ({ cls := "RoomNumbersModel", name := "holdAll", desc := "(I)Z" } : Jvm.MethodName)) ∈ tb_g := tb_c6 166 rfl rfl
theorem tw_1368 : (Jvm.Cond.instanceMethod ({ cls := "RoomNumbersModel", name := "holdAll", desc := "(I)Z" } : Jvm.MethodName)) ∈ tb_g := tb_c6 168 rfl rfl
theorem tw_1369 : (Jvm.Cond.code ({ cls := "RoomNumbersModel", name := "holdAll", desc := "(I)Z" } : Jvm.MethodName) prog_14_method_40_code (3 : Nat) (Option.some Jvm.ClassFile.FieldType.boolean)) ∈ tb_g := tb_c6 169 rfl rfl
theorem tw_1370 : (Jvm.Cond.methodLink "RoomNumbersModel" (195 : Nat) ({ cls := "RoomNumbersModel", name := "holdsNow", desc := "(I)Z" } : Jvm.MethodName)) ∈ tb_g := tb_c6 170 rfl rfl
theorem tw_1372 : (Jvm.Cond.instanceMethod ({ cls := "RoomNumbersModel", name := "holdsNow", desc := "(I)Z" } : Jvm.MethodName)) ∈ tb_g := tb_c6 172 rfl rfl
theorem tw_1373 : (Jvm.Cond.code ({ cls := "RoomNumbersModel", name := "holdsNow", desc := "(I)Z" } : Jvm.MethodName) prog_14_method_39_code (4 : Nat) (Option.some Jvm.ClassFile.FieldType.boolean)) ∈ tb_g := tb_c6 173 rfl rfl
theorem tw_1374 : (Jvm.Cond.methodLink "RoomNumbersModel" (191 : Nat) ({ cls := "RoomNumbersModel", name := "worthNow", desc := "(I)J" } : Jvm.MethodName)) ∈ tb_g := tb_c6 174 rfl rfl
theorem tw_1376 : (Jvm.Cond.instanceMethod ({ cls := "RoomNumbersModel", name := "worthNow", desc := "(I)J" } : Jvm.MethodName)) ∈ tb_g := tb_c6 176 rfl rfl
theorem tw_1377 : (Jvm.Cond.code ({ cls := "RoomNumbersModel", name := "worthNow", desc := "(I)J" } : Jvm.MethodName) prog_14_method_38_code (2 : Nat) (Option.some Jvm.ClassFile.FieldType.long)) ∈ tb_g := tb_c6 177 rfl rfl
theorem tw_1378 : (Jvm.Cond.methodLink "RoomNumbersLaw" (82 : Nat) ({ cls := "RoomNumbersModel", name := "world", desc := "(II)I" } : Jvm.MethodName)) ∈ tb_g := tb_c6 178 rfl rfl
theorem tw_1379 : (Jvm.Cond.instanceMethod ({ cls := "RoomNumbersModel", name := "world", desc := "(II)I" } : Jvm.MethodName)) ∈ tb_g := tb_c6 179 rfl rfl
theorem tw_1380 : (Jvm.Cond.selects "RoomNumbersModel" ({ cls := "RoomNumbersModel", name := "world", desc := "(II)I" } : Jvm.MethodName) ({ cls := "RoomNumbersModel", name := "world", desc := "(II)I" } : Jvm.MethodName)) ∈ tb_g := tb_c6 180 rfl rfl
theorem tw_1381 : (Jvm.Cond.code ({ cls := "RoomNumbersModel", name := "world", desc := "(II)I" } : Jvm.MethodName) prog_14_method_46_code (3 : Nat) (Option.some Jvm.ClassFile.FieldType.int)) ∈ tb_g := tb_c6 181 rfl rfl
theorem tw_1382 : (Jvm.Cond.methodLink "RoomNumbersModel" (207 : Nat) ({ cls := "RoomNumbersModel", name := "findWorld", desc := "(I)Z" } : Jvm.MethodName)) ∈ tb_g := tb_c6 182 rfl rfl
theorem tw_1384 : (Jvm.Cond.instanceMethod ({ cls := "RoomNumbersModel", name := "findWorld", desc := "(I)Z" } : Jvm.MethodName)) ∈ tb_g := tb_c6 184 rfl rfl
theorem tw_1385 : (Jvm.Cond.code ({ cls := "RoomNumbersModel", name := "findWorld", desc := "(I)Z" } : Jvm.MethodName) prog_14_method_45_code (2 : Nat) (Option.some Jvm.ClassFile.FieldType.boolean)) ∈ tb_g := tb_c6 185 rfl rfl
theorem tw_1386 : (Jvm.Cond.methodLink "RoomNumbersLaw" (86 : Nat) ({ cls := "RoomNumbersModel", name := "may", desc := "(I)I" } : Jvm.MethodName)) ∈ tb_g := tb_c6 186 rfl rfl
theorem tw_1387 : (Jvm.Cond.instanceMethod ({ cls := "RoomNumbersModel", name := "may", desc := "(I)I" } : Jvm.MethodName)) ∈ tb_g := tb_c6 187 rfl rfl
theorem tw_1388 : (Jvm.Cond.selects "RoomNumbersModel" ({ cls := "RoomNumbersModel", name := "may", desc := "(I)I" } : Jvm.MethodName) ({ cls := "RoomNumbersModel", name := "may", desc := "(I)I" } : Jvm.MethodName)) ∈ tb_g := tb_c6 188 rfl rfl
theorem tw_1389 : (Jvm.Cond.code ({ cls := "RoomNumbersModel", name := "may", desc := "(I)I" } : Jvm.MethodName) prog_14_method_47_code (3 : Nat) (Option.some Jvm.ClassFile.FieldType.int)) ∈ tb_g := tb_c6 189 rfl rfl
theorem tw_1390 : (Jvm.Cond.methodLink "RoomNumbersLaw" (90 : Nat) ({ cls := "RoomNumbersModel", name := "sure", desc := "(I)I" } : Jvm.MethodName)) ∈ tb_g := tb_c6 190 rfl rfl
theorem tw_1391 : (Jvm.Cond.instanceMethod ({ cls := "RoomNumbersModel", name := "sure", desc := "(I)I" } : Jvm.MethodName)) ∈ tb_g := tb_c6 191 rfl rfl
theorem tw_1392 : (Jvm.Cond.selects "RoomNumbersModel" ({ cls := "RoomNumbersModel", name := "sure", desc := "(I)I" } : Jvm.MethodName) ({ cls := "RoomNumbersModel", name := "sure", desc := "(I)I" } : Jvm.MethodName)) ∈ tb_g := tb_c6 192 rfl rfl
theorem tw_1393 : (Jvm.Cond.code ({ cls := "RoomNumbersModel", name := "sure", desc := "(I)I" } : Jvm.MethodName) prog_14_method_48_code (4 : Nat) (Option.some Jvm.ClassFile.FieldType.int)) ∈ tb_g := tb_c6 193 rfl rfl
theorem tw_1394 : (Jvm.Cond.methodLink "RoomNumbersLaw" (94 : Nat) ({ cls := "RoomNumbersModel", name := "holds", desc := "(IIII)I" } : Jvm.MethodName)) ∈ tb_g := tb_c6 194 rfl rfl
theorem tw_1395 : (Jvm.Cond.instanceMethod ({ cls := "RoomNumbersModel", name := "holds", desc := "(IIII)I" } : Jvm.MethodName)) ∈ tb_g := tb_c6 195 rfl rfl
theorem tw_1396 : (Jvm.Cond.selects "RoomNumbersModel" ({ cls := "RoomNumbersModel", name := "holds", desc := "(IIII)I" } : Jvm.MethodName) ({ cls := "RoomNumbersModel", name := "holds", desc := "(IIII)I" } : Jvm.MethodName)) ∈ tb_g := tb_c6 196 rfl rfl
theorem tw_1397 : (Jvm.Cond.code ({ cls := "RoomNumbersModel", name := "holds", desc := "(IIII)I" } : Jvm.MethodName) prog_14_method_49_code (5 : Nat) (Option.some Jvm.ClassFile.FieldType.int)) ∈ tb_g := tb_c6 197 rfl rfl
theorem tw_1398 : (Jvm.Cond.methodLink "RoomNumbersLaw" (98 : Nat) ({ cls := "RoomNumbersModel", name := "proof", desc := "()I" } : Jvm.MethodName)) ∈ tb_g := tb_c6 198 rfl rfl
theorem tw_1399 : (Jvm.Cond.instanceMethod ({ cls := "RoomNumbersModel", name := "proof", desc := "()I" } : Jvm.MethodName)) ∈ tb_g := tb_c6 199 rfl rfl
theorem tw_1400 : (Jvm.Cond.selects "RoomNumbersModel" ({ cls := "RoomNumbersModel", name := "proof", desc := "()I" } : Jvm.MethodName) ({ cls := "RoomNumbersModel", name := "proof", desc := "()I" } : Jvm.MethodName)) ∈ tb_g := tb_c6 200 rfl rfl
theorem tw_1401 : (Jvm.Cond.code ({ cls := "RoomNumbersModel", name := "proof", desc := "()I" } : Jvm.MethodName) prog_14_method_51_code (4 : Nat) (Option.some Jvm.ClassFile.FieldType.int)) ∈ tb_g := tb_c6 201 rfl rfl
theorem tw_1402 : (Jvm.Cond.methodLink "RoomNumbersModel" (210 : Nat) ({ cls := "RoomNumbersModel", name := "hasWorld", desc := "(I)Z" } : Jvm.MethodName)) ∈ tb_g := tb_c6 202 rfl rfl
theorem tw_1404 : (Jvm.Cond.instanceMethod ({ cls := "RoomNumbersModel", name := "hasWorld", desc := "(I)Z" } : Jvm.MethodName)) ∈ tb_g := tb_c6 204 rfl rfl
theorem tw_1405 : (Jvm.Cond.code ({ cls := "RoomNumbersModel", name := "hasWorld", desc := "(I)Z" } : Jvm.MethodName) prog_14_method_44_code (2 : Nat) (Option.some Jvm.ClassFile.FieldType.boolean)) ∈ tb_g := tb_c6 205 rfl rfl
theorem tw_1406 : (Jvm.Cond.methodLink "RoomNumbersModel" (213 : Nat) ({ cls := "RoomNumbersModel", name := "many", desc := "(II)I" } : Jvm.MethodName)) ∈ tb_g := tb_c6 206 rfl rfl
theorem tw_1407 : (Jvm.Cond.static ({ cls := "RoomNumbersModel", name := "many", desc := "(II)I" } : Jvm.MethodName)) ∈ tb_g := tb_c6 207 rfl rfl
theorem tw_1408 : (Jvm.Cond.code ({ cls := "RoomNumbersModel", name := "many", desc := "(II)I" } : Jvm.MethodName) prog_14_method_50_code (4 : Nat) (Option.some Jvm.ClassFile.FieldType.int)) ∈ tb_g := tb_c6 208 rfl rfl
theorem tw_1409 : (Jvm.Cond.methodLink "RoomNumbersLaw" (102 : Nat) ({ cls := "RoomNumbersModel", name := "mended", desc := "(I)I" } : Jvm.MethodName)) ∈ tb_g := tb_c6 209 rfl rfl
theorem tw_1410 : (Jvm.Cond.instanceMethod ({ cls := "RoomNumbersModel", name := "mended", desc := "(I)I" } : Jvm.MethodName)) ∈ tb_g := tb_c6 210 rfl rfl
theorem tw_1411 : (Jvm.Cond.selects "RoomNumbersModel" ({ cls := "RoomNumbersModel", name := "mended", desc := "(I)I" } : Jvm.MethodName) ({ cls := "RoomNumbersModel", name := "mended", desc := "(I)I" } : Jvm.MethodName)) ∈ tb_g := tb_c6 211 rfl rfl
theorem tw_1412 : (Jvm.Cond.code ({ cls := "RoomNumbersModel", name := "mended", desc := "(I)I" } : Jvm.MethodName) prog_14_method_52_code (9 : Nat) (Option.some Jvm.ClassFile.FieldType.int)) ∈ tb_g := tb_c6 212 rfl rfl
theorem tw_1413 : (Jvm.Cond.methodLink "RoomNumbersModel" (216 : Nat) ({ cls := "RoomNumbersModel", name := "alter", desc := "(III)I" } : Jvm.MethodName)) ∈ tb_g := tb_c6 213 rfl rfl
theorem tw_1414 : (Jvm.Cond.methodLink "RoomNumbersLaw" (106 : Nat) ({ cls := "RoomNumbersModel", name := "which", desc := "(I)I" } : Jvm.MethodName)) ∈ tb_g := tb_c6 214 rfl rfl
theorem tw_1415 : (Jvm.Cond.instanceMethod ({ cls := "RoomNumbersModel", name := "which", desc := "(I)I" } : Jvm.MethodName)) ∈ tb_g := tb_c6 215 rfl rfl
theorem tw_1416 : (Jvm.Cond.selects "RoomNumbersModel" ({ cls := "RoomNumbersModel", name := "which", desc := "(I)I" } : Jvm.MethodName) ({ cls := "RoomNumbersModel", name := "which", desc := "(I)I" } : Jvm.MethodName)) ∈ tb_g := tb_c6 216 rfl rfl
theorem tw_1417 : (Jvm.Cond.code ({ cls := "RoomNumbersModel", name := "which", desc := "(I)I" } : Jvm.MethodName) prog_14_method_53_code (6 : Nat) (Option.some Jvm.ClassFile.FieldType.int)) ∈ tb_g := tb_c6 217 rfl rfl
theorem tw_1418 : (Jvm.Cond.methodLink "RoomNumbersModel" (219 : Nat) ({ cls := "RoomNumbersModel", name := "move", desc := "(II)I" } : Jvm.MethodName)) ∈ tb_g := tb_c6 218 rfl rfl
theorem tw_1419 : (Jvm.Cond.methodLink "RoomNumbersLaw" (111 : Nat) ({ cls := "RoomNumbersModel", name := "gain", desc := "(III)J" } : Jvm.MethodName)) ∈ tb_g := tb_c6 219 rfl rfl
theorem tw_1420 : (Jvm.Cond.instanceMethod ({ cls := "RoomNumbersModel", name := "gain", desc := "(III)J" } : Jvm.MethodName)) ∈ tb_g := tb_c6 220 rfl rfl
theorem tw_1421 : (Jvm.Cond.selects "RoomNumbersModel" ({ cls := "RoomNumbersModel", name := "gain", desc := "(III)J" } : Jvm.MethodName) ({ cls := "RoomNumbersModel", name := "gain", desc := "(III)J" } : Jvm.MethodName)) ∈ tb_g := tb_c6 221 rfl rfl
theorem tw_1422 : (Jvm.Cond.code ({ cls := "RoomNumbersModel", name := "gain", desc := "(III)J" } : Jvm.MethodName) prog_14_method_54_code (4 : Nat) (Option.some Jvm.ClassFile.FieldType.long)) ∈ tb_g := tb_c6 222 rfl rfl
theorem tw_1423 : (Jvm.Cond.methodLink "RoomNumbersLaw" (115 : Nat) ({ cls := "RoomNumbersModel", name := "written", desc := "(III)I" } : Jvm.MethodName)) ∈ tb_g := tb_c6 223 rfl rfl
theorem tw_1424 : (Jvm.Cond.instanceMethod ({ cls := "RoomNumbersModel", name := "written", desc := "(III)I" } : Jvm.MethodName)) ∈ tb_g := tb_c6 224 rfl rfl
theorem tw_1425 : (Jvm.Cond.selects "RoomNumbersModel" ({ cls := "RoomNumbersModel", name := "written", desc := "(III)I" } : Jvm.MethodName) ({ cls := "RoomNumbersModel", name := "written", desc := "(III)I" } : Jvm.MethodName)) ∈ tb_g := tb_c6 225 rfl rfl
theorem tw_1426 : (Jvm.Cond.code ({ cls := "RoomNumbersModel", name := "written", desc := "(III)I" } : Jvm.MethodName) prog_14_method_57_code (5 : Nat) (Option.some Jvm.ClassFile.FieldType.int)) ∈ tb_g := tb_c6 226 rfl rfl
theorem tw_1427 : (Jvm.Cond.methodLink "RoomNumbersModel" (222 : Nat) ({ cls := "RoomNumbersModel", name := "signsOf", desc := "(II)I" } : Jvm.MethodName)) ∈ tb_g := tb_c6 227 rfl rfl
theorem tw_1428 : (Jvm.Cond.static ({ cls := "RoomNumbersModel", name := "signsOf", desc := "(II)I" } : Jvm.MethodName)) ∈ tb_g := tb_c6 228 rfl rfl
theorem tw_1429 : (Jvm.Cond.code ({ cls := "RoomNumbersModel", name := "signsOf", desc := "(II)I" } : Jvm.MethodName) prog_14_method_55_code (4 : Nat) (Option.some Jvm.ClassFile.FieldType.int)) ∈ tb_g := tb_c6 229 rfl rfl
theorem tw_1430 : (Jvm.Cond.methodLink "RoomNumbersModel" (225 : Nat) ({ cls := "RoomNumbersModel", name := "signFromEnd", desc := "(III)I" } : Jvm.MethodName)) ∈ tb_g := tb_c6 230 rfl rfl
theorem tw_1431 : (Jvm.Cond.static ({ cls := "RoomNumbersModel", name := "signFromEnd", desc := "(III)I" } : Jvm.MethodName)) ∈ tb_g := tb_c6 231 rfl rfl
theorem tw_1432 : (Jvm.Cond.code ({ cls := "RoomNumbersModel", name := "signFromEnd", desc := "(III)I" } : Jvm.MethodName) prog_14_method_56_code (5 : Nat) (Option.some Jvm.ClassFile.FieldType.int)) ∈ tb_g := tb_c6 232 rfl rfl
theorem tw_1433 : (Jvm.Cond.methodLink "RoomNumbersLaw" (119 : Nat) ({ cls := "RoomNumbersModel", name := "alike", desc := "(II)I" } : Jvm.MethodName)) ∈ tb_g := tb_c6 233 rfl rfl
theorem tw_1434 : (Jvm.Cond.instanceMethod ({ cls := "RoomNumbersModel", name := "alike", desc := "(II)I" } : Jvm.MethodName)) ∈ tb_g := tb_c6 234 rfl rfl
theorem tw_1435 : (Jvm.Cond.selects "RoomNumbersModel" ({ cls := "RoomNumbersModel", name := "alike", desc := "(II)I" } : Jvm.MethodName) ({ cls := "RoomNumbersModel", name := "alike", desc := "(II)I" } : Jvm.MethodName)) ∈ tb_g := tb_c6 235 rfl rfl
theorem tw_1436 : (Jvm.Cond.code ({ cls := "RoomNumbersModel", name := "alike", desc := "(II)I" } : Jvm.MethodName) prog_14_method_60_code (4 : Nat) (Option.some Jvm.ClassFile.FieldType.int)) ∈ tb_g := tb_c6 236 rfl rfl
theorem tw_1437 : (Jvm.Cond.methodLink "RoomNumbersModel" (229 : Nat) ({ cls := "RoomNumbersModel", name := "areBases", desc := "(I)Z" } : Jvm.MethodName)) ∈ tb_g := tb_c6 237 rfl rfl
theorem tw_1438 : (Jvm.Cond.static ({ cls := "RoomNumbersModel", name := "areBases", desc := "(I)Z" } : Jvm.MethodName)) ∈ tb_g := tb_c6 238 rfl rfl
theorem tw_1439 : (Jvm.Cond.code ({ cls := "RoomNumbersModel", name := "areBases", desc := "(I)Z" } : Jvm.MethodName) prog_14_method_58_code (1 : Nat) (Option.some Jvm.ClassFile.FieldType.boolean)) ∈ tb_g := tb_c6 239 rfl rfl
theorem tw_1440 : (Jvm.Cond.constant "RoomNumbersModel" (228 : Nat) (131072 : Int32)) ∈ tb_g := tb_c7 0 rfl rfl
theorem tw_1441 : (Jvm.Cond.methodLink "RoomNumbersModel" (232 : Nat) ({ cls := "RoomNumbersModel", name := "isAlike", desc := "(II)Z" } : Jvm.MethodName)) ∈ tb_g := tb_c7 1 rfl rfl
theorem tw_1442 : (Jvm.Cond.static ({ cls := "RoomNumbersModel", name := "isAlike", desc := "(II)Z" } : Jvm.MethodName)) ∈ tb_g := tb_c7 2 rfl rfl
theorem tw_1443 : (Jvm.Cond.code ({ cls := "RoomNumbersModel", name := "isAlike", desc := "(II)Z" } : Jvm.MethodName) prog_14_method_59_code (5 : Nat) (Option.some Jvm.ClassFile.FieldType.boolean)) ∈ tb_g := tb_c7 3 rfl rfl
theorem tw_1444 : (Jvm.Cond.methodLink "RoomNumbersLaw" (123 : Nat) ({ cls := "RoomNumbersModel", name := "shortest", desc := "(II)I" } : Jvm.MethodName)) ∈ tb_g := tb_c7 4 rfl rfl
theorem tw_1445 : (Jvm.Cond.instanceMethod ({ cls := "RoomNumbersModel", name := "shortest", desc := "(II)I" } : Jvm.MethodName)) ∈ tb_g := tb_c7 5 rfl rfl
theorem tw_1446 : (Jvm.Cond.selects "RoomNumbersModel" ({ cls := "RoomNumbersModel", name := "shortest", desc := "(II)I" } : Jvm.MethodName) ({ cls := "RoomNumbersModel", name := "shortest", desc := "(II)I" } : Jvm.MethodName)) ∈ tb_g := tb_c7 6 rfl rfl
theorem tw_1447 : (Jvm.Cond.code ({ cls := "RoomNumbersModel", name := "shortest", desc := "(II)I" } : Jvm.MethodName) prog_14_method_61_code (6 : Nat) (Option.some Jvm.ClassFile.FieldType.int)) ∈ tb_g := tb_c7 7 rfl rfl
theorem tw_1448 : (Jvm.Cond.methodLink "RoomNumbersLaw" (127 : Nat) ({ cls := "RoomNumbersModel", name := "add", desc := "(II)I" } : Jvm.MethodName)) ∈ tb_g := tb_c7 8 rfl rfl
theorem tw_1449 : (Jvm.Cond.instanceMethod ({ cls := "RoomNumbersModel", name := "add", desc := "(II)I" } : Jvm.MethodName)) ∈ tb_g := tb_c7 9 rfl rfl
theorem tw_1450 : (Jvm.Cond.selects "RoomNumbersModel" ({ cls := "RoomNumbersModel", name := "add", desc := "(II)I" } : Jvm.MethodName) ({ cls := "RoomNumbersModel", name := "add", desc := "(II)I" } : Jvm.MethodName)) ∈ tb_g := tb_c7 10 rfl rfl
theorem tw_1451 : (Jvm.Cond.code ({ cls := "RoomNumbersModel", name := "add", desc := "(II)I" } : Jvm.MethodName) prog_14_method_63_code (7 : Nat) (Option.some Jvm.ClassFile.FieldType.int)) ∈ tb_g := tb_c7 11 rfl rfl
theorem tw_1452 : (Jvm.Cond.methodLink "RoomNumbersModel" (235 : Nat) ({ cls := "RoomNumbersModel", name := "fromEnd", desc := "(II)I" } : Jvm.MethodName)) ∈ tb_g := tb_c7 12 rfl rfl
theorem tw_1454 : (Jvm.Cond.instanceMethod ({ cls := "RoomNumbersModel", name := "fromEnd", desc := "(II)I" } : Jvm.MethodName)) ∈ tb_g := tb_c7 14 rfl rfl
theorem tw_1455 : (Jvm.Cond.code ({ cls := "RoomNumbersModel", name := "fromEnd", desc := "(II)I" } : Jvm.MethodName) prog_14_method_62_code (4 : Nat) (Option.some Jvm.ClassFile.FieldType.int)) ∈ tb_g := tb_c7 15 rfl rfl
theorem tw_1456 : (Jvm.Cond.methodLink "RoomNumbersModel" (238 : Nat) ({ cls := "RoomNumbersModel", name := "note", desc := "(IIIII)I" } : Jvm.MethodName)) ∈ tb_g := tb_c7 16 rfl rfl
theorem tw_1457 : (Jvm.Cond.methodLink "RoomNumbersLaw" (131 : Nat) ({ cls := "RoomNumbersModel", name := "seed", desc := "(I)I" } : Jvm.MethodName)) ∈ tb_g := tb_c7 17 rfl rfl
theorem tw_1458 : (Jvm.Cond.instanceMethod ({ cls := "RoomNumbersModel", name := "seed", desc := "(I)I" } : Jvm.MethodName)) ∈ tb_g := tb_c7 18 rfl rfl
theorem tw_1459 : (Jvm.Cond.selects "RoomNumbersModel" ({ cls := "RoomNumbersModel", name := "seed", desc := "(I)I" } : Jvm.MethodName) ({ cls := "RoomNumbersModel", name := "seed", desc := "(I)I" } : Jvm.MethodName)) ∈ tb_g := tb_c7 19 rfl rfl
theorem tw_1460 : (Jvm.Cond.code ({ cls := "RoomNumbersModel", name := "seed", desc := "(I)I" } : Jvm.MethodName) prog_14_method_64_code (3 : Nat) (Option.some Jvm.ClassFile.FieldType.int)) ∈ tb_g := tb_c7 20 rfl rfl
theorem tw_1461 : (Jvm.Cond.methodLink "RoomNumbersLaw" (135 : Nat) ({ cls := "RoomNumbersModel", name := "guess", desc := "()I" } : Jvm.MethodName)) ∈ tb_g := tb_c7 21 rfl rfl
theorem tw_1462 : (Jvm.Cond.instanceMethod ({ cls := "RoomNumbersModel", name := "guess", desc := "()I" } : Jvm.MethodName)) ∈ tb_g := tb_c7 22 rfl rfl
theorem tw_1463 : (Jvm.Cond.selects "RoomNumbersModel" ({ cls := "RoomNumbersModel", name := "guess", desc := "()I" } : Jvm.MethodName) ({ cls := "RoomNumbersModel", name := "guess", desc := "()I" } : Jvm.MethodName)) ∈ tb_g := tb_c7 23 rfl rfl
theorem tw_1464 : (Jvm.Cond.code ({ cls := "RoomNumbersModel", name := "guess", desc := "()I" } : Jvm.MethodName) prog_14_method_65_code (2 : Nat) (Option.some Jvm.ClassFile.FieldType.int)) ∈ tb_g := tb_c7 24 rfl rfl
theorem tw_1465 : (Jvm.Cond.constant "RoomNumbersModel" (241 : Nat) (1103515245 : Int32)) ∈ tb_g := tb_c7 25 rfl rfl
theorem tw_1466 : (Jvm.Cond.methodLink "RoomNumbersLaw" (139 : Nat) ({ cls := "RoomNumbersModel", name := "prove", desc := "(I)I" } : Jvm.MethodName)) ∈ tb_g := tb_c7 26 rfl rfl
theorem tw_1467 : (Jvm.Cond.instanceMethod ({ cls := "RoomNumbersModel", name := "prove", desc := "(I)I" } : Jvm.MethodName)) ∈ tb_g := tb_c7 27 rfl rfl
theorem tw_1468 : (Jvm.Cond.selects "RoomNumbersModel" ({ cls := "RoomNumbersModel", name := "prove", desc := "(I)I" } : Jvm.MethodName) ({ cls := "RoomNumbersModel", name := "prove", desc := "(I)I" } : Jvm.MethodName)) ∈ tb_g := tb_c7 28 rfl rfl
theorem tw_1469 : (Jvm.Cond.code ({ cls := "RoomNumbersModel", name := "prove", desc := "(I)I" } : Jvm.MethodName) prog_14_method_66_code (3 : Nat) (Option.some Jvm.ClassFile.FieldType.int)) ∈ tb_g := tb_c7 29 rfl rfl
theorem tw_1470 : (Jvm.Cond.methodLink "RoomNumbersLaw" (143 : Nat) ({ cls := "RoomNumbersModel", name := "row", desc := "(II)J" } : Jvm.MethodName)) ∈ tb_g := tb_c7 30 rfl rfl
theorem tw_1471 : (Jvm.Cond.instanceMethod ({ cls := "RoomNumbersModel", name := "row", desc := "(II)J" } : Jvm.MethodName)) ∈ tb_g := tb_c7 31 rfl rfl
theorem tw_1472 : (Jvm.Cond.selects "RoomNumbersModel" ({ cls := "RoomNumbersModel", name := "row", desc := "(II)J" } : Jvm.MethodName) ({ cls := "RoomNumbersModel", name := "row", desc := "(II)J" } : Jvm.MethodName)) ∈ tb_g := tb_c7 32 rfl rfl
theorem tw_1473 : (Jvm.Cond.code ({ cls := "RoomNumbersModel", name := "row", desc := "(II)J" } : Jvm.MethodName) prog_14_method_68_code (3 : Nat) (Option.some Jvm.ClassFile.FieldType.long)) ∈ tb_g := tb_c7 33 rfl rfl
theorem tw_1474 : (Jvm.Cond.methodLink "RoomNumbersModel" (242 : Nat) ({ cls := "RoomNumbersModel", name := "isRow", desc := "(II)Z" } : Jvm.MethodName)) ∈ tb_g := tb_c7 34 rfl rfl
theorem tw_1476 : (Jvm.Cond.instanceMethod ({ cls := "RoomNumbersModel", name := "isRow", desc := "(II)Z" } : Jvm.MethodName)) ∈ tb_g := tb_c7 36 rfl rfl
theorem tw_1477 : (Jvm.Cond.code ({ cls := "RoomNumbersModel", name := "isRow", desc := "(II)Z" } : Jvm.MethodName) prog_14_method_67_code (3 : Nat) (Option.some Jvm.ClassFile.FieldType.boolean)) ∈ tb_g := tb_c7 37 rfl rfl
theorem tw_1478 : (Jvm.Cond.methodLink "RoomNumbersLaw" (148 : Nat) ({ cls := "RoomNumbersModel", name := "alterRow", desc := "(IIJ)J" } : Jvm.MethodName)) ∈ tb_g := tb_c7 38 rfl rfl
theorem tw_1479 : (Jvm.Cond.instanceMethod ({ cls := "RoomNumbersModel", name := "alterRow", desc := "(IIJ)J" } : Jvm.MethodName)) ∈ tb_g := tb_c7 39 rfl rfl
theorem tw_1480 : (Jvm.Cond.selects "RoomNumbersModel" ({ cls := "RoomNumbersModel", name := "alterRow", desc := "(IIJ)J" } : Jvm.MethodName) ({ cls := "RoomNumbersModel", name := "alterRow", desc := "(IIJ)J" } : Jvm.MethodName)) ∈ tb_g := tb_c7 40 rfl rfl
theorem tw_1481 : (Jvm.Cond.code ({ cls := "RoomNumbersModel", name := "alterRow", desc := "(IIJ)J" } : Jvm.MethodName) prog_14_method_69_code (7 : Nat) (Option.some Jvm.ClassFile.FieldType.long)) ∈ tb_g := tb_c7 41 rfl rfl
theorem tw_1482 : (Jvm.Cond.methodLink "RoomNumbersLaw" (152 : Nat) ({ cls := "RoomNumbersModel", name := "judge", desc := "()I" } : Jvm.MethodName)) ∈ tb_g := tb_c7 42 rfl rfl
theorem tw_1483 : (Jvm.Cond.instanceMethod ({ cls := "RoomNumbersModel", name := "judge", desc := "()I" } : Jvm.MethodName)) ∈ tb_g := tb_c7 43 rfl rfl
theorem tw_1484 : (Jvm.Cond.selects "RoomNumbersModel" ({ cls := "RoomNumbersModel", name := "judge", desc := "()I" } : Jvm.MethodName) ({ cls := "RoomNumbersModel", name := "judge", desc := "()I" } : Jvm.MethodName)) ∈ tb_g := tb_c7 44 rfl rfl
theorem tw_1485 : (Jvm.Cond.code ({ cls := "RoomNumbersModel", name := "judge", desc := "()I" } : Jvm.MethodName) prog_14_method_71_code (2 : Nat) (Option.some Jvm.ClassFile.FieldType.int)) ∈ tb_g := tb_c7 45 rfl rfl
theorem tw_1486 : (Jvm.Cond.methodLink "RoomNumbersModel" (249 : Nat) ({ cls := "RoomNumbersModel", name := "isRight", desc := "(I)Z" } : Jvm.MethodName)) ∈ tb_g := tb_c7 46 rfl rfl
theorem tw_1488 : (Jvm.Cond.instanceMethod ({ cls := "RoomNumbersModel", name := "isRight", desc := "(I)Z" } : Jvm.MethodName)) ∈ tb_g := tb_c7 48 rfl rfl
theorem tw_1489 : (Jvm.Cond.code ({ cls := "RoomNumbersModel", name := "isRight", desc := "(I)Z" } : Jvm.MethodName) prog_14_method_70_code (5 : Nat) (Option.some Jvm.ClassFile.FieldType.boolean)) ∈ tb_g := tb_c7 49 rfl rfl
theorem tw_1490 : (Jvm.Cond.constantLong "RoomNumbersModel" (245 : Nat) (2 : Int64)) ∈ tb_g := tb_c7 50 rfl rfl
theorem tw_1491 : (Jvm.Cond.constantLong "RoomNumbersModel" (247 : Nat) (16 : Int64)) ∈ tb_g := tb_c7 51 rfl rfl
theorem tw_1492 : (Jvm.Cond.methodLink "RoomNumbersLaw" (156 : Nat) ({ cls := "RoomNumbersModel", name := "signs", desc := "(IIII)I" } : Jvm.MethodName)) ∈ tb_g := tb_c7 52 rfl rfl
theorem tw_1493 : (Jvm.Cond.instanceMethod ({ cls := "RoomNumbersModel", name := "signs", desc := "(IIII)I" } : Jvm.MethodName)) ∈ tb_g := tb_c7 53 rfl rfl
theorem tw_1494 : (Jvm.Cond.selects "RoomNumbersModel" ({ cls := "RoomNumbersModel", name := "signs", desc := "(IIII)I" } : Jvm.MethodName) ({ cls := "RoomNumbersModel", name := "signs", desc := "(IIII)I" } : Jvm.MethodName)) ∈ tb_g := tb_c7 54 rfl rfl
theorem tw_1495 : (Jvm.Cond.code ({ cls := "RoomNumbersModel", name := "signs", desc := "(IIII)I" } : Jvm.MethodName) prog_14_method_73_code (8 : Nat) (Option.some Jvm.ClassFile.FieldType.int)) ∈ tb_g := tb_c7 55 rfl rfl
theorem tw_1496 : (Jvm.Cond.methodLink "RoomNumbersModel" (252 : Nat) ({ cls := "RoomNumbersModel", name := "isSheet", desc := "(I)Z" } : Jvm.MethodName)) ∈ tb_g := tb_c7 56 rfl rfl
theorem tw_1497 : (Jvm.Cond.static ({ cls := "RoomNumbersModel", name := "isSheet", desc := "(I)Z" } : Jvm.MethodName)) ∈ tb_g := tb_c7 57 rfl rfl
theorem tw_1498 : (Jvm.Cond.code ({ cls := "RoomNumbersModel", name := "isSheet", desc := "(I)Z" } : Jvm.MethodName) prog_14_method_72_code (1 : Nat) (Option.some Jvm.ClassFile.FieldType.boolean)) ∈ tb_g := tb_c7 58 rfl rfl
theorem tw_1499 : (Jvm.Cond.constantLong "RoomNumbersModel" (255 : Nat) (15 : Int64)) ∈ tb_g := tb_c7 59 rfl rfl
theorem tw_1500 : (Jvm.Cond.methodLink "RoomNumbersLaw" (160 : Nat) ({ cls := "RoomNumbersModel", name := "sheet", desc := "(III)I" } : Jvm.MethodName)) ∈ tb_g := tb_c7 60 rfl rfl
theorem tw_1501 : (Jvm.Cond.instanceMethod ({ cls := "RoomNumbersModel", name := "sheet", desc := "(III)I" } : Jvm.MethodName)) ∈ tb_g := tb_c7 61 rfl rfl
theorem tw_1502 : (Jvm.Cond.selects "RoomNumbersModel" ({ cls := "RoomNumbersModel", name := "sheet", desc := "(III)I" } : Jvm.MethodName) ({ cls := "RoomNumbersModel", name := "sheet", desc := "(III)I" } : Jvm.MethodName)) ∈ tb_g := tb_c7 62 rfl rfl
theorem tw_1503 : (Jvm.Cond.code ({ cls := "RoomNumbersModel", name := "sheet", desc := "(III)I" } : Jvm.MethodName) prog_14_method_74_code (5 : Nat) (Option.some Jvm.ClassFile.FieldType.int)) ∈ tb_g := tb_c7 63 rfl rfl
theorem tw_1504 : (Jvm.Cond.methodLink "RoomNumbersLaw" (164 : Nat) ({ cls := "RoomNumbersModel", name := "put", desc := "(III)I" } : Jvm.MethodName)) ∈ tb_g := tb_c7 64 rfl rfl
theorem tw_1505 : (Jvm.Cond.instanceMethod ({ cls := "RoomNumbersModel", name := "put", desc := "(III)I" } : Jvm.MethodName)) ∈ tb_g := tb_c7 65 rfl rfl
theorem tw_1506 : (Jvm.Cond.selects "RoomNumbersModel" ({ cls := "RoomNumbersModel", name := "put", desc := "(III)I" } : Jvm.MethodName) ({ cls := "RoomNumbersModel", name := "put", desc := "(III)I" } : Jvm.MethodName)) ∈ tb_g := tb_c7 66 rfl rfl
theorem tw_1507 : (Jvm.Cond.code ({ cls := "RoomNumbersModel", name := "put", desc := "(III)I" } : Jvm.MethodName) prog_14_method_76_code (4 : Nat) (Option.some Jvm.ClassFile.FieldType.int)) ∈ tb_g := tb_c7 67 rfl rfl
theorem tw_1508 : (Jvm.Cond.methodLink "RoomNumbersModel" (257 : Nat) ({ cls := "RoomNumbersModel", name := "narrowed", desc := "(II)J" } : Jvm.MethodName)) ∈ tb_g := tb_c7 68 rfl rfl
theorem tw_1509 : (Jvm.Cond.static ({ cls := "RoomNumbersModel", name := "narrowed", desc := "(II)J" } : Jvm.MethodName)) ∈ tb_g := tb_c7 69 rfl rfl
theorem tw_1510 : (Jvm.Cond.code ({ cls := "RoomNumbersModel", name := "narrowed", desc := "(II)J" } : Jvm.MethodName) prog_14_method_75_code (3 : Nat) (Option.some Jvm.ClassFile.FieldType.long)) ∈ tb_g := tb_c7 70 rfl rfl
theorem tw_1511 : (Jvm.Cond.methodLink "RoomNumbersLaw" (168 : Nat) ({ cls := "RoomNumbersModel", name := "item", desc := "(III)I" } : Jvm.MethodName)) ∈ tb_g := tb_c7 71 rfl rfl
theorem tw_1512 : (Jvm.Cond.instanceMethod ({ cls := "RoomNumbersModel", name := "item", desc := "(III)I" } : Jvm.MethodName)) ∈ tb_g := tb_c7 72 rfl rfl
theorem tw_1513 : (Jvm.Cond.selects "RoomNumbersModel" ({ cls := "RoomNumbersModel", name := "item", desc := "(III)I" } : Jvm.MethodName) ({ cls := "RoomNumbersModel", name := "item", desc := "(III)I" } : Jvm.MethodName)) ∈ tb_g := tb_c7 73 rfl rfl
theorem tw_1514 : (Jvm.Cond.code ({ cls := "RoomNumbersModel", name := "item", desc := "(III)I" } : Jvm.MethodName) prog_14_method_77_code (4 : Nat) (Option.some Jvm.ClassFile.FieldType.int)) ∈ tb_g := tb_c7 74 rfl rfl
theorem tw_1515 : (Jvm.Cond.methodLink "RoomNumbersLaw" (172 : Nat) ({ cls := "RoomNumbersModel", name := "shelf", desc := "(III)I" } : Jvm.MethodName)) ∈ tb_g := tb_c7 75 rfl rfl
theorem tw_1516 : (Jvm.Cond.instanceMethod ({ cls := "RoomNumbersModel", name := "shelf", desc := "(III)I" } : Jvm.MethodName)) ∈ tb_g := tb_c7 76 rfl rfl
theorem tw_1517 : (Jvm.Cond.selects "RoomNumbersModel" ({ cls := "RoomNumbersModel", name := "shelf", desc := "(III)I" } : Jvm.MethodName) ({ cls := "RoomNumbersModel", name := "shelf", desc := "(III)I" } : Jvm.MethodName)) ∈ tb_g := tb_c7 77 rfl rfl
theorem tw_1518 : (Jvm.Cond.code ({ cls := "RoomNumbersModel", name := "shelf", desc := "(III)I" } : Jvm.MethodName) prog_14_method_79_code (5 : Nat) (Option.some Jvm.ClassFile.FieldType.int)) ∈ tb_g := tb_c7 78 rfl rfl
theorem tw_1519 : (Jvm.Cond.methodLink "RoomNumbersModel" (260 : Nat) ({ cls := "RoomNumbersModel", name := "isShelf", desc := "(I)Z" } : Jvm.MethodName)) ∈ tb_g := tb_c7 79 rfl rfl
theorem tw_1520 : (Jvm.Cond.static ({ cls := "RoomNumbersModel", name := "isShelf", desc := "(I)Z" } : Jvm.MethodName)) ∈ tb_g := tb_c7 80 rfl rfl
theorem tw_1521 : (Jvm.Cond.code ({ cls := "RoomNumbersModel", name := "isShelf", desc := "(I)Z" } : Jvm.MethodName) prog_14_method_78_code (1 : Nat) (Option.some Jvm.ClassFile.FieldType.boolean)) ∈ tb_g := tb_c7 81 rfl rfl
theorem tw_1522 : (Jvm.Cond.methodLink "RoomNumbersLaw" (176 : Nat) ({ cls := "RoomNumbersModel", name := "taken", desc := "(II)I" } : Jvm.MethodName)) ∈ tb_g := tb_c7 82 rfl rfl
theorem tw_1523 : (Jvm.Cond.instanceMethod ({ cls := "RoomNumbersModel", name := "taken", desc := "(II)I" } : Jvm.MethodName)) ∈ tb_g := tb_c7 83 rfl rfl
theorem tw_1524 : (Jvm.Cond.selects "RoomNumbersModel" ({ cls := "RoomNumbersModel", name := "taken", desc := "(II)I" } : Jvm.MethodName) ({ cls := "RoomNumbersModel", name := "taken", desc := "(II)I" } : Jvm.MethodName)) ∈ tb_g := tb_c7 84 rfl rfl
theorem tw_1525 : (Jvm.Cond.code ({ cls := "RoomNumbersModel", name := "taken", desc := "(II)I" } : Jvm.MethodName) prog_14_method_82_code (3 : Nat) (Option.some Jvm.ClassFile.FieldType.int)) ∈ tb_g := tb_c7 85 rfl rfl
theorem tw_1526 : (Jvm.Cond.methodLink "RoomNumbersModel" (263 : Nat) ({ cls := "RoomNumbersModel", name := "isEmpty", desc := "(I)Z" } : Jvm.MethodName)) ∈ tb_g := tb_c7 86 rfl rfl
theorem tw_1528 : (Jvm.Cond.instanceMethod ({ cls := "RoomNumbersModel", name := "isEmpty", desc := "(I)Z" } : Jvm.MethodName)) ∈ tb_g := tb_c7 88 rfl rfl
theorem tw_1529 : (Jvm.Cond.code ({ cls := "RoomNumbersModel", name := "isEmpty", desc := "(I)Z" } : Jvm.MethodName) prog_14_method_80_code (2 : Nat) (Option.some Jvm.ClassFile.FieldType.boolean)) ∈ tb_g := tb_c7 89 rfl rfl
theorem tw_1530 : (Jvm.Cond.methodLink "RoomNumbersModel" (266 : Nat) ({ cls := "RoomNumbersModel", name := "isUnder", desc := "(II)Z" } : Jvm.MethodName)) ∈ tb_g := tb_c7 90 rfl rfl
theorem tw_1531 : (Jvm.Cond.static ({ cls := "RoomNumbersModel", name := "isUnder", desc := "(II)Z" } : Jvm.MethodName)) ∈ tb_g := tb_c7 91 rfl rfl
theorem tw_1532 : (Jvm.Cond.code ({ cls := "RoomNumbersModel", name := "isUnder", desc := "(II)Z" } : Jvm.MethodName) prog_14_method_81_code (2 : Nat) (Option.some Jvm.ClassFile.FieldType.boolean)) ∈ tb_g := tb_c7 92 rfl rfl
theorem tw_1533 : (Jvm.Cond.methodLink "RoomNumbersLaw" (180 : Nat) ({ cls := "RoomNumbersModel", name := "act", desc := "(III)I" } : Jvm.MethodName)) ∈ tb_g := tb_c7 93 rfl rfl
theorem tw_1534 : (Jvm.Cond.instanceMethod ({ cls := "RoomNumbersModel", name := "act", desc := "(III)I" } : Jvm.MethodName)) ∈ tb_g := tb_c7 94 rfl rfl
theorem tw_1535 : (Jvm.Cond.selects "RoomNumbersModel" ({ cls := "RoomNumbersModel", name := "act", desc := "(III)I" } : Jvm.MethodName) ({ cls := "RoomNumbersModel", name := "act", desc := "(III)I" } : Jvm.MethodName)) ∈ tb_g := tb_c7 95 rfl rfl
theorem tw_1536 : (Jvm.Cond.code ({ cls := "RoomNumbersModel", name := "act", desc := "(III)I" } : Jvm.MethodName) prog_14_method_90_code (6 : Nat) (Option.some Jvm.ClassFile.FieldType.int)) ∈ tb_g := tb_c7 96 rfl rfl
theorem tw_1537 : (Jvm.Cond.methodLink "RoomNumbersModel" (285 : Nat) ({ cls := "RoomNumbersModel", name := "kindNow", desc := "()I" } : Jvm.MethodName)) ∈ tb_g := tb_c7 97 rfl rfl
theorem tw_1539 : (Jvm.Cond.instanceMethod ({ cls := "RoomNumbersModel", name := "kindNow", desc := "()I" } : Jvm.MethodName)) ∈ tb_g := tb_c7 99 rfl rfl
theorem tw_1540 : (Jvm.Cond.code ({ cls := "RoomNumbersModel", name := "kindNow", desc := "()I" } : Jvm.MethodName) prog_14_method_85_code (1 : Nat) (Option.some Jvm.ClassFile.FieldType.int)) ∈ tb_g := tb_c7 100 rfl rfl
theorem tw_1541 : (Jvm.Cond.methodLink "RoomNumbersModel" (282 : Nat) ({ cls := "RoomNumbersModel", name := "reads", desc := "(II)I" } : Jvm.MethodName)) ∈ tb_g := tb_c7 101 rfl rfl
theorem tw_1543 : (Jvm.Cond.instanceMethod ({ cls := "RoomNumbersModel", name := "reads", desc := "(II)I" } : Jvm.MethodName)) ∈ tb_g := tb_c7 103 rfl rfl
theorem tw_1544 : (Jvm.Cond.code ({ cls := "RoomNumbersModel", name := "reads", desc := "(II)I" } : Jvm.MethodName) prog_14_method_86_code (3 : Nat) (Option.some Jvm.ClassFile.FieldType.int)) ∈ tb_g := tb_c7 104 rfl rfl
theorem tw_1545 : (Jvm.Cond.methodLink "RoomNumbersModel" (275 : Nat) ({ cls := "RoomNumbersModel", name := "ran", desc := "(I)V" } : Jvm.MethodName)) ∈ tb_g := tb_c7 105 rfl rfl
theorem tw_1547 : (Jvm.Cond.instanceMethod ({ cls := "RoomNumbersModel", name := "ran", desc := "(I)V" } : Jvm.MethodName)) ∈ tb_g := tb_c7 107 rfl rfl
theorem tw_1548 : (Jvm.Cond.code ({ cls := "RoomNumbersModel", name := "ran", desc := "(I)V" } : Jvm.MethodName) prog_14_method_83_code (2 : Nat) (Option.none : Option Jvm.ClassFile.FieldType)) ∈ tb_g := tb_c7 108 rfl rfl
theorem tw_1549 : (Jvm.Cond.methodLink "RoomNumbersModel" (279 : Nat) ({ cls := "RoomNumbersModel", name := "above", desc := "(I)I" } : Jvm.MethodName)) ∈ tb_g := tb_c7 109 rfl rfl
theorem tw_1550 : (Jvm.Cond.static ({ cls := "RoomNumbersModel", name := "above", desc := "(I)I" } : Jvm.MethodName)) ∈ tb_g := tb_c7 110 rfl rfl
theorem tw_1551 : (Jvm.Cond.code ({ cls := "RoomNumbersModel", name := "above", desc := "(I)I" } : Jvm.MethodName) prog_14_method_84_code (1 : Nat) (Option.some Jvm.ClassFile.FieldType.int)) ∈ tb_g := tb_c7 111 rfl rfl
theorem tw_1552 : (Jvm.Cond.methodLink "RoomNumbersModel" (288 : Nat) ({ cls := "RoomNumbersModel", name := "writes", desc := "(II)I" } : Jvm.MethodName)) ∈ tb_g := tb_c7 112 rfl rfl
theorem tw_1554 : (Jvm.Cond.instanceMethod ({ cls := "RoomNumbersModel", name := "writes", desc := "(II)I" } : Jvm.MethodName)) ∈ tb_g := tb_c7 114 rfl rfl
theorem tw_1555 : (Jvm.Cond.code ({ cls := "RoomNumbersModel", name := "writes", desc := "(II)I" } : Jvm.MethodName) prog_14_method_87_code (4 : Nat) (Option.some Jvm.ClassFile.FieldType.int)) ∈ tb_g := tb_c7 115 rfl rfl
theorem tw_1556 : (Jvm.Cond.methodLink "RoomNumbersModel" (295 : Nat) ({ cls := "RoomNumbersModel", name := "shares", desc := "(II)I" } : Jvm.MethodName)) ∈ tb_g := tb_c7 116 rfl rfl
theorem tw_1558 : (Jvm.Cond.instanceMethod ({ cls := "RoomNumbersModel", name := "shares", desc := "(II)I" } : Jvm.MethodName)) ∈ tb_g := tb_c7 118 rfl rfl
theorem tw_1559 : (Jvm.Cond.code ({ cls := "RoomNumbersModel", name := "shares", desc := "(II)I" } : Jvm.MethodName) prog_14_method_88_code (5 : Nat) (Option.some Jvm.ClassFile.FieldType.int)) ∈ tb_g := tb_c7 119 rfl rfl
theorem tw_1560 : (Jvm.Cond.methodLink "RoomNumbersModel" (298 : Nat) ({ cls := "RoomNumbersModel", name := "tells", desc := "(II)I" } : Jvm.MethodName)) ∈ tb_g := tb_c7 120 rfl rfl
theorem tw_1562 : (Jvm.Cond.instanceMethod ({ cls := "RoomNumbersModel", name := "tells", desc := "(II)I" } : Jvm.MethodName)) ∈ tb_g := tb_c7 122 rfl rfl
theorem tw_1563 : (Jvm.Cond.code ({ cls := "RoomNumbersModel", name := "tells", desc := "(II)I" } : Jvm.MethodName) prog_14_method_89_code (4 : Nat) (Option.some Jvm.ClassFile.FieldType.int)) ∈ tb_g := tb_c7 123 rfl rfl
theorem tw_1564 : (Jvm.Cond.methodLink "RoomNumbersLaw" (184 : Nat) ({ cls := "RoomNumbersModel", name := "trace", desc := "(I)I" } : Jvm.MethodName)) ∈ tb_g := tb_c7 124 rfl rfl
theorem tw_1565 : (Jvm.Cond.instanceMethod ({ cls := "RoomNumbersModel", name := "trace", desc := "(I)I" } : Jvm.MethodName)) ∈ tb_g := tb_c7 125 rfl rfl
theorem tw_1566 : (Jvm.Cond.selects "RoomNumbersModel" ({ cls := "RoomNumbersModel", name := "trace", desc := "(I)I" } : Jvm.MethodName) ({ cls := "RoomNumbersModel", name := "trace", desc := "(I)I" } : Jvm.MethodName)) ∈ tb_g := tb_c7 126 rfl rfl
theorem tw_1567 : (Jvm.Cond.code ({ cls := "RoomNumbersModel", name := "trace", desc := "(I)I" } : Jvm.MethodName) prog_14_method_91_code (2 : Nat) (Option.some Jvm.ClassFile.FieldType.int)) ∈ tb_g := tb_c7 127 rfl rfl
theorem tw_1568 : (Jvm.Cond.methodLink "RoomNumbersLaw" (188 : Nat) ({ cls := "RoomNumbersModel", name := "many", desc := "(I)I" } : Jvm.MethodName)) ∈ tb_g := tb_c7 128 rfl rfl
theorem tw_1569 : (Jvm.Cond.instanceMethod ({ cls := "RoomNumbersModel", name := "many", desc := "(I)I" } : Jvm.MethodName)) ∈ tb_g := tb_c7 129 rfl rfl
theorem tw_1570 : (Jvm.Cond.selects "RoomNumbersModel" ({ cls := "RoomNumbersModel", name := "many", desc := "(I)I" } : Jvm.MethodName) ({ cls := "RoomNumbersModel", name := "many", desc := "(I)I" } : Jvm.MethodName)) ∈ tb_g := tb_c7 130 rfl rfl
theorem tw_1571 : (Jvm.Cond.code ({ cls := "RoomNumbersModel", name := "many", desc := "(I)I" } : Jvm.MethodName) prog_14_method_92_code (2 : Nat) (Option.some Jvm.ClassFile.FieldType.int)) ∈ tb_g := tb_c7 131 rfl rfl
theorem tw_1572 : (Jvm.Cond.methodLink "RoomNumbersLaw" (192 : Nat) ({ cls := "RoomNumbersModel", name := "keep", desc := "()I" } : Jvm.MethodName)) ∈ tb_g := tb_c7 132 rfl rfl
theorem tw_1573 : (Jvm.Cond.instanceMethod ({ cls := "RoomNumbersModel", name := "keep", desc := "()I" } : Jvm.MethodName)) ∈ tb_g := tb_c7 133 rfl rfl
theorem tw_1574 : (Jvm.Cond.selects "RoomNumbersModel" ({ cls := "RoomNumbersModel", name := "keep", desc := "()I" } : Jvm.MethodName) ({ cls := "RoomNumbersModel", name := "keep", desc := "()I" } : Jvm.MethodName)) ∈ tb_g := tb_c7 134 rfl rfl
theorem tw_1575 : (Jvm.Cond.code ({ cls := "RoomNumbersModel", name := "keep", desc := "()I" } : Jvm.MethodName) prog_14_method_93_code (1 : Nat) (Option.some Jvm.ClassFile.FieldType.int)) ∈ tb_g := tb_c7 135 rfl rfl
theorem tw_1576 : (Jvm.Cond.methodLink "RoomNumbersLaw" (196 : Nat) ({ cls := "RoomNumbersModel", name := "again", desc := "()I" } : Jvm.MethodName)) ∈ tb_g := tb_c7 136 rfl rfl
theorem tw_1577 : (Jvm.Cond.instanceMethod ({ cls := "RoomNumbersModel", name := "again", desc := "()I" } : Jvm.MethodName)) ∈ tb_g := tb_c7 137 rfl rfl
theorem tw_1578 : (Jvm.Cond.selects "RoomNumbersModel" ({ cls := "RoomNumbersModel", name := "again", desc := "()I" } : Jvm.MethodName) ({ cls := "RoomNumbersModel", name := "again", desc := "()I" } : Jvm.MethodName)) ∈ tb_g := tb_c7 138 rfl rfl
theorem tw_1579 : (Jvm.Cond.code ({ cls := "RoomNumbersModel", name := "again", desc := "()I" } : Jvm.MethodName) prog_14_method_94_code (1 : Nat) (Option.some Jvm.ClassFile.FieldType.int)) ∈ tb_g := tb_c7 139 rfl rfl
theorem tw_1580 : (Jvm.Cond.constantLong "RoomNumbersLaw" (13 : Nat) (4294967295 : Int64)) ∈ tb_g := tb_c7 140 rfl rfl
theorem tw_1581 : (Jvm.Cond.sameMethod "RoomNumbers$Strokes" "RoomNumbers$Strokes" "worthBy" "(I)I") ∈ tb_g := tb_c7 141 rfl rfl
theorem tw_1582 : (Jvm.Cond.sameMethod "RoomNumbers$Note" "RoomNumbers$Note" "grown" "(IIII)I") ∈ tb_g := tb_c7 142 rfl rfl
theorem tw_1583 : (Jvm.Cond.selects "RoomNumbers$Broken" ({ cls := "RoomNumbers$Note", name := "grown", desc := "(IIII)I" } : Jvm.MethodName) ({ cls := "RoomNumbers$Note", name := "grown", desc := "(IIII)I" } : Jvm.MethodName)) ∈ tb_g := tb_c7 143 rfl rfl
theorem tw_1584 : (Jvm.Cond.selects "RoomNumbers$Debt" ({ cls := "RoomNumbers$Note", name := "grown", desc := "(IIII)I" } : Jvm.MethodName) ({ cls := "RoomNumbers$Note", name := "grown", desc := "(IIII)I" } : Jvm.MethodName)) ∈ tb_g := tb_c7 144 rfl rfl
theorem tw_1585 : (Jvm.Cond.selects "RoomNumbers$Left" ({ cls := "RoomNumbers$Note", name := "grown", desc := "(IIII)I" } : Jvm.MethodName) ({ cls := "RoomNumbers$Note", name := "grown", desc := "(IIII)I" } : Jvm.MethodName)) ∈ tb_g := tb_c7 145 rfl rfl
theorem tw_1586 : (Jvm.Cond.selects "RoomNumbers$Note" ({ cls := "RoomNumbers$Note", name := "grown", desc := "(IIII)I" } : Jvm.MethodName) ({ cls := "RoomNumbers$Note", name := "grown", desc := "(IIII)I" } : Jvm.MethodName)) ∈ tb_g := tb_c7 146 rfl rfl
theorem tw_1587 : (Jvm.Cond.selects "RoomNumbers$Strokes" ({ cls := "RoomNumbers$Note", name := "grown", desc := "(IIII)I" } : Jvm.MethodName) ({ cls := "RoomNumbers$Note", name := "grown", desc := "(IIII)I" } : Jvm.MethodName)) ∈ tb_g := tb_c7 147 rfl rfl
theorem tw_1588 : (Jvm.Cond.selects "RoomNumbers$Turned" ({ cls := "RoomNumbers$Note", name := "grown", desc := "(IIII)I" } : Jvm.MethodName) ({ cls := "RoomNumbers$Note", name := "grown", desc := "(IIII)I" } : Jvm.MethodName)) ∈ tb_g := tb_c7 148 rfl rfl
theorem tw_1589 : (Jvm.Cond.sameMethod "RoomNumbers$Note" "RoomNumbers$Note" "allBelow" "(III)Z") ∈ tb_g := tb_c7 149 rfl rfl
theorem tw_1590 : (Jvm.Cond.selects "RoomNumbers$Broken" ({ cls := "RoomNumbers$Note", name := "allBelow", desc := "(III)Z" } : Jvm.MethodName) ({ cls := "RoomNumbers$Note", name := "allBelow", desc := "(III)Z" } : Jvm.MethodName)) ∈ tb_g := tb_c7 150 rfl rfl
theorem tw_1591 : (Jvm.Cond.selects "RoomNumbers$Debt" ({ cls := "RoomNumbers$Note", name := "allBelow", desc := "(III)Z" } : Jvm.MethodName) ({ cls := "RoomNumbers$Note", name := "allBelow", desc := "(III)Z" } : Jvm.MethodName)) ∈ tb_g := tb_c7 151 rfl rfl
theorem tw_1592 : (Jvm.Cond.selects "RoomNumbers$Left" ({ cls := "RoomNumbers$Note", name := "allBelow", desc := "(III)Z" } : Jvm.MethodName) ({ cls := "RoomNumbers$Note", name := "allBelow", desc := "(III)Z" } : Jvm.MethodName)) ∈ tb_g := tb_c7 152 rfl rfl
theorem tw_1593 : (Jvm.Cond.selects "RoomNumbers$Note" ({ cls := "RoomNumbers$Note", name := "allBelow", desc := "(III)Z" } : Jvm.MethodName) ({ cls := "RoomNumbers$Note", name := "allBelow", desc := "(III)Z" } : Jvm.MethodName)) ∈ tb_g := tb_c7 153 rfl rfl
theorem tw_1594 : (Jvm.Cond.selects "RoomNumbers$Strokes" ({ cls := "RoomNumbers$Note", name := "allBelow", desc := "(III)Z" } : Jvm.MethodName) ({ cls := "RoomNumbers$Note", name := "allBelow", desc := "(III)Z" } : Jvm.MethodName)) ∈ tb_g := tb_c7 154 rfl rfl
theorem tw_1595 : (Jvm.Cond.selects "RoomNumbers$Turned" ({ cls := "RoomNumbers$Note", name := "allBelow", desc := "(III)Z" } : Jvm.MethodName) ({ cls := "RoomNumbers$Note", name := "allBelow", desc := "(III)Z" } : Jvm.MethodName)) ∈ tb_g := tb_c7 155 rfl rfl
theorem tw_1596 : (Jvm.Cond.sameMethod "RoomNumbers$Broken" "RoomNumbers$Broken" "reads" "(ILRoomNumbers$Trace;)I") ∈ tb_g := tb_c7 156 rfl rfl
theorem tw_1597 : (Jvm.Cond.selects "RoomNumbers$Left" ({ cls := "RoomNumbers$Left", name := "reads", desc := "(ILRoomNumbers$Trace;)I" } : Jvm.MethodName) ({ cls := "RoomNumbers$Left", name := "reads", desc := "(ILRoomNumbers$Trace;)I" } : Jvm.MethodName)) ∈ tb_g := tb_c7 157 rfl rfl
theorem tw_1598 : (Jvm.Cond.castable "RoomNumbers$Debt" "RoomNumbers$Strokes") ∈ lw_tbl := tb_l7 (List.mem_of_getElem? (i := 158) rfl)
theorem tw_1599 : (Jvm.Cond.castable "RoomNumbers$Left" "RoomNumbers$Broken") ∈ lw_tbl := tb_l7 (List.mem_of_getElem? (i := 159) rfl)
theorem tw_1600 : (Jvm.Cond.castable "RoomNumbers$Strokes" "RoomNumbers$Note") ∈ lw_tbl := tb_l7 (List.mem_of_getElem? (i := 160) rfl)
theorem tw_1601 : (Jvm.Cond.castable "RoomNumbers$Broken" "RoomNumbers$Note") ∈ lw_tbl := tb_l7 (List.mem_of_getElem? (i := 161) rfl)
theorem tw_1602 : (Jvm.Cond.castable "RoomNumbers$Left" "RoomNumbers$Note") ∈ lw_tbl := tb_l7 (List.mem_of_getElem? (i := 162) rfl)
theorem tw_1603 : (Jvm.Cond.castable "RoomNumbers$Turned" "RoomNumbers$Note") ∈ lw_tbl := tb_l7 (List.mem_of_getElem? (i := 163) rfl)
theorem tw_1604 : (Jvm.Cond.castable "RoomNumbers$Debt" "RoomNumbers$Note") ∈ lw_tbl := tb_l7 (List.mem_of_getElem? (i := 164) rfl)
theorem tw_1605 : (Jvm.Cond.fieldLink "java/lang/String" (9 : Nat) "java/lang/String" "value" "[B") ∈ tb_g := tb_c7 165 rfl rfl
theorem tw_1606 : (Jvm.Cond.fieldLink "java/lang/String" (15 : Nat) "java/lang/String" "coder" "B") ∈ tb_g := tb_c7 166 rfl rfl
theorem ts_0 : Cond.selects "RoomNumbers$Teller" ⟨"RoomNumbers$Teller", "next", "()V"⟩ ⟨"RoomNumbers$Teller", "next", "()V"⟩ ∈ tb_g := tb_c0 (List.mem_of_getElem? (i := 0) rfl) rfl
theorem ts_1 : Cond.selects "RoomNumbers$Teller" ⟨"RoomNumbers$Teller", "digitsWorth", "()I"⟩ ⟨"RoomNumbers$Teller", "digitsWorth", "()I"⟩ ∈ tb_g := tb_c0 (List.mem_of_getElem? (i := 1) rfl) rfl
theorem ts_2 : Cond.selects "RoomNumbers$Teller" ⟨"RoomNumbers$Teller", "kindNamed", "()I"⟩ ⟨"RoomNumbers$Teller", "kindNamed", "()I"⟩ ∈ tb_g := tb_c0 (List.mem_of_getElem? (i := 2) rfl) rfl
theorem ts_3 : Cond.selects "RoomNumbers$Teller" ⟨"RoomNumbers$Teller", "isName", "(Ljava/lang/String;)Z"⟩ ⟨"RoomNumbers$Teller", "isName", "(Ljava/lang/String;)Z"⟩ ∈ tb_g := tb_c0 (List.mem_of_getElem? (i := 3) rfl) rfl
theorem ts_4 : Cond.selects "RoomNumbers$Teller" ⟨"RoomNumbers$Teller", "lineSortNamed", "()I"⟩ ⟨"RoomNumbers$Teller", "lineSortNamed", "()I"⟩ ∈ tb_g := tb_c0 (List.mem_of_getElem? (i := 4) rfl) rfl
theorem ts_5 : Cond.selects "RoomNumbers$Teller" ⟨"RoomNumbers$Teller", "noteTold", "(I)Z"⟩ ⟨"RoomNumbers$Teller", "noteTold", "(I)Z"⟩ ∈ tb_g := tb_c0 (List.mem_of_getElem? (i := 5) rfl) rfl
theorem ts_6 : Cond.selects "RoomNumbers$Teller" ⟨"RoomNumbers$Teller", "number", "(II)I"⟩ ⟨"RoomNumbers$Teller", "number", "(II)I"⟩ ∈ tb_g := tb_c0 (List.mem_of_getElem? (i := 6) rfl) rfl
theorem ts_7 : Cond.selects "RoomNumbers$Teller" ⟨"RoomNumbers$Teller", "takes", "(I)Z"⟩ ⟨"RoomNumbers$Teller", "takes", "(I)Z"⟩ ∈ tb_g := tb_c0 (List.mem_of_getElem? (i := 7) rfl) rfl
theorem ts_8 : Cond.selects "RoomNumbers$Teller" ⟨"RoomNumbers$Teller", "marksTold", "()I"⟩ ⟨"RoomNumbers$Teller", "marksTold", "()I"⟩ ∈ tb_g := tb_c0 (List.mem_of_getElem? (i := 8) rfl) rfl
theorem ts_9 : Cond.selects "RoomNumbers$Teller" ⟨"RoomNumbers$Teller", "lineTold", "(I)Z"⟩ ⟨"RoomNumbers$Teller", "lineTold", "(I)Z"⟩ ∈ tb_g := tb_c0 (List.mem_of_getElem? (i := 9) rfl) rfl
theorem ts_10 : Cond.selects "RoomNumbers$Teller" ⟨"RoomNumbers$Teller", "eveningTold", "()Z"⟩ ⟨"RoomNumbers$Teller", "eveningTold", "()Z"⟩ ∈ tb_g := tb_c0 (List.mem_of_getElem? (i := 10) rfl) rfl
theorem ts_11 : Cond.selects "RoomNumbers$Finder" ⟨"RoomNumbers$Finder", "refresh", "()V"⟩ ⟨"RoomNumbers$Finder", "refresh", "()V"⟩ ∈ tb_g := tb_c0 (List.mem_of_getElem? (i := 11) rfl) rfl
theorem ts_12 : Cond.selects "RoomNumbers$Finder" ⟨"RoomNumbers$Finder", "load", "()V"⟩ ⟨"RoomNumbers$Finder", "load", "()V"⟩ ∈ tb_g := tb_c0 (List.mem_of_getElem? (i := 12) rfl) rfl
theorem ts_13 : Cond.selects "RoomNumbers$Finder" ⟨"RoomNumbers$Finder", "readNote", "(LRoomNumbers$Note;)V"⟩ ⟨"RoomNumbers$Finder", "readNote", "(LRoomNumbers$Note;)V"⟩ ∈ tb_g := tb_c0 (List.mem_of_getElem? (i := 13) rfl) rfl
theorem ts_14 : Cond.selects "RoomNumbers$Finder" ⟨"RoomNumbers$Finder", "markTouched", "()V"⟩ ⟨"RoomNumbers$Finder", "markTouched", "()V"⟩ ∈ tb_g := tb_c0 (List.mem_of_getElem? (i := 14) rfl) rfl
theorem ts_15 : Cond.selects "RoomNumbers$Finder" ⟨"RoomNumbers$Finder", "limitBy", "(II)V"⟩ ⟨"RoomNumbers$Finder", "limitBy", "(II)V"⟩ ∈ tb_g := tb_c0 (List.mem_of_getElem? (i := 15) rfl) rfl
theorem ts_16 : Cond.selects "RoomNumbers$Finder" ⟨"RoomNumbers$Finder", "limitByLine", "(I)V"⟩ ⟨"RoomNumbers$Finder", "limitByLine", "(I)V"⟩ ∈ tb_g := tb_c0 (List.mem_of_getElem? (i := 16) rfl) rfl
theorem ts_17 : Cond.selects "RoomNumbers$Finder" ⟨"RoomNumbers$Finder", "basesThatHold", "(III)I"⟩ ⟨"RoomNumbers$Finder", "basesThatHold", "(III)I"⟩ ∈ tb_g := tb_c0 (List.mem_of_getElem? (i := 17) rfl) rfl
theorem ts_18 : Cond.selects "RoomNumbers$Finder" ⟨"RoomNumbers$Finder", "fill", "()V"⟩ ⟨"RoomNumbers$Finder", "fill", "()V"⟩ ∈ tb_g := tb_c0 (List.mem_of_getElem? (i := 18) rfl) rfl
theorem ts_19 : Cond.selects "RoomNumbers$Finder" ⟨"RoomNumbers$Finder", "thirdBases", "(III)I"⟩ ⟨"RoomNumbers$Finder", "thirdBases", "(III)I"⟩ ∈ tb_g := tb_c0 (List.mem_of_getElem? (i := 19) rfl) rfl
theorem ts_20 : Cond.selects "RoomNumbers$Valley" ⟨"RoomNumbers$Valley", "worthOf", "(I[I)I"⟩ ⟨"RoomNumbers$Valley", "worthOf", "(I[I)I"⟩ ∈ tb_g := tb_c0 (List.mem_of_getElem? (i := 20) rfl) rfl
theorem ts_21 : Cond.selects "RoomNumbers$Finder" ⟨"RoomNumbers$Finder", "isWorldBy", "(I)Z"⟩ ⟨"RoomNumbers$Finder", "isWorldBy", "(I)Z"⟩ ∈ tb_g := tb_c0 (List.mem_of_getElem? (i := 21) rfl) rfl
theorem ts_22 : Cond.selects "RoomNumbers$Finder" ⟨"RoomNumbers$Finder", "isWorldWithin", "(I)Z"⟩ ⟨"RoomNumbers$Finder", "isWorldWithin", "(I)Z"⟩ ∈ tb_g := tb_c0 (List.mem_of_getElem? (i := 22) rfl) rfl
theorem ts_23 : Cond.selects "RoomNumbers$Finder" ⟨"RoomNumbers$Finder", "mendsBy", "(I)Z"⟩ ⟨"RoomNumbers$Finder", "mendsBy", "(I)Z"⟩ ∈ tb_g := tb_c0 (List.mem_of_getElem? (i := 23) rfl) rfl
theorem ts_24 : Cond.selects "RoomNumbers$Finder" ⟨"RoomNumbers$Finder", "fitsAgain", "(LRoomNumbers$Note;)Z"⟩ ⟨"RoomNumbers$Finder", "fitsAgain", "(LRoomNumbers$Note;)Z"⟩ ∈ tb_g := tb_c0 (List.mem_of_getElem? (i := 24) rfl) rfl
theorem ts_25 : Cond.selects "RoomNumbers$Finder" ⟨"RoomNumbers$Finder", "keepMend", "(III)V"⟩ ⟨"RoomNumbers$Finder", "keepMend", "(III)V"⟩ ∈ tb_g := tb_c0 (List.mem_of_getElem? (i := 25) rfl) rfl
theorem ts_26 : Cond.selects "RoomNumbers" ⟨"RoomNumbers", "hasRow", "(II)Z"⟩ ⟨"RoomNumbers", "hasRow", "(II)Z"⟩ ∈ tb_g := tb_c0 (List.mem_of_getElem? (i := 26) rfl) rfl
theorem ts_27 : Cond.selects "RoomNumbers" ⟨"RoomNumbers", "isRightRow", "(I)Z"⟩ ⟨"RoomNumbers", "isRightRow", "(I)Z"⟩ ∈ tb_g := tb_c0 (List.mem_of_getElem? (i := 27) rfl) rfl
theorem ts_28 : Cond.selects "RoomNumbers" ⟨"RoomNumbers", "noteOn", "(I)LRoomNumbers$Note;"⟩ ⟨"RoomNumbers", "noteOn", "(I)LRoomNumbers$Note;"⟩ ∈ tb_g := tb_c0 (List.mem_of_getElem? (i := 28) rfl) rfl
theorem ts_29 : Cond.selects "RoomNumbersModel" ⟨"RoomNumbersModel", "clears", "()V"⟩ ⟨"RoomNumbersModel", "clears", "()V"⟩ ∈ tb_g := tb_c0 (List.mem_of_getElem? (i := 29) rfl) rfl
theorem ts_30 : Cond.selects "RoomNumbersModel" ⟨"RoomNumbersModel", "takesAll", "()Z"⟩ ⟨"RoomNumbersModel", "takesAll", "()Z"⟩ ∈ tb_g := tb_c0 (List.mem_of_getElem? (i := 30) rfl) rfl
theorem ts_31 : Cond.selects "RoomNumbersModel" ⟨"RoomNumbersModel", "next", "()V"⟩ ⟨"RoomNumbersModel", "next", "()V"⟩ ∈ tb_g := tb_c0 (List.mem_of_getElem? (i := 31) rfl) rfl
theorem ts_32 : Cond.selects "RoomNumbersModel" ⟨"RoomNumbersModel", "byteAt", "(I)I"⟩ ⟨"RoomNumbersModel", "byteAt", "(I)I"⟩ ∈ tb_g := tb_c0 (List.mem_of_getElem? (i := 32) rfl) rfl
theorem ts_33 : Cond.selects "RoomNumbersModel" ⟨"RoomNumbersModel", "kindNamed", "()I"⟩ ⟨"RoomNumbersModel", "kindNamed", "()I"⟩ ∈ tb_g := tb_c0 (List.mem_of_getElem? (i := 33) rfl) rfl
theorem ts_34 : Cond.selects "RoomNumbersModel" ⟨"RoomNumbersModel", "isName", "(Ljava/lang/String;)Z"⟩ ⟨"RoomNumbersModel", "isName", "(Ljava/lang/String;)Z"⟩ ∈ tb_g := tb_c0 (List.mem_of_getElem? (i := 34) rfl) rfl
theorem ts_35 : Cond.selects "RoomNumbersModel" ⟨"RoomNumbersModel", "takesNote", "(I)Z"⟩ ⟨"RoomNumbersModel", "takesNote", "(I)Z"⟩ ∈ tb_g := tb_c0 (List.mem_of_getElem? (i := 35) rfl) rfl
theorem ts_36 : Cond.selects "RoomNumbersModel" ⟨"RoomNumbersModel", "takesNumber", "(II)Z"⟩ ⟨"RoomNumbersModel", "takesNumber", "(II)Z"⟩ ∈ tb_g := tb_c0 (List.mem_of_getElem? (i := 36) rfl) rfl
theorem ts_37 : Cond.selects "RoomNumbersModel" ⟨"RoomNumbersModel", "takesByte", "(I)Z"⟩ ⟨"RoomNumbersModel", "takesByte", "(I)Z"⟩ ∈ tb_g := tb_c0 (List.mem_of_getElem? (i := 37) rfl) rfl
theorem ts_38 : Cond.selects "RoomNumbersModel" ⟨"RoomNumbersModel", "takesLine", "(I)Z"⟩ ⟨"RoomNumbersModel", "takesLine", "(I)Z"⟩ ∈ tb_g := tb_c0 (List.mem_of_getElem? (i := 38) rfl) rfl
theorem ts_39 : Cond.selects "RoomNumbersModel" ⟨"RoomNumbersModel", "takesEvening", "()Z"⟩ ⟨"RoomNumbersModel", "takesEvening", "()Z"⟩ ∈ tb_g := tb_c0 (List.mem_of_getElem? (i := 39) rfl) rfl
theorem ts_40 : Cond.selects "RoomNumbersModel" ⟨"RoomNumbersModel", "its", "(II)I"⟩ ⟨"RoomNumbersModel", "its", "(II)I"⟩ ∈ tb_g := tb_c0 (List.mem_of_getElem? (i := 40) rfl) rfl
theorem ts_41 : Cond.selects "RoomNumbersModel" ⟨"RoomNumbersModel", "isNote", "(I)Z"⟩ ⟨"RoomNumbersModel", "isNote", "(I)Z"⟩ ∈ tb_g := tb_c0 (List.mem_of_getElem? (i := 41) rfl) rfl
theorem ts_42 : Cond.selects "RoomNumbersModel" ⟨"RoomNumbersModel", "isPlace", "(II)Z"⟩ ⟨"RoomNumbersModel", "isPlace", "(II)Z"⟩ ∈ tb_g := tb_c0 (List.mem_of_getElem? (i := 42) rfl) rfl
theorem ts_43 : Cond.selects "RoomNumbersModel" ⟨"RoomNumbersModel", "worthBy", "(II)J"⟩ ⟨"RoomNumbersModel", "worthBy", "(II)J"⟩ ∈ tb_g := tb_c0 (List.mem_of_getElem? (i := 43) rfl) rfl
theorem ts_44 : Cond.selects "RoomNumbersModel" ⟨"RoomNumbersModel", "baseAt", "(III)I"⟩ ⟨"RoomNumbersModel", "baseAt", "(III)I"⟩ ∈ tb_g := tb_c0 (List.mem_of_getElem? (i := 44) rfl) rfl
theorem ts_45 : Cond.selects "RoomNumbersModel" ⟨"RoomNumbersModel", "canBe", "(II)Z"⟩ ⟨"RoomNumbersModel", "canBe", "(II)Z"⟩ ∈ tb_g := tb_c0 (List.mem_of_getElem? (i := 45) rfl) rfl
theorem ts_46 : Cond.selects "RoomNumbersModel" ⟨"RoomNumbersModel", "isLine", "(I)Z"⟩ ⟨"RoomNumbersModel", "isLine", "(I)Z"⟩ ∈ tb_g := tb_c0 (List.mem_of_getElem? (i := 46) rfl) rfl
theorem ts_47 : Cond.selects "RoomNumbersModel" ⟨"RoomNumbersModel", "of", "(II)I"⟩ ⟨"RoomNumbersModel", "of", "(II)I"⟩ ∈ tb_g := tb_c0 (List.mem_of_getElem? (i := 47) rfl) rfl
theorem ts_48 : Cond.selects "RoomNumbersModel" ⟨"RoomNumbersModel", "findWorlds", "(II)I"⟩ ⟨"RoomNumbersModel", "findWorlds", "(II)I"⟩ ∈ tb_g := tb_c0 (List.mem_of_getElem? (i := 48) rfl) rfl
theorem ts_49 : Cond.selects "RoomNumbersModel" ⟨"RoomNumbersModel", "may1", "(I)I"⟩ ⟨"RoomNumbersModel", "may1", "(I)I"⟩ ∈ tb_g := tb_c0 (List.mem_of_getElem? (i := 49) rfl) rfl
theorem ts_50 : Cond.selects "RoomNumbersModel" ⟨"RoomNumbersModel", "holdAll", "(I)Z"⟩ ⟨"RoomNumbersModel", "holdAll", "(I)Z"⟩ ∈ tb_g := tb_c0 (List.mem_of_getElem? (i := 50) rfl) rfl
theorem ts_51 : Cond.selects "RoomNumbersModel" ⟨"RoomNumbersModel", "holdsNow", "(I)Z"⟩ ⟨"RoomNumbersModel", "holdsNow", "(I)Z"⟩ ∈ tb_g := tb_c0 (List.mem_of_getElem? (i := 51) rfl) rfl
theorem ts_52 : Cond.selects "RoomNumbersModel" ⟨"RoomNumbersModel", "worthNow", "(I)J"⟩ ⟨"RoomNumbersModel", "worthNow", "(I)J"⟩ ∈ tb_g := tb_c0 (List.mem_of_getElem? (i := 52) rfl) rfl
theorem ts_53 : Cond.selects "RoomNumbersModel" ⟨"RoomNumbersModel", "findWorld", "(I)Z"⟩ ⟨"RoomNumbersModel", "findWorld", "(I)Z"⟩ ∈ tb_g := tb_c0 (List.mem_of_getElem? (i := 53) rfl) rfl
theorem ts_54 : Cond.selects "RoomNumbersModel" ⟨"RoomNumbersModel", "hasWorld", "(I)Z"⟩ ⟨"RoomNumbersModel", "hasWorld", "(I)Z"⟩ ∈ tb_g := tb_c0 (List.mem_of_getElem? (i := 54) rfl) rfl
theorem ts_55 : Cond.selects "RoomNumbersModel" ⟨"RoomNumbersModel", "fromEnd", "(II)I"⟩ ⟨"RoomNumbersModel", "fromEnd", "(II)I"⟩ ∈ tb_g := tb_c0 (List.mem_of_getElem? (i := 55) rfl) rfl
theorem ts_56 : Cond.selects "RoomNumbersModel" ⟨"RoomNumbersModel", "isRow", "(II)Z"⟩ ⟨"RoomNumbersModel", "isRow", "(II)Z"⟩ ∈ tb_g := tb_c0 (List.mem_of_getElem? (i := 56) rfl) rfl
theorem ts_57 : Cond.selects "RoomNumbersModel" ⟨"RoomNumbersModel", "isRight", "(I)Z"⟩ ⟨"RoomNumbersModel", "isRight", "(I)Z"⟩ ∈ tb_g := tb_c0 (List.mem_of_getElem? (i := 57) rfl) rfl
theorem ts_58 : Cond.selects "RoomNumbersModel" ⟨"RoomNumbersModel", "isEmpty", "(I)Z"⟩ ⟨"RoomNumbersModel", "isEmpty", "(I)Z"⟩ ∈ tb_g := tb_c0 (List.mem_of_getElem? (i := 58) rfl) rfl
theorem ts_59 : Cond.selects "RoomNumbersModel" ⟨"RoomNumbersModel", "kindNow", "()I"⟩ ⟨"RoomNumbersModel", "kindNow", "()I"⟩ ∈ tb_g := tb_c0 (List.mem_of_getElem? (i := 59) rfl) rfl
theorem ts_60 : Cond.selects "RoomNumbersModel" ⟨"RoomNumbersModel", "reads", "(II)I"⟩ ⟨"RoomNumbersModel", "reads", "(II)I"⟩ ∈ tb_g := tb_c0 (List.mem_of_getElem? (i := 60) rfl) rfl
theorem ts_61 : Cond.selects "RoomNumbersModel" ⟨"RoomNumbersModel", "ran", "(I)V"⟩ ⟨"RoomNumbersModel", "ran", "(I)V"⟩ ∈ tb_g := tb_c0 (List.mem_of_getElem? (i := 61) rfl) rfl
theorem ts_62 : Cond.selects "RoomNumbersModel" ⟨"RoomNumbersModel", "writes", "(II)I"⟩ ⟨"RoomNumbersModel", "writes", "(II)I"⟩ ∈ tb_g := tb_c0 (List.mem_of_getElem? (i := 62) rfl) rfl
theorem ts_63 : Cond.selects "RoomNumbersModel" ⟨"RoomNumbersModel", "shares", "(II)I"⟩ ⟨"RoomNumbersModel", "shares", "(II)I"⟩ ∈ tb_g := tb_c0 (List.mem_of_getElem? (i := 63) rfl) rfl
theorem ts_64 : Cond.selects "RoomNumbersModel" ⟨"RoomNumbersModel", "tells", "(II)I"⟩ ⟨"RoomNumbersModel", "tells", "(II)I"⟩ ∈ tb_g := tb_c0 (List.mem_of_getElem? (i := 64) rfl) rfl
