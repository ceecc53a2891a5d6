-- ===== PART A: goes FIRST, ahead of the names: the tables' words, and 'selects' of the private methods out of them =====
/-- a private method of a class that the tables say can be made, by its rows of tables_1 -/
def lw_okq (q : MethodName × Nat) : Prop := (q.1.cls ≠ "java/lang/invoke/MethodHandle" ∧ q.1.cls ≠ "java/lang/invoke/VarHandle") ∧ Cond.instantiable q.1.cls q.2 ∈ tables_1 ∧ Cond.privateMethod q.1 ∈ tables_1 ∧ Cond.instanceMethod q.1 ∈ tables_1
theorem lw_p0 : lw_okq (⟨"RoomNumbers$Teller", "next", "()V"⟩, 8) := ⟨⟨by decide +kernel, by decide +kernel⟩, List.mem_of_getElem? (i := 139) (by decide +kernel), List.mem_of_getElem? (i := 281) (by decide +kernel), List.mem_of_getElem? (i := 282) (by decide +kernel)⟩
theorem lw_p1 : lw_okq (⟨"RoomNumbers$Teller", "digitsWorth", "()I"⟩, 8) := ⟨⟨by decide +kernel, by decide +kernel⟩, List.mem_of_getElem? (i := 139) (by decide +kernel), List.mem_of_getElem? (i := 291) (by decide +kernel), List.mem_of_getElem? (i := 292) (by decide +kernel)⟩
theorem lw_p2 : lw_okq (⟨"RoomNumbers$Teller", "kindNamed", "()I"⟩, 8) := ⟨⟨by decide +kernel, by decide +kernel⟩, List.mem_of_getElem? (i := 139) (by decide +kernel), List.mem_of_getElem? (i := 295) (by decide +kernel), List.mem_of_getElem? (i := 296) (by decide +kernel)⟩
theorem lw_p3 : lw_okq (⟨"RoomNumbers$Teller", "isName", "(Ljava/lang/String;)Z"⟩, 8) := ⟨⟨by decide +kernel, by decide +kernel⟩, List.mem_of_getElem? (i := 139) (by decide +kernel), List.mem_of_getElem? (i := 300) (by decide +kernel), List.mem_of_getElem? (i := 301) (by decide +kernel)⟩
theorem lw_p4 : lw_okq (⟨"RoomNumbers$Teller", "lineSortNamed", "()I"⟩, 8) := ⟨⟨by decide +kernel, by decide +kernel⟩, List.mem_of_getElem? (i := 139) (by decide +kernel), List.mem_of_getElem? (i := 357) (by decide +kernel), List.mem_of_getElem? (i := 358) (by decide +kernel)⟩
theorem lw_p5 : lw_okq (⟨"RoomNumbers$Teller", "noteTold", "(I)Z"⟩, 8) := ⟨⟨by decide +kernel, by decide +kernel⟩, List.mem_of_getElem? (i := 139) (by decide +kernel), List.mem_of_getElem? (i := 365) (by decide +kernel), List.mem_of_getElem? (i := 366) (by decide +kernel)⟩
theorem lw_p6 : lw_okq (⟨"RoomNumbers$Teller", "number", "(II)I"⟩, 8) := ⟨⟨by decide +kernel, by decide +kernel⟩, List.mem_of_getElem? (i := 139) (by decide +kernel), List.mem_of_getElem? (i := 369) (by decide +kernel), List.mem_of_getElem? (i := 370) (by decide +kernel)⟩
theorem lw_p7 : lw_okq (⟨"RoomNumbers$Teller", "takes", "(I)Z"⟩, 8) := ⟨⟨by decide +kernel, by decide +kernel⟩, List.mem_of_getElem? (i := 139) (by decide +kernel), List.mem_of_getElem? (i := 374) (by decide +kernel), List.mem_of_getElem? (i := 375) (by decide +kernel)⟩
theorem lw_p8 : lw_okq (⟨"RoomNumbers$Teller", "marksTold", "()I"⟩, 8) := ⟨⟨by decide +kernel, by decide +kernel⟩, List.mem_of_getElem? (i := 139) (by decide +kernel), List.mem_of_getElem? (i := 378) (by decide +kernel), List.mem_of_getElem? (i := 379) (by decide +kernel)⟩
theorem lw_p9 : lw_okq (⟨"RoomNumbers$Teller", "lineTold", "(I)Z"⟩, 8) := ⟨⟨by decide +kernel, by decide +kernel⟩, List.mem_of_getElem? (i := 139) (by decide +kernel), List.mem_of_getElem? (i := 491) (by decide +kernel), List.mem_of_getElem? (i := 492) (by decide +kernel)⟩
theorem lw_p10 : lw_okq (⟨"RoomNumbers$Teller", "eveningTold", "()Z"⟩, 8) := ⟨⟨by decide +kernel, by decide +kernel⟩, List.mem_of_getElem? (i := 139) (by decide +kernel), List.mem_of_getElem? (i := 500) (by decide +kernel), List.mem_of_getElem? (i := 501) (by decide +kernel)⟩
theorem lw_p11 : lw_okq (⟨"RoomNumbers$Finder", "refresh", "()V"⟩, 16) := ⟨⟨by decide +kernel, by decide +kernel⟩, List.mem_of_getElem? (i := 31) (by decide +kernel), List.mem_of_getElem? (i := 696) (by decide +kernel), List.mem_of_getElem? (i := 697) (by decide +kernel)⟩
theorem lw_p12 : lw_okq (⟨"RoomNumbers$Finder", "load", "()V"⟩, 16) := ⟨⟨by decide +kernel, by decide +kernel⟩, List.mem_of_getElem? (i := 31) (by decide +kernel), List.mem_of_getElem? (i := 700) (by decide +kernel), List.mem_of_getElem? (i := 701) (by decide +kernel)⟩
theorem lw_p13 : lw_okq (⟨"RoomNumbers$Finder", "readNote", "(LRoomNumbers$Note;)V"⟩, 16) := ⟨⟨by decide +kernel, by decide +kernel⟩, List.mem_of_getElem? (i := 31) (by decide +kernel), List.mem_of_getElem? (i := 705) (by decide +kernel), List.mem_of_getElem? (i := 706) (by decide +kernel)⟩
theorem lw_p14 : lw_okq (⟨"RoomNumbers$Finder", "markTouched", "()V"⟩, 16) := ⟨⟨by decide +kernel, by decide +kernel⟩, List.mem_of_getElem? (i := 31) (by decide +kernel), List.mem_of_getElem? (i := 711) (by decide +kernel), List.mem_of_getElem? (i := 712) (by decide +kernel)⟩
theorem lw_p15 : lw_okq (⟨"RoomNumbers$Finder", "limitBy", "(II)V"⟩, 16) := ⟨⟨by decide +kernel, by decide +kernel⟩, List.mem_of_getElem? (i := 31) (by decide +kernel), List.mem_of_getElem? (i := 719) (by decide +kernel), List.mem_of_getElem? (i := 720) (by decide +kernel)⟩
def lw_privs_1 : List (MethodName × Nat) := [(⟨"RoomNumbers$Teller", "next", "()V"⟩, 8), (⟨"RoomNumbers$Teller", "digitsWorth", "()I"⟩, 8), (⟨"RoomNumbers$Teller", "kindNamed", "()I"⟩, 8), (⟨"RoomNumbers$Teller", "isName", "(Ljava/lang/String;)Z"⟩, 8), (⟨"RoomNumbers$Teller", "lineSortNamed", "()I"⟩, 8), (⟨"RoomNumbers$Teller", "noteTold", "(I)Z"⟩, 8), (⟨"RoomNumbers$Teller", "number", "(II)I"⟩, 8), (⟨"RoomNumbers$Teller", "takes", "(I)Z"⟩, 8), (⟨"RoomNumbers$Teller", "marksTold", "()I"⟩, 8), (⟨"RoomNumbers$Teller", "lineTold", "(I)Z"⟩, 8), (⟨"RoomNumbers$Teller", "eveningTold", "()Z"⟩, 8), (⟨"RoomNumbers$Finder", "refresh", "()V"⟩, 16), (⟨"RoomNumbers$Finder", "load", "()V"⟩, 16), (⟨"RoomNumbers$Finder", "readNote", "(LRoomNumbers$Note;)V"⟩, 16), (⟨"RoomNumbers$Finder", "markTouched", "()V"⟩, 16), (⟨"RoomNumbers$Finder", "limitBy", "(II)V"⟩, 16)]
theorem lw_r1 : ∀ q ∈ lw_privs_1, lw_okq q := List.forall_mem_cons.mpr ⟨lw_p0, List.forall_mem_cons.mpr ⟨lw_p1, List.forall_mem_cons.mpr ⟨lw_p2, List.forall_mem_cons.mpr ⟨lw_p3, List.forall_mem_cons.mpr ⟨lw_p4, List.forall_mem_cons.mpr ⟨lw_p5, List.forall_mem_cons.mpr ⟨lw_p6, List.forall_mem_cons.mpr ⟨lw_p7, List.forall_mem_cons.mpr ⟨lw_p8, List.forall_mem_cons.mpr ⟨lw_p9, List.forall_mem_cons.mpr ⟨lw_p10, List.forall_mem_cons.mpr ⟨lw_p11, List.forall_mem_cons.mpr ⟨lw_p12, List.forall_mem_cons.mpr ⟨lw_p13, List.forall_mem_cons.mpr ⟨lw_p14, List.forall_mem_cons.mpr ⟨lw_p15, fun _ h => absurd h List.not_mem_nil⟩⟩⟩⟩⟩⟩⟩⟩⟩⟩⟩⟩⟩⟩⟩⟩
theorem lw_p16 : lw_okq (⟨"RoomNumbers$Finder", "limitByLine", "(I)V"⟩, 16) := ⟨⟨by decide +kernel, by decide +kernel⟩, List.mem_of_getElem? (i := 31) (by decide +kernel), List.mem_of_getElem? (i := 729) (by decide +kernel), List.mem_of_getElem? (i := 730) (by decide +kernel)⟩
theorem lw_p17 : lw_okq (⟨"RoomNumbers$Finder", "basesThatHold", "(III)I"⟩, 16) := ⟨⟨by decide +kernel, by decide +kernel⟩, List.mem_of_getElem? (i := 31) (by decide +kernel), List.mem_of_getElem? (i := 737) (by decide +kernel), List.mem_of_getElem? (i := 738) (by decide +kernel)⟩
theorem lw_p18 : lw_okq (⟨"RoomNumbers$Finder", "fill", "()V"⟩, 16) := ⟨⟨by decide +kernel, by decide +kernel⟩, List.mem_of_getElem? (i := 31) (by decide +kernel), List.mem_of_getElem? (i := 744) (by decide +kernel), List.mem_of_getElem? (i := 745) (by decide +kernel)⟩
theorem lw_p19 : lw_okq (⟨"RoomNumbers$Finder", "thirdBases", "(III)I"⟩, 16) := ⟨⟨by decide +kernel, by decide +kernel⟩, List.mem_of_getElem? (i := 31) (by decide +kernel), List.mem_of_getElem? (i := 748) (by decide +kernel), List.mem_of_getElem? (i := 749) (by decide +kernel)⟩
theorem lw_p20 : lw_okq (⟨"RoomNumbers$Valley", "worthOf", "(I[I)I"⟩, 7) := ⟨⟨by decide +kernel, by decide +kernel⟩, List.mem_of_getElem? (i := 37) (by decide +kernel), List.mem_of_getElem? (i := 791) (by decide +kernel), List.mem_of_getElem? (i := 792) (by decide +kernel)⟩
theorem lw_p21 : lw_okq (⟨"RoomNumbers$Finder", "isWorldBy", "(I)Z"⟩, 16) := ⟨⟨by decide +kernel, by decide +kernel⟩, List.mem_of_getElem? (i := 31) (by decide +kernel), List.mem_of_getElem? (i := 805) (by decide +kernel), List.mem_of_getElem? (i := 806) (by decide +kernel)⟩
theorem lw_p22 : lw_okq (⟨"RoomNumbers$Finder", "isWorldWithin", "(I)Z"⟩, 16) := ⟨⟨by decide +kernel, by decide +kernel⟩, List.mem_of_getElem? (i := 31) (by decide +kernel), List.mem_of_getElem? (i := 809) (by decide +kernel), List.mem_of_getElem? (i := 810) (by decide +kernel)⟩
theorem lw_p23 : lw_okq (⟨"RoomNumbers$Finder", "mendsBy", "(I)Z"⟩, 16) := ⟨⟨by decide +kernel, by decide +kernel⟩, List.mem_of_getElem? (i := 31) (by decide +kernel), List.mem_of_getElem? (i := 821) (by decide +kernel), List.mem_of_getElem? (i := 822) (by decide +kernel)⟩
theorem lw_p24 : lw_okq (⟨"RoomNumbers$Finder", "fitsAgain", "(LRoomNumbers$Note;)Z"⟩, 16) := ⟨⟨by decide +kernel, by decide +kernel⟩, List.mem_of_getElem? (i := 31) (by decide +kernel), List.mem_of_getElem? (i := 830) (by decide +kernel), List.mem_of_getElem? (i := 831) (by decide +kernel)⟩
theorem lw_p25 : lw_okq (⟨"RoomNumbers$Finder", "keepMend", "(III)V"⟩, 16) := ⟨⟨by decide +kernel, by decide +kernel⟩, List.mem_of_getElem? (i := 31) (by decide +kernel), List.mem_of_getElem? (i := 834) (by decide +kernel), List.mem_of_getElem? (i := 835) (by decide +kernel)⟩
theorem lw_p26 : lw_okq (⟨"RoomNumbers", "hasRow", "(II)Z"⟩, 17) := ⟨⟨by decide +kernel, by decide +kernel⟩, List.mem_of_getElem? (i := 23) (by decide +kernel), List.mem_of_getElem? (i := 904) (by decide +kernel), List.mem_of_getElem? (i := 905) (by decide +kernel)⟩
theorem lw_p27 : lw_okq (⟨"RoomNumbers", "isRightRow", "(I)Z"⟩, 17) := ⟨⟨by decide +kernel, by decide +kernel⟩, List.mem_of_getElem? (i := 23) (by decide +kernel), List.mem_of_getElem? (i := 916) (by decide +kernel), List.mem_of_getElem? (i := 917) (by decide +kernel)⟩
theorem lw_p28 : lw_okq (⟨"RoomNumbers", "noteOn", "(I)LRoomNumbers$Note;"⟩, 17) := ⟨⟨by decide +kernel, by decide +kernel⟩, List.mem_of_getElem? (i := 23) (by decide +kernel), List.mem_of_getElem? (i := 977) (by decide +kernel), List.mem_of_getElem? (i := 978) (by decide +kernel)⟩
theorem lw_p29 : lw_okq (⟨"RoomNumbersModel", "clears", "()V"⟩, 25) := ⟨⟨by decide +kernel, by decide +kernel⟩, List.mem_of_getElem? (i := 1117) (by decide +kernel), List.mem_of_getElem? (i := 1123) (by decide +kernel), List.mem_of_getElem? (i := 1124) (by decide +kernel)⟩
theorem lw_p30 : lw_okq (⟨"RoomNumbersModel", "takesAll", "()Z"⟩, 25) := ⟨⟨by decide +kernel, by decide +kernel⟩, List.mem_of_getElem? (i := 1117) (by decide +kernel), List.mem_of_getElem? (i := 1218) (by decide +kernel), List.mem_of_getElem? (i := 1219) (by decide +kernel)⟩
theorem lw_p31 : lw_okq (⟨"RoomNumbersModel", "next", "()V"⟩, 25) := ⟨⟨by decide +kernel, by decide +kernel⟩, List.mem_of_getElem? (i := 1117) (by decide +kernel), List.mem_of_getElem? (i := 1222) (by decide +kernel), List.mem_of_getElem? (i := 1223) (by decide +kernel)⟩
def lw_privs_2 : List (MethodName × Nat) := [(⟨"RoomNumbers$Finder", "limitByLine", "(I)V"⟩, 16), (⟨"RoomNumbers$Finder", "basesThatHold", "(III)I"⟩, 16), (⟨"RoomNumbers$Finder", "fill", "()V"⟩, 16), (⟨"RoomNumbers$Finder", "thirdBases", "(III)I"⟩, 16), (⟨"RoomNumbers$Valley", "worthOf", "(I[I)I"⟩, 7), (⟨"RoomNumbers$Finder", "isWorldBy", "(I)Z"⟩, 16), (⟨"RoomNumbers$Finder", "isWorldWithin", "(I)Z"⟩, 16), (⟨"RoomNumbers$Finder", "mendsBy", "(I)Z"⟩, 16), (⟨"RoomNumbers$Finder", "fitsAgain", "(LRoomNumbers$Note;)Z"⟩, 16), (⟨"RoomNumbers$Finder", "keepMend", "(III)V"⟩, 16), (⟨"RoomNumbers", "hasRow", "(II)Z"⟩, 17), (⟨"RoomNumbers", "isRightRow", "(I)Z"⟩, 17), (⟨"RoomNumbers", "noteOn", "(I)LRoomNumbers$Note;"⟩, 17), (⟨"RoomNumbersModel", "clears", "()V"⟩, 25), (⟨"RoomNumbersModel", "takesAll", "()Z"⟩, 25), (⟨"RoomNumbersModel", "next", "()V"⟩, 25)]
theorem lw_r2 : ∀ q ∈ lw_privs_2, lw_okq q := List.forall_mem_cons.mpr ⟨lw_p16, List.forall_mem_cons.mpr ⟨lw_p17, List.forall_mem_cons.mpr ⟨lw_p18, List.forall_mem_cons.mpr ⟨lw_p19, List.forall_mem_cons.mpr ⟨lw_p20, List.forall_mem_cons.mpr ⟨lw_p21, List.forall_mem_cons.mpr ⟨lw_p22, List.forall_mem_cons.mpr ⟨lw_p23, List.forall_mem_cons.mpr ⟨lw_p24, List.forall_mem_cons.mpr ⟨lw_p25, List.forall_mem_cons.mpr ⟨lw_p26, List.forall_mem_cons.mpr ⟨lw_p27, List.forall_mem_cons.mpr ⟨lw_p28, List.forall_mem_cons.mpr ⟨lw_p29, List.forall_mem_cons.mpr ⟨lw_p30, List.forall_mem_cons.mpr ⟨lw_p31, fun _ h => absurd h List.not_mem_nil⟩⟩⟩⟩⟩⟩⟩⟩⟩⟩⟩⟩⟩⟩⟩⟩
theorem lw_p32 : lw_okq (⟨"RoomNumbersModel", "byteAt", "(I)I"⟩, 25) := ⟨⟨by decide +kernel, by decide +kernel⟩, List.mem_of_getElem? (i := 1117) (by decide +kernel), List.mem_of_getElem? (i := 1226) (by decide +kernel), List.mem_of_getElem? (i := 1227) (by decide +kernel)⟩
theorem lw_p33 : lw_okq (⟨"RoomNumbersModel", "kindNamed", "()I"⟩, 25) := ⟨⟨by decide +kernel, by decide +kernel⟩, List.mem_of_getElem? (i := 1117) (by decide +kernel), List.mem_of_getElem? (i := 1230) (by decide +kernel), List.mem_of_getElem? (i := 1231) (by decide +kernel)⟩
theorem lw_p34 : lw_okq (⟨"RoomNumbersModel", "isName", "(Ljava/lang/String;)Z"⟩, 25) := ⟨⟨by decide +kernel, by decide +kernel⟩, List.mem_of_getElem? (i := 1117) (by decide +kernel), List.mem_of_getElem? (i := 1235) (by decide +kernel), List.mem_of_getElem? (i := 1236) (by decide +kernel)⟩
theorem lw_p35 : lw_okq (⟨"RoomNumbersModel", "takesNote", "(I)Z"⟩, 25) := ⟨⟨by decide +kernel, by decide +kernel⟩, List.mem_of_getElem? (i := 1117) (by decide +kernel), List.mem_of_getElem? (i := 1250) (by decide +kernel), List.mem_of_getElem? (i := 1251) (by decide +kernel)⟩
theorem lw_p36 : lw_okq (⟨"RoomNumbersModel", "takesNumber", "(II)Z"⟩, 25) := ⟨⟨by decide +kernel, by decide +kernel⟩, List.mem_of_getElem? (i := 1117) (by decide +kernel), List.mem_of_getElem? (i := 1254) (by decide +kernel), List.mem_of_getElem? (i := 1255) (by decide +kernel)⟩
theorem lw_p37 : lw_okq (⟨"RoomNumbersModel", "takesByte", "(I)Z"⟩, 25) := ⟨⟨by decide +kernel, by decide +kernel⟩, List.mem_of_getElem? (i := 1117) (by decide +kernel), List.mem_of_getElem? (i := 1259) (by decide +kernel), List.mem_of_getElem? (i := 1260) (by decide +kernel)⟩
theorem lw_p38 : lw_okq (⟨"RoomNumbersModel", "takesLine", "(I)Z"⟩, 25) := ⟨⟨by decide +kernel, by decide +kernel⟩, List.mem_of_getElem? (i := 1117) (by decide +kernel), List.mem_of_getElem? (i := 1263) (by decide +kernel), List.mem_of_getElem? (i := 1264) (by decide +kernel)⟩
theorem lw_p39 : lw_okq (⟨"RoomNumbersModel", "takesEvening", "()Z"⟩, 25) := ⟨⟨by decide +kernel, by decide +kernel⟩, List.mem_of_getElem? (i := 1117) (by decide +kernel), List.mem_of_getElem? (i := 1268) (by decide +kernel), List.mem_of_getElem? (i := 1269) (by decide +kernel)⟩
theorem lw_p40 : lw_okq (⟨"RoomNumbersModel", "its", "(II)I"⟩, 25) := ⟨⟨by decide +kernel, by decide +kernel⟩, List.mem_of_getElem? (i := 1117) (by decide +kernel), List.mem_of_getElem? (i := 1286) (by decide +kernel), List.mem_of_getElem? (i := 1287) (by decide +kernel)⟩
theorem lw_p41 : lw_okq (⟨"RoomNumbersModel", "isNote", "(I)Z"⟩, 25) := ⟨⟨by decide +kernel, by decide +kernel⟩, List.mem_of_getElem? (i := 1117) (by decide +kernel), List.mem_of_getElem? (i := 1298) (by decide +kernel), List.mem_of_getElem? (i := 1299) (by decide +kernel)⟩
theorem lw_p42 : lw_okq (⟨"RoomNumbersModel", "isPlace", "(II)Z"⟩, 25) := ⟨⟨by decide +kernel, by decide +kernel⟩, List.mem_of_getElem? (i := 1117) (by decide +kernel), List.mem_of_getElem? (i := 1306) (by decide +kernel), List.mem_of_getElem? (i := 1307) (by decide +kernel)⟩
theorem lw_p43 : lw_okq (⟨"RoomNumbersModel", "worthBy", "(II)J"⟩, 25) := ⟨⟨by decide +kernel, by decide +kernel⟩, List.mem_of_getElem? (i := 1117) (by decide +kernel), List.mem_of_getElem? (i := 1318) (by decide +kernel), List.mem_of_getElem? (i := 1319) (by decide +kernel)⟩
theorem lw_p44 : lw_okq (⟨"RoomNumbersModel", "baseAt", "(III)I"⟩, 25) := ⟨⟨by decide +kernel, by decide +kernel⟩, List.mem_of_getElem? (i := 1117) (by decide +kernel), List.mem_of_getElem? (i := 1322) (by decide +kernel), List.mem_of_getElem? (i := 1323) (by decide +kernel)⟩
theorem lw_p45 : lw_okq (⟨"RoomNumbersModel", "canBe", "(II)Z"⟩, 25) := ⟨⟨by decide +kernel, by decide +kernel⟩, List.mem_of_getElem? (i := 1117) (by decide +kernel), List.mem_of_getElem? (i := 1331) (by decide +kernel), List.mem_of_getElem? (i := 1332) (by decide +kernel)⟩
theorem lw_p46 : lw_okq (⟨"RoomNumbersModel", "isLine", "(I)Z"⟩, 25) := ⟨⟨by decide +kernel, by decide +kernel⟩, List.mem_of_getElem? (i := 1117) (by decide +kernel), List.mem_of_getElem? (i := 1343) (by decide +kernel), List.mem_of_getElem? (i := 1344) (by decide +kernel)⟩
theorem lw_p47 : lw_okq (⟨"RoomNumbersModel", "of", "(II)I"⟩, 25) := ⟨⟨by decide +kernel, by decide +kernel⟩, List.mem_of_getElem? (i := 1117) (by decide +kernel), List.mem_of_getElem? (i := 1347) (by decide +kernel), List.mem_of_getElem? (i := 1348) (by decide +kernel)⟩
def lw_privs_3 : List (MethodName × Nat) := [(⟨"RoomNumbersModel", "byteAt", "(I)I"⟩, 25), (⟨"RoomNumbersModel", "kindNamed", "()I"⟩, 25), (⟨"RoomNumbersModel", "isName", "(Ljava/lang/String;)Z"⟩, 25), (⟨"RoomNumbersModel", "takesNote", "(I)Z"⟩, 25), (⟨"RoomNumbersModel", "takesNumber", "(II)Z"⟩, 25), (⟨"RoomNumbersModel", "takesByte", "(I)Z"⟩, 25), (⟨"RoomNumbersModel", "takesLine", "(I)Z"⟩, 25), (⟨"RoomNumbersModel", "takesEvening", "()Z"⟩, 25), (⟨"RoomNumbersModel", "its", "(II)I"⟩, 25), (⟨"RoomNumbersModel", "isNote", "(I)Z"⟩, 25), (⟨"RoomNumbersModel", "isPlace", "(II)Z"⟩, 25), (⟨"RoomNumbersModel", "worthBy", "(II)J"⟩, 25), (⟨"RoomNumbersModel", "baseAt", "(III)I"⟩, 25), (⟨"RoomNumbersModel", "canBe", "(II)Z"⟩, 25), (⟨"RoomNumbersModel", "isLine", "(I)Z"⟩, 25), (⟨"RoomNumbersModel", "of", "(II)I"⟩, 25)]
theorem lw_r3 : ∀ q ∈ lw_privs_3, lw_okq q := List.forall_mem_cons.mpr ⟨lw_p32, List.forall_mem_cons.mpr ⟨lw_p33, List.forall_mem_cons.mpr ⟨lw_p34, List.forall_mem_cons.mpr ⟨lw_p35, List.forall_mem_cons.mpr ⟨lw_p36, List.forall_mem_cons.mpr ⟨lw_p37, List.forall_mem_cons.mpr ⟨lw_p38, List.forall_mem_cons.mpr ⟨lw_p39, List.forall_mem_cons.mpr ⟨lw_p40, List.forall_mem_cons.mpr ⟨lw_p41, List.forall_mem_cons.mpr ⟨lw_p42, List.forall_mem_cons.mpr ⟨lw_p43, List.forall_mem_cons.mpr ⟨lw_p44, List.forall_mem_cons.mpr ⟨lw_p45, List.forall_mem_cons.mpr ⟨lw_p46, List.forall_mem_cons.mpr ⟨lw_p47, fun _ h => absurd h List.not_mem_nil⟩⟩⟩⟩⟩⟩⟩⟩⟩⟩⟩⟩⟩⟩⟩⟩
theorem lw_p48 : lw_okq (⟨"RoomNumbersModel", "findWorlds", "(II)I"⟩, 25) := ⟨⟨by decide +kernel, by decide +kernel⟩, List.mem_of_getElem? (i := 1117) (by decide +kernel), List.mem_of_getElem? (i := 1359) (by decide +kernel), List.mem_of_getElem? (i := 1360) (by decide +kernel)⟩
theorem lw_p49 : lw_okq (⟨"RoomNumbersModel", "may1", "(I)I"⟩, 25) := ⟨⟨by decide +kernel, by decide +kernel⟩, List.mem_of_getElem? (i := 1117) (by decide +kernel), List.mem_of_getElem? (i := 1363) (by decide +kernel), List.mem_of_getElem? (i := 1364) (by decide +kernel)⟩
theorem lw_p50 : lw_okq (⟨"RoomNumbersModel", "holdAll", "(I)Z"⟩, 25) := ⟨⟨by decide +kernel, by decide +kernel⟩, List.mem_of_getElem? (i := 1117) (by decide +kernel), List.mem_of_getElem? (i := 1367) (by decide +kernel), List.mem_of_getElem? (i := 1368) (by decide +kernel)⟩
theorem lw_p51 : lw_okq (⟨"RoomNumbersModel", "holdsNow", "(I)Z"⟩, 25) := ⟨⟨by decide +kernel, by decide +kernel⟩, List.mem_of_getElem? (i := 1117) (by decide +kernel), List.mem_of_getElem? (i := 1371) (by decide +kernel), List.mem_of_getElem? (i := 1372) (by decide +kernel)⟩
theorem lw_p52 : lw_okq (⟨"RoomNumbersModel", "worthNow", "(I)J"⟩, 25) := ⟨⟨by decide +kernel, by decide +kernel⟩, List.mem_of_getElem? (i := 1117) (by decide +kernel), List.mem_of_getElem? (i := 1375) (by decide +kernel), List.mem_of_getElem? (i := 1376) (by decide +kernel)⟩
theorem lw_p53 : lw_okq (⟨"RoomNumbersModel", "findWorld", "(I)Z"⟩, 25) := ⟨⟨by decide +kernel, by decide +kernel⟩, List.mem_of_getElem? (i := 1117) (by decide +kernel), List.mem_of_getElem? (i := 1383) (by decide +kernel), List.mem_of_getElem? (i := 1384) (by decide +kernel)⟩
theorem lw_p54 : lw_okq (⟨"RoomNumbersModel", "hasWorld", "(I)Z"⟩, 25) := ⟨⟨by decide +kernel, by decide +kernel⟩, List.mem_of_getElem? (i := 1117) (by decide +kernel), List.mem_of_getElem? (i := 1403) (by decide +kernel), List.mem_of_getElem? (i := 1404) (by decide +kernel)⟩
theorem lw_p55 : lw_okq (⟨"RoomNumbersModel", "fromEnd", "(II)I"⟩, 25) := ⟨⟨by decide +kernel, by decide +kernel⟩, List.mem_of_getElem? (i := 1117) (by decide +kernel), List.mem_of_getElem? (i := 1453) (by decide +kernel), List.mem_of_getElem? (i := 1454) (by decide +kernel)⟩
theorem lw_p56 : lw_okq (⟨"RoomNumbersModel", "isRow", "(II)Z"⟩, 25) := ⟨⟨by decide +kernel, by decide +kernel⟩, List.mem_of_getElem? (i := 1117) (by decide +kernel), List.mem_of_getElem? (i := 1475) (by decide +kernel), List.mem_of_getElem? (i := 1476) (by decide +kernel)⟩
theorem lw_p57 : lw_okq (⟨"RoomNumbersModel", "isRight", "(I)Z"⟩, 25) := ⟨⟨by decide +kernel, by decide +kernel⟩, List.mem_of_getElem? (i := 1117) (by decide +kernel), List.mem_of_getElem? (i := 1487) (by decide +kernel), List.mem_of_getElem? (i := 1488) (by decide +kernel)⟩
theorem lw_p58 : lw_okq (⟨"RoomNumbersModel", "isEmpty", "(I)Z"⟩, 25) := ⟨⟨by decide +kernel, by decide +kernel⟩, List.mem_of_getElem? (i := 1117) (by decide +kernel), List.mem_of_getElem? (i := 1527) (by decide +kernel), List.mem_of_getElem? (i := 1528) (by decide +kernel)⟩
theorem lw_p59 : lw_okq (⟨"RoomNumbersModel", "kindNow", "()I"⟩, 25) := ⟨⟨by decide +kernel, by decide +kernel⟩, List.mem_of_getElem? (i := 1117) (by decide +kernel), List.mem_of_getElem? (i := 1538) (by decide +kernel), List.mem_of_getElem? (i := 1539) (by decide +kernel)⟩
theorem lw_p60 : lw_okq (⟨"RoomNumbersModel", "reads", "(II)I"⟩, 25) := ⟨⟨by decide +kernel, by decide +kernel⟩, List.mem_of_getElem? (i := 1117) (by decide +kernel), List.mem_of_getElem? (i := 1542) (by decide +kernel), List.mem_of_getElem? (i := 1543) (by decide +kernel)⟩
theorem lw_p61 : lw_okq (⟨"RoomNumbersModel", "ran", "(I)V"⟩, 25) := ⟨⟨by decide +kernel, by decide +kernel⟩, List.mem_of_getElem? (i := 1117) (by decide +kernel), List.mem_of_getElem? (i := 1546) (by decide +kernel), List.mem_of_getElem? (i := 1547) (by decide +kernel)⟩
theorem lw_p62 : lw_okq (⟨"RoomNumbersModel", "writes", "(II)I"⟩, 25) := ⟨⟨by decide +kernel, by decide +kernel⟩, List.mem_of_getElem? (i := 1117) (by decide +kernel), List.mem_of_getElem? (i := 1553) (by decide +kernel), List.mem_of_getElem? (i := 1554) (by decide +kernel)⟩
theorem lw_p63 : lw_okq (⟨"RoomNumbersModel", "shares", "(II)I"⟩, 25) := ⟨⟨by decide +kernel, by decide +kernel⟩, List.mem_of_getElem? (i := 1117) (by decide +kernel), List.mem_of_getElem? (i := 1557) (by decide +kernel), List.mem_of_getElem? (i := 1558) (by decide +kernel)⟩
def lw_privs_4 : List (MethodName × Nat) := [(⟨"RoomNumbersModel", "findWorlds", "(II)I"⟩, 25), (⟨"RoomNumbersModel", "may1", "(I)I"⟩, 25), (⟨"RoomNumbersModel", "holdAll", "(I)Z"⟩, 25), (⟨"RoomNumbersModel", "holdsNow", "(I)Z"⟩, 25), (⟨"RoomNumbersModel", "worthNow", "(I)J"⟩, 25), (⟨"RoomNumbersModel", "findWorld", "(I)Z"⟩, 25), (⟨"RoomNumbersModel", "hasWorld", "(I)Z"⟩, 25), (⟨"RoomNumbersModel", "fromEnd", "(II)I"⟩, 25), (⟨"RoomNumbersModel", "isRow", "(II)Z"⟩, 25), (⟨"RoomNumbersModel", "isRight", "(I)Z"⟩, 25), (⟨"RoomNumbersModel", "isEmpty", "(I)Z"⟩, 25), (⟨"RoomNumbersModel", "kindNow", "()I"⟩, 25), (⟨"RoomNumbersModel", "reads", "(II)I"⟩, 25), (⟨"RoomNumbersModel", "ran", "(I)V"⟩, 25), (⟨"RoomNumbersModel", "writes", "(II)I"⟩, 25), (⟨"RoomNumbersModel", "shares", "(II)I"⟩, 25)]
theorem lw_r4 : ∀ q ∈ lw_privs_4, lw_okq q := List.forall_mem_cons.mpr ⟨lw_p48, List.forall_mem_cons.mpr ⟨lw_p49, List.forall_mem_cons.mpr ⟨lw_p50, List.forall_mem_cons.mpr ⟨lw_p51, List.forall_mem_cons.mpr ⟨lw_p52, List.forall_mem_cons.mpr ⟨lw_p53, List.forall_mem_cons.mpr ⟨lw_p54, List.forall_mem_cons.mpr ⟨lw_p55, List.forall_mem_cons.mpr ⟨lw_p56, List.forall_mem_cons.mpr ⟨lw_p57, List.forall_mem_cons.mpr ⟨lw_p58, List.forall_mem_cons.mpr ⟨lw_p59, List.forall_mem_cons.mpr ⟨lw_p60, List.forall_mem_cons.mpr ⟨lw_p61, List.forall_mem_cons.mpr ⟨lw_p62, List.forall_mem_cons.mpr ⟨lw_p63, fun _ h => absurd h List.not_mem_nil⟩⟩⟩⟩⟩⟩⟩⟩⟩⟩⟩⟩⟩⟩⟩⟩
theorem lw_p64 : lw_okq (⟨"RoomNumbersModel", "tells", "(II)I"⟩, 25) := ⟨⟨by decide +kernel, by decide +kernel⟩, List.mem_of_getElem? (i := 1117) (by decide +kernel), List.mem_of_getElem? (i := 1561) (by decide +kernel), List.mem_of_getElem? (i := 1562) (by decide +kernel)⟩
def lw_privs_5 : List (MethodName × Nat) := [(⟨"RoomNumbersModel", "tells", "(II)I"⟩, 25)]
theorem lw_r5 : ∀ q ∈ lw_privs_5, lw_okq q := List.forall_mem_cons.mpr ⟨lw_p64, fun _ h => absurd h List.not_mem_nil⟩
def lw_privs : List (MethodName × Nat) := lw_privs_1 ++ (lw_privs_2 ++ (lw_privs_3 ++ (lw_privs_4 ++ (lw_privs_5))))
def lw_tbl : List Cond := k2_sels lw_privs ++ tables_1
theorem lw_privs_ok : ∀ q ∈ lw_privs, lw_okq q := by
  show ∀ q ∈ lw_privs_1 ++ (lw_privs_2 ++ (lw_privs_3 ++ (lw_privs_4 ++ (lw_privs_5)))), lw_okq q
  exact List.forall_mem_append.mpr ⟨lw_r1, List.forall_mem_append.mpr ⟨lw_r2, List.forall_mem_append.mpr ⟨lw_r3, List.forall_mem_append.mpr ⟨lw_r4, lw_r5⟩⟩⟩⟩

/-! PRINTED (gen_names.py out of NAMES.whole): names, fields, words -/
def RX0 : String := "RoomNumbers$Broken"
def TX0 : u_T := fun k => match k with
  | 0 => ("RoomNumbers$Note", "number", "I", true)
  | 1 => ("RoomNumbers$Note", "a", "I", true)
  | 2 => ("RoomNumbers$Note", "marks", "[I", true)
  | _ => ("RoomNumbers$Note", "evening", "I", false)
def tyX0 : Nat → FieldType := fun k => match k with
  | 0 => .int
  | 1 => .int
  | 2 => .array .int
  | _ => .int
abbrev wsX00 : List Cond := u_ws RX0 TX0 4
theorem nmX0 : ∀ a, a < 4 → ∀ b, b < 4 → a ≠ b → (TX0 a).2.1 ≠ (TX0 b).2.1 := by decide +kernel
theorem tyX0_ok : ∀ k, k < 4 → parseFieldDescriptor (TX0 k).2.2.1 = some (tyX0 k) := by decide +kernel
abbrev cX0_init : ByteArray := prog_2_method_1_code
def yX0_init : MethodName := ⟨RX0, "<init>", "(III[I)V"⟩
abbrev cX0_kind : ByteArray := prog_2_method_2_code
def yX0_kind : MethodName := ⟨RX0, "kind", "()I"⟩
abbrev cX0_baseBehind : ByteArray := prog_2_method_3_code
def yX0_baseBehind : MethodName := ⟨RX0, "baseBehind", "(I)I"⟩
abbrev cX0_worthBy : ByteArray := prog_2_method_4_code
def yX0_worthBy : MethodName := ⟨RX0, "worthBy", "(I)I"⟩
abbrev cX0_canBeIn : ByteArray := prog_2_method_5_code
def yX0_canBeIn : MethodName := ⟨RX0, "canBeIn", "(I)Z"⟩
abbrev cX0_reads : ByteArray := prog_2_method_6_code
def yX0_reads : MethodName := ⟨RX0, "reads", "(ILRoomNumbers$Trace;)I"⟩
abbrev cX0_tells : ByteArray := prog_2_method_7_code
def yX0_tells : MethodName := ⟨RX0, "tells", "(ILRoomNumbers$Trace;)I"⟩
def RX1 : String := "RoomNumbers$Debt"
def TX1 : u_T := fun k => match k with
  | 0 => ("RoomNumbers$Note", "number", "I", true)
  | 1 => ("RoomNumbers$Note", "a", "I", true)
  | 2 => ("RoomNumbers$Note", "marks", "[I", true)
  | _ => ("RoomNumbers$Note", "evening", "I", false)
def tyX1 : Nat → FieldType := fun k => match k with
  | 0 => .int
  | 1 => .int
  | 2 => .array .int
  | _ => .int
abbrev wsX10 : List Cond := u_ws RX1 TX1 4
theorem nmX1 : ∀ a, a < 4 → ∀ b, b < 4 → a ≠ b → (TX1 a).2.1 ≠ (TX1 b).2.1 := by decide +kernel
theorem tyX1_ok : ∀ k, k < 4 → parseFieldDescriptor (TX1 k).2.2.1 = some (tyX1 k) := by decide +kernel
abbrev cX1_init : ByteArray := prog_3_method_1_code
def yX1_init : MethodName := ⟨RX1, "<init>", "(III[I)V"⟩
abbrev cX1_kind : ByteArray := prog_3_method_2_code
def yX1_kind : MethodName := ⟨RX1, "kind", "()I"⟩
abbrev cX1_worthBy : ByteArray := prog_3_method_3_code
def yX1_worthBy : MethodName := ⟨RX1, "worthBy", "(I)I"⟩
abbrev cX1_shares : ByteArray := prog_3_method_4_code
def yX1_shares : MethodName := ⟨RX1, "shares", "(ILRoomNumbers$Trace;)I"⟩
abbrev cX1_reads : ByteArray := prog_3_method_5_code
def yX1_reads : MethodName := ⟨RX1, "reads", "(ILRoomNumbers$Trace;)I"⟩
def RX2 : String := "RoomNumbers$Finder"
def TX2 : u_T := fun k => match k with
  | 0 => ("RoomNumbers$Finder", "valley", "LRoomNumbers$Valley;", true)
  | 1 => ("RoomNumbers$Finder", "bases", "[I", true)
  | 2 => ("RoomNumbers$Finder", "mendNote", "I", false)
  | 3 => ("RoomNumbers$Finder", "mendPlace", "I", false)
  | 4 => ("RoomNumbers$Finder", "mendSign", "I", false)
  | 5 => ("RoomNumbers$Finder", "evenings", "[I", true)
  | 6 => ("RoomNumbers$Finder", "cans", "[I", true)
  | 7 => ("RoomNumbers$Finder", "worths", "[I", true)
  | 8 => ("RoomNumbers$Finder", "touched", "[I", true)
  | 9 => ("RoomNumbers$Finder", "limits", "[I", true)
  | 10 => ("RoomNumbers$Finder", "saved", "[I", true)
  | 11 => ("RoomNumbers$Finder", "thirds", "[I", true)
  | 12 => ("RoomNumbers$Finder", "seen", "[I", true)
  | 13 => ("RoomNumbers$Finder", "count", "I", false)
  | 14 => ("RoomNumbers$Finder", "version", "I", false)
  | _ => ("RoomNumbers$Finder", "mendVersion", "I", false)
def tyX2 : Nat → FieldType := fun k => match k with
  | 0 => .object "RoomNumbers$Valley"
  | 1 => .array .int
  | 2 => .int
  | 3 => .int
  | 4 => .int
  | 5 => .array .int
  | 6 => .array .int
  | 7 => .array .int
  | 8 => .array .int
  | 9 => .array .int
  | 10 => .array .int
  | 11 => .array .int
  | 12 => .array .int
  | 13 => .int
  | 14 => .int
  | _ => .int
abbrev wsX20 : List Cond := u_ws RX2 TX2 16
theorem nmX2 : ∀ a, a < 16 → ∀ b, b < 16 → a ≠ b → (TX2 a).2.1 ≠ (TX2 b).2.1 := by decide +kernel
theorem tyX2_ok : ∀ k, k < 16 → parseFieldDescriptor (TX2 k).2.2.1 = some (tyX2 k) := by decide +kernel
abbrev cX2_init : ByteArray := prog_4_method_1_code
def yX2_init : MethodName := ⟨RX2, "<init>", "()V"⟩
abbrev cX2_howMany : ByteArray := prog_4_method_2_code
def yX2_howMany : MethodName := ⟨RX2, "howMany", "()I"⟩
abbrev cX2_basesSeen : ByteArray := prog_4_method_3_code
def yX2_basesSeen : MethodName := ⟨RX2, "basesSeen", "(I)I"⟩
abbrev cX2_goTo : ByteArray := prog_4_method_4_code
def yX2_goTo : MethodName := ⟨RX2, "goTo", "(I)Z"⟩
abbrev cX2_fewestLines : ByteArray := prog_4_method_5_code
def yX2_fewestLines : MethodName := ⟨RX2, "fewestLines", "()I"⟩
abbrev cX2_eveningsFor : ByteArray := prog_4_method_6_code
def yX2_eveningsFor : MethodName := ⟨RX2, "eveningsFor", "(I)I"⟩
abbrev cX2_canMend : ByteArray := prog_4_method_7_code
def yX2_canMend : MethodName := ⟨RX2, "canMend", "()Z"⟩
abbrev cX2_mendsBy : ByteArray := prog_4_method_8_code
def yX2_mendsBy : MethodName := ⟨RX2, "mendsBy", "(I)Z"⟩
abbrev cX2_keepMend : ByteArray := prog_4_method_9_code
def yX2_keepMend : MethodName := ⟨RX2, "keepMend", "(III)V"⟩
abbrev cX2_fitsAgain : ByteArray := prog_4_method_10_code
def yX2_fitsAgain : MethodName := ⟨RX2, "fitsAgain", "(LRoomNumbers$Note;)Z"⟩
abbrev cX2_refresh : ByteArray := prog_4_method_11_code
def yX2_refresh : MethodName := ⟨RX2, "refresh", "()V"⟩
abbrev cX2_load : ByteArray := prog_4_method_12_code
def yX2_load : MethodName := ⟨RX2, "load", "()V"⟩
abbrev cX2_readNote : ByteArray := prog_4_method_13_code
def yX2_readNote : MethodName := ⟨RX2, "readNote", "(LRoomNumbers$Note;)V"⟩
abbrev cX2_markTouched : ByteArray := prog_4_method_14_code
def yX2_markTouched : MethodName := ⟨RX2, "markTouched", "()V"⟩
abbrev cX2_limitBy : ByteArray := prog_4_method_15_code
def yX2_limitBy : MethodName := ⟨RX2, "limitBy", "(II)V"⟩
abbrev cX2_limitByLine : ByteArray := prog_4_method_16_code
def yX2_limitByLine : MethodName := ⟨RX2, "limitByLine", "(I)V"⟩
abbrev cX2_basesThatHold : ByteArray := prog_4_method_17_code
def yX2_basesThatHold : MethodName := ⟨RX2, "basesThatHold", "(III)I"⟩
abbrev cX2_isWorldBy : ByteArray := prog_4_method_18_code
def yX2_isWorldBy : MethodName := ⟨RX2, "isWorldBy", "(I)Z"⟩
abbrev cX2_isWorldWithin : ByteArray := prog_4_method_19_code
def yX2_isWorldWithin : MethodName := ⟨RX2, "isWorldWithin", "(I)Z"⟩
abbrev cX2_thirdBases : ByteArray := prog_4_method_20_code
def yX2_thirdBases : MethodName := ⟨RX2, "thirdBases", "(III)I"⟩
abbrev cX2_fill : ByteArray := prog_4_method_21_code
def yX2_fill : MethodName := ⟨RX2, "fill", "()V"⟩
def RX3 : String := "RoomNumbers$Left"
def TX3 : u_T := fun k => match k with
  | 0 => ("RoomNumbers$Note", "number", "I", true)
  | 1 => ("RoomNumbers$Note", "a", "I", true)
  | 2 => ("RoomNumbers$Note", "marks", "[I", true)
  | _ => ("RoomNumbers$Note", "evening", "I", false)
def tyX3 : Nat → FieldType := fun k => match k with
  | 0 => .int
  | 1 => .int
  | 2 => .array .int
  | _ => .int
abbrev wsX30 : List Cond := u_ws RX3 TX3 4
theorem nmX3 : ∀ a, a < 4 → ∀ b, b < 4 → a ≠ b → (TX3 a).2.1 ≠ (TX3 b).2.1 := by decide +kernel
theorem tyX3_ok : ∀ k, k < 4 → parseFieldDescriptor (TX3 k).2.2.1 = some (tyX3 k) := by decide +kernel
abbrev cX3_init : ByteArray := prog_5_method_1_code
def yX3_init : MethodName := ⟨RX3, "<init>", "(III[I)V"⟩
abbrev cX3_kind : ByteArray := prog_5_method_2_code
def yX3_kind : MethodName := ⟨RX3, "kind", "()I"⟩
abbrev cX3_baseBehind : ByteArray := prog_5_method_3_code
def yX3_baseBehind : MethodName := ⟨RX3, "baseBehind", "(I)I"⟩
abbrev cX3_reads : ByteArray := prog_5_method_4_code
def yX3_reads : MethodName := ⟨RX3, "reads", "(ILRoomNumbers$Trace;)I"⟩
abbrev cX3_writes : ByteArray := prog_5_method_5_code
def yX3_writes : MethodName := ⟨RX3, "writes", "(ILRoomNumbers$Trace;)I"⟩
def RX4 : String := "RoomNumbers$Note"
def TX4 : u_T := fun k => match k with
  | 0 => ("RoomNumbers$Note", "number", "I", true)
  | 1 => ("RoomNumbers$Note", "a", "I", true)
  | 2 => ("RoomNumbers$Note", "marks", "[I", true)
  | _ => ("RoomNumbers$Note", "evening", "I", false)
def tyX4 : Nat → FieldType := fun k => match k with
  | 0 => .int
  | 1 => .int
  | 2 => .array .int
  | _ => .int
abbrev wsX40 : List Cond := u_ws RX4 TX4 4
theorem nmX4 : ∀ a, a < 4 → ∀ b, b < 4 → a ≠ b → (TX4 a).2.1 ≠ (TX4 b).2.1 := by decide +kernel
theorem tyX4_ok : ∀ k, k < 4 → parseFieldDescriptor (TX4 k).2.2.1 = some (tyX4 k) := by decide +kernel
abbrev cX4_init : ByteArray := prog_6_method_1_code
def yX4_init : MethodName := ⟨RX4, "<init>", "(III[I)V"⟩
abbrev cX4_kind : ByteArray := prog_6_method_2_code
def yX4_kind : MethodName := ⟨RX4, "kind", "()I"⟩
abbrev cX4_hasPlace : ByteArray := prog_6_method_3_code
def yX4_hasPlace : MethodName := ⟨RX4, "hasPlace", "(I)Z"⟩
abbrev cX4_markFromLast : ByteArray := prog_6_method_4_code
def yX4_markFromLast : MethodName := ⟨RX4, "markFromLast", "(I)I"⟩
abbrev cX4_isOfKind : ByteArray := prog_6_method_5_code
def yX4_isOfKind : MethodName := ⟨RX4, "isOfKind", "(I)Z"⟩
abbrev cX4_worthBy : ByteArray := prog_6_method_6_code
def yX4_worthBy : MethodName := ⟨RX4, "worthBy", "(I)I"⟩
abbrev cX4_canBeIn : ByteArray := prog_6_method_7_code
def yX4_canBeIn : MethodName := ⟨RX4, "canBeIn", "(I)Z"⟩
abbrev cX4_basesItCanBeIn : ByteArray := prog_6_method_8_code
def yX4_basesItCanBeIn : MethodName := ⟨RX4, "basesItCanBeIn", "()I"⟩
abbrev cX4_grown : ByteArray := prog_6_method_9_code
def yX4_grown : MethodName := ⟨RX4, "grown", "(IIII)I"⟩
abbrev cX4_allBelow : ByteArray := prog_6_method_10_code
def yX4_allBelow : MethodName := ⟨RX4, "allBelow", "(III)Z"⟩
abbrev cX4_reads : ByteArray := prog_6_method_11_code
def yX4_reads : MethodName := ⟨RX4, "reads", "(ILRoomNumbers$Trace;)I"⟩
abbrev cX4_writes : ByteArray := prog_6_method_12_code
def yX4_writes : MethodName := ⟨RX4, "writes", "(ILRoomNumbers$Trace;)I"⟩
abbrev cX4_shares : ByteArray := prog_6_method_13_code
def yX4_shares : MethodName := ⟨RX4, "shares", "(ILRoomNumbers$Trace;)I"⟩
abbrev cX4_tells : ByteArray := prog_6_method_14_code
def yX4_tells : MethodName := ⟨RX4, "tells", "(ILRoomNumbers$Trace;)I"⟩
def RX5 : String := "RoomNumbers$SheetRow"
def TX5 : u_T := fun k => match k with
  | 0 => ("RoomNumbers$SheetRow", "sort", "I", true)
  | _ => ("RoomNumbers$SheetRow", "items", "[J", true)
def tyX5 : Nat → FieldType := fun k => match k with
  | 0 => .int
  | _ => .array .long
abbrev wsX50 : List Cond := u_ws RX5 TX5 2
theorem nmX5 : ∀ a, a < 2 → ∀ b, b < 2 → a ≠ b → (TX5 a).2.1 ≠ (TX5 b).2.1 := by decide +kernel
theorem tyX5_ok : ∀ k, k < 2 → parseFieldDescriptor (TX5 k).2.2.1 = some (tyX5 k) := by decide +kernel
abbrev cX5_init : ByteArray := prog_7_method_1_code
def yX5_init : MethodName := ⟨RX5, "<init>", "(II)V"⟩
abbrev cX5_narrowed : ByteArray := prog_7_method_2_code
def yX5_narrowed : MethodName := ⟨RX5, "narrowed", "(I)J"⟩
def RX6 : String := "RoomNumbers$Strokes"
def TX6 : u_T := fun k => match k with
  | 0 => ("RoomNumbers$Note", "number", "I", true)
  | 1 => ("RoomNumbers$Note", "a", "I", true)
  | 2 => ("RoomNumbers$Note", "marks", "[I", true)
  | _ => ("RoomNumbers$Note", "evening", "I", false)
def tyX6 : Nat → FieldType := fun k => match k with
  | 0 => .int
  | 1 => .int
  | 2 => .array .int
  | _ => .int
abbrev wsX60 : List Cond := u_ws RX6 TX6 4
theorem nmX6 : ∀ a, a < 4 → ∀ b, b < 4 → a ≠ b → (TX6 a).2.1 ≠ (TX6 b).2.1 := by decide +kernel
theorem tyX6_ok : ∀ k, k < 4 → parseFieldDescriptor (TX6 k).2.2.1 = some (tyX6 k) := by decide +kernel
abbrev cX6_init : ByteArray := prog_8_method_1_code
def yX6_init : MethodName := ⟨RX6, "<init>", "(III[I)V"⟩
abbrev cX6_kind : ByteArray := prog_8_method_2_code
def yX6_kind : MethodName := ⟨RX6, "kind", "()I"⟩
abbrev cX6_worthBy : ByteArray := prog_8_method_3_code
def yX6_worthBy : MethodName := ⟨RX6, "worthBy", "(I)I"⟩
abbrev cX6_canBeIn : ByteArray := prog_8_method_4_code
def yX6_canBeIn : MethodName := ⟨RX6, "canBeIn", "(I)Z"⟩
abbrev cX6_writes : ByteArray := prog_8_method_5_code
def yX6_writes : MethodName := ⟨RX6, "writes", "(ILRoomNumbers$Trace;)I"⟩
def RX7 : String := "RoomNumbers$Teller"
def TX7 : u_T := fun k => match k with
  | 0 => ("RoomNumbers$Teller", "draft", "LRoomNumbers$Valley;", true)
  | 1 => ("RoomNumbers$Teller", "start", "I", false)
  | 2 => ("RoomNumbers$Teller", "marks", "[I", true)
  | 3 => ("RoomNumbers$Teller", "text", "[I", false)
  | 4 => ("RoomNumbers$Teller", "length", "I", false)
  | 5 => ("RoomNumbers$Teller", "place", "I", false)
  | 6 => ("RoomNumbers$Teller", "sort", "I", false)
  | _ => ("RoomNumbers$Teller", "value", "I", false)
def tyX7 : Nat → FieldType := fun k => match k with
  | 0 => .object "RoomNumbers$Valley"
  | 1 => .int
  | 2 => .array .int
  | 3 => .array .int
  | 4 => .int
  | 5 => .int
  | 6 => .int
  | _ => .int
abbrev wsX70 : List Cond := u_ws RX7 TX7 8
theorem nmX7 : ∀ a, a < 8 → ∀ b, b < 8 → a ≠ b → (TX7 a).2.1 ≠ (TX7 b).2.1 := by decide +kernel
theorem tyX7_ok : ∀ k, k < 8 → parseFieldDescriptor (TX7 k).2.2.1 = some (tyX7 k) := by decide +kernel
abbrev cX7_init : ByteArray := prog_9_method_1_code
def yX7_init : MethodName := ⟨RX7, "<init>", "()V"⟩
abbrev cX7_told : ByteArray := prog_9_method_2_code
def yX7_told : MethodName := ⟨RX7, "told", "([II)Z"⟩
abbrev cX7_kindNamed : ByteArray := prog_9_method_3_code
def yX7_kindNamed : MethodName := ⟨RX7, "kindNamed", "()I"⟩
abbrev cX7_lineSortNamed : ByteArray := prog_9_method_4_code
def yX7_lineSortNamed : MethodName := ⟨RX7, "lineSortNamed", "()I"⟩
abbrev cX7_noteTold : ByteArray := prog_9_method_5_code
def yX7_noteTold : MethodName := ⟨RX7, "noteTold", "(I)Z"⟩
abbrev cX7_marksTold : ByteArray := prog_9_method_6_code
def yX7_marksTold : MethodName := ⟨RX7, "marksTold", "()I"⟩
abbrev cX7_eveningTold : ByteArray := prog_9_method_7_code
def yX7_eveningTold : MethodName := ⟨RX7, "eveningTold", "()Z"⟩
abbrev cX7_lineTold : ByteArray := prog_9_method_8_code
def yX7_lineTold : MethodName := ⟨RX7, "lineTold", "(I)Z"⟩
abbrev cX7_number : ByteArray := prog_9_method_9_code
def yX7_number : MethodName := ⟨RX7, "number", "(II)I"⟩
abbrev cX7_takes : ByteArray := prog_9_method_10_code
def yX7_takes : MethodName := ⟨RX7, "takes", "(I)Z"⟩
abbrev cX7_isName : ByteArray := prog_9_method_11_code
def yX7_isName : MethodName := ⟨RX7, "isName", "(Ljava/lang/String;)Z"⟩
abbrev cX7_next : ByteArray := prog_9_method_12_code
def yX7_next : MethodName := ⟨RX7, "next", "()V"⟩
abbrev cX7_digitsWorth : ByteArray := prog_9_method_13_code
def yX7_digitsWorth : MethodName := ⟨RX7, "digitsWorth", "()I"⟩
abbrev cX7_isLetter : ByteArray := prog_9_method_14_code
def yX7_isLetter : MethodName := ⟨RX7, "isLetter", "(I)Z"⟩
abbrev cX7_isDigit : ByteArray := prog_9_method_15_code
def yX7_isDigit : MethodName := ⟨RX7, "isDigit", "(I)Z"⟩
def RX8 : String := "RoomNumbers$Trace"
def TX8 : u_T := fun k => match k with
  | 0 => ("RoomNumbers$Trace", "bodies", "[I", true)
  | 1 => ("RoomNumbers$Trace", "count", "I", false)
  | _ => ("RoomNumbers$Trace", "endedAt", "I", false)
def tyX8 : Nat → FieldType := fun k => match k with
  | 0 => .array .int
  | 1 => .int
  | _ => .int
abbrev wsX80 : List Cond := u_ws RX8 TX8 3
theorem nmX8 : ∀ a, a < 3 → ∀ b, b < 3 → a ≠ b → (TX8 a).2.1 ≠ (TX8 b).2.1 := by decide +kernel
theorem tyX8_ok : ∀ k, k < 3 → parseFieldDescriptor (TX8 k).2.2.1 = some (tyX8 k) := by decide +kernel
abbrev cX8_init : ByteArray := prog_10_method_1_code
def yX8_init : MethodName := ⟨RX8, "<init>", "()V"⟩
abbrev cX8_clear : ByteArray := prog_10_method_2_code
def yX8_clear : MethodName := ⟨RX8, "clear", "()V"⟩
abbrev cX8_end : ByteArray := prog_10_method_3_code
def yX8_end : MethodName := ⟨RX8, "end", "()V"⟩
abbrev cX8_ended : ByteArray := prog_10_method_4_code
def yX8_ended : MethodName := ⟨RX8, "ended", "()Z"⟩
abbrev cX8_howMany : ByteArray := prog_10_method_5_code
def yX8_howMany : MethodName := ⟨RX8, "howMany", "()I"⟩
def RX9 : String := "RoomNumbers$Turned"
def TX9 : u_T := fun k => match k with
  | 0 => ("RoomNumbers$Note", "number", "I", true)
  | 1 => ("RoomNumbers$Note", "a", "I", true)
  | 2 => ("RoomNumbers$Note", "marks", "[I", true)
  | _ => ("RoomNumbers$Note", "evening", "I", false)
def tyX9 : Nat → FieldType := fun k => match k with
  | 0 => .int
  | 1 => .int
  | 2 => .array .int
  | _ => .int
abbrev wsX90 : List Cond := u_ws RX9 TX9 4
theorem nmX9 : ∀ a, a < 4 → ∀ b, b < 4 → a ≠ b → (TX9 a).2.1 ≠ (TX9 b).2.1 := by decide +kernel
theorem tyX9_ok : ∀ k, k < 4 → parseFieldDescriptor (TX9 k).2.2.1 = some (tyX9 k) := by decide +kernel
abbrev cX9_init : ByteArray := prog_11_method_1_code
def yX9_init : MethodName := ⟨RX9, "<init>", "(III[I)V"⟩
abbrev cX9_kind : ByteArray := prog_11_method_2_code
def yX9_kind : MethodName := ⟨RX9, "kind", "()I"⟩
abbrev cX9_worthBy : ByteArray := prog_11_method_3_code
def yX9_worthBy : MethodName := ⟨RX9, "worthBy", "(I)I"⟩
abbrev cX9_tells : ByteArray := prog_11_method_4_code
def yX9_tells : MethodName := ⟨RX9, "tells", "(ILRoomNumbers$Trace;)I"⟩
abbrev cX9_shares : ByteArray := prog_11_method_5_code
def yX9_shares : MethodName := ⟨RX9, "shares", "(ILRoomNumbers$Trace;)I"⟩
def RX10 : String := "RoomNumbers$Valley"
def TX10 : u_T := fun k => match k with
  | 0 => ("RoomNumbers$Valley", "least", "[I", true)
  | 1 => ("RoomNumbers$Valley", "most", "[I", true)
  | 2 => ("RoomNumbers$Valley", "lines", "[I", true)
  | 3 => ("RoomNumbers$Valley", "noteCount", "I", false)
  | 4 => ("RoomNumbers$Valley", "lineCount", "I", false)
  | 5 => ("RoomNumbers$Valley", "version", "I", false)
  | _ => ("RoomNumbers$Valley", "notes", "[LRoomNumbers$Note;", true)
def tyX10 : Nat → FieldType := fun k => match k with
  | 0 => .array .int
  | 1 => .array .int
  | 2 => .array .int
  | 3 => .int
  | 4 => .int
  | 5 => .int
  | _ => .array (.object "RoomNumbers$Note")
abbrev wsX100 : List Cond := u_ws RX10 TX10 7
theorem nmX10 : ∀ a, a < 7 → ∀ b, b < 7 → a ≠ b → (TX10 a).2.1 ≠ (TX10 b).2.1 := by decide +kernel
theorem tyX10_ok : ∀ k, k < 7 → parseFieldDescriptor (TX10 k).2.2.1 = some (tyX10 k) := by decide +kernel
abbrev cX10_init : ByteArray := prog_12_method_1_code
def yX10_init : MethodName := ⟨RX10, "<init>", "()V"⟩
abbrev cX10_clear : ByteArray := prog_12_method_2_code
def yX10_clear : MethodName := ⟨RX10, "clear", "()V"⟩
abbrev cX10_become : ByteArray := prog_12_method_3_code
def yX10_become : MethodName := ⟨RX10, "become", "(LRoomNumbers$Valley;)V"⟩
abbrev cX10_setEvening : ByteArray := prog_12_method_4_code
def yX10_setEvening : MethodName := ⟨RX10, "setEvening", "(III)V"⟩
abbrev cX10_notesOf : ByteArray := prog_12_method_5_code
def yX10_notesOf : MethodName := ⟨RX10, "notesOf", "(I)I"⟩
abbrev cX10_basesOf : ByteArray := prog_12_method_6_code
def yX10_basesOf : MethodName := ⟨RX10, "basesOf", "(I)I"⟩
abbrev cX10_noteAt : ByteArray := prog_12_method_7_code
def yX10_noteAt : MethodName := ⟨RX10, "noteAt", "(I)LRoomNumbers$Note;"⟩
abbrev cX10_addNote : ByteArray := prog_12_method_8_code
def yX10_addNote : MethodName := ⟨RX10, "addNote", "(III[I)I"⟩
abbrev cX10_addLine : ByteArray := prog_12_method_9_code
def yX10_addLine : MethodName := ⟨RX10, "addLine", "(IIII)I"⟩
abbrev cX10_strikeLine : ByteArray := prog_12_method_10_code
def yX10_strikeLine : MethodName := ⟨RX10, "strikeLine", "(I)I"⟩
abbrev cX10_lineHolds : ByteArray := prog_12_method_11_code
def yX10_lineHolds : MethodName := ⟨RX10, "lineHolds", "(I[I)Z"⟩
abbrev cX10_worthOf : ByteArray := prog_12_method_12_code
def yX10_worthOf : MethodName := ⟨RX10, "worthOf", "(I[I)I"⟩
abbrev cX10_linesWith : ByteArray := prog_12_method_13_code
def yX10_linesWith : MethodName := ⟨RX10, "linesWith", "(I)I"⟩
abbrev cX10_allLines : ByteArray := prog_12_method_14_code
def yX10_allLines : MethodName := ⟨RX10, "allLines", "()I"⟩
def RX11 : String := "RoomNumbers"
def TX11 : u_T := fun k => match k with
  | 0 => ("RoomNumbers", "tape", "[I", true)
  | 1 => ("RoomNumbers", "tapeCount", "I", false)
  | 2 => ("RoomNumbers", "finder", "LRoomNumbers$Finder;", true)
  | 3 => ("RoomNumbers", "now", "LRoomNumbers$Valley;", true)
  | 4 => ("RoomNumbers", "kept", "LRoomNumbers$Valley;", true)
  | 5 => ("RoomNumbers", "anyKept", "Z", false)
  | 6 => ("RoomNumbers", "luck", "I", false)
  | 7 => ("RoomNumbers", "keptLuck", "I", false)
  | 8 => ("RoomNumbers", "teller", "LRoomNumbers$Teller;", true)
  | 9 => ("RoomNumbers", "rows", "[J", true)
  | 10 => ("RoomNumbers", "rowCount", "I", false)
  | 11 => ("RoomNumbers", "tried", "[I", true)
  | 12 => ("RoomNumbers", "sheets", "[LRoomNumbers$SheetRow;", true)
  | 13 => ("RoomNumbers", "shelfWhat", "[I", true)
  | 14 => ("RoomNumbers", "shelfNote", "[I", true)
  | 15 => ("RoomNumbers", "shelfRow", "[LRoomNumbers$SheetRow;", true)
  | _ => ("RoomNumbers", "latest", "LRoomNumbers$Trace;", true)
def tyX11 : Nat → FieldType := fun k => match k with
  | 0 => .array .int
  | 1 => .int
  | 2 => .object "RoomNumbers$Finder"
  | 3 => .object "RoomNumbers$Valley"
  | 4 => .object "RoomNumbers$Valley"
  | 5 => .boolean
  | 6 => .int
  | 7 => .int
  | 8 => .object "RoomNumbers$Teller"
  | 9 => .array .long
  | 10 => .int
  | 11 => .array .int
  | 12 => .array (.object "RoomNumbers$SheetRow")
  | 13 => .array .int
  | 14 => .array .int
  | 15 => .array (.object "RoomNumbers$SheetRow")
  | _ => .object "RoomNumbers$Trace"
abbrev wsX110 : List Cond := u_ws RX11 TX11 17
theorem nmX11 : ∀ a, a < 17 → ∀ b, b < 17 → a ≠ b → (TX11 a).2.1 ≠ (TX11 b).2.1 := by decide +kernel
theorem tyX11_ok : ∀ k, k < 17 → parseFieldDescriptor (TX11 k).2.2.1 = some (tyX11 k) := by decide +kernel
abbrev cX11_init : ByteArray := prog_1_method_1_code
def yX11_init : MethodName := ⟨RX11, "<init>", "()V"⟩
abbrev cX11_feed : ByteArray := prog_1_method_2_code
def yX11_feed : MethodName := ⟨RX11, "feed", "(JI)I"⟩
abbrev cX11_valley : ByteArray := prog_1_method_3_code
def yX11_valley : MethodName := ⟨RX11, "valley", "()I"⟩
abbrev cX11_evening : ByteArray := prog_1_method_4_code
def yX11_evening : MethodName := ⟨RX11, "evening", "(III)I"⟩
abbrev cX11_eveningOf : ByteArray := prog_1_method_5_code
def yX11_eveningOf : MethodName := ⟨RX11, "eveningOf", "(II)I"⟩
abbrev cX11_note : ByteArray := prog_1_method_6_code
def yX11_note : MethodName := ⟨RX11, "note", "(IIIII)I"⟩
abbrev cX11_noteOf : ByteArray := prog_1_method_7_code
def yX11_noteOf : MethodName := ⟨RX11, "noteOf", "(II)I"⟩
abbrev cX11_alter : ByteArray := prog_1_method_8_code
def yX11_alter : MethodName := ⟨RX11, "alter", "(III)I"⟩
abbrev cX11_move : ByteArray := prog_1_method_9_code
def yX11_move : MethodName := ⟨RX11, "move", "(II)I"⟩
abbrev cX11_worth : ByteArray := prog_1_method_10_code
def yX11_worth : MethodName := ⟨RX11, "worth", "(II)J"⟩
abbrev cX11_can : ByteArray := prog_1_method_11_code
def yX11_can : MethodName := ⟨RX11, "can", "(I)I"⟩
abbrev cX11_line : ByteArray := prog_1_method_12_code
def yX11_line : MethodName := ⟨RX11, "line", "(IIII)I"⟩
abbrev cX11_lineOf : ByteArray := prog_1_method_13_code
def yX11_lineOf : MethodName := ⟨RX11, "lineOf", "(II)I"⟩
abbrev cX11_strike : ByteArray := prog_1_method_14_code
def yX11_strike : MethodName := ⟨RX11, "strike", "(I)I"⟩
abbrev cX11_worlds : ByteArray := prog_1_method_15_code
def yX11_worlds : MethodName := ⟨RX11, "worlds", "()I"⟩
abbrev cX11_world : ByteArray := prog_1_method_16_code
def yX11_world : MethodName := ⟨RX11, "world", "(II)I"⟩
abbrev cX11_may : ByteArray := prog_1_method_17_code
def yX11_may : MethodName := ⟨RX11, "may", "(I)I"⟩
abbrev cX11_sure : ByteArray := prog_1_method_18_code
def yX11_sure : MethodName := ⟨RX11, "sure", "(I)I"⟩
abbrev cX11_holds : ByteArray := prog_1_method_19_code
def yX11_holds : MethodName := ⟨RX11, "holds", "(IIII)I"⟩
abbrev cX11_proof : ByteArray := prog_1_method_20_code
def yX11_proof : MethodName := ⟨RX11, "proof", "()I"⟩
abbrev cX11_mended : ByteArray := prog_1_method_21_code
def yX11_mended : MethodName := ⟨RX11, "mended", "(I)I"⟩
abbrev cX11_which : ByteArray := prog_1_method_22_code
def yX11_which : MethodName := ⟨RX11, "which", "(I)I"⟩
abbrev cX11_gain : ByteArray := prog_1_method_23_code
def yX11_gain : MethodName := ⟨RX11, "gain", "(III)J"⟩
abbrev cX11_written : ByteArray := prog_1_method_24_code
def yX11_written : MethodName := ⟨RX11, "written", "(III)I"⟩
abbrev cX11_alike : ByteArray := prog_1_method_25_code
def yX11_alike : MethodName := ⟨RX11, "alike", "(II)I"⟩
abbrev cX11_shortest : ByteArray := prog_1_method_26_code
def yX11_shortest : MethodName := ⟨RX11, "shortest", "(II)I"⟩
abbrev cX11_add : ByteArray := prog_1_method_27_code
def yX11_add : MethodName := ⟨RX11, "add", "(II)I"⟩
abbrev cX11_seed : ByteArray := prog_1_method_28_code
def yX11_seed : MethodName := ⟨RX11, "seed", "(I)I"⟩
abbrev cX11_guess : ByteArray := prog_1_method_29_code
def yX11_guess : MethodName := ⟨RX11, "guess", "()I"⟩
abbrev cX11_prove : ByteArray := prog_1_method_30_code
def yX11_prove : MethodName := ⟨RX11, "prove", "(I)I"⟩
abbrev cX11_row : ByteArray := prog_1_method_31_code
def yX11_row : MethodName := ⟨RX11, "row", "(II)J"⟩
abbrev cX11_alterRow : ByteArray := prog_1_method_32_code
def yX11_alterRow : MethodName := ⟨RX11, "alterRow", "(IIJ)J"⟩
abbrev cX11_judge : ByteArray := prog_1_method_33_code
def yX11_judge : MethodName := ⟨RX11, "judge", "()I"⟩
abbrev cX11_signs : ByteArray := prog_1_method_34_code
def yX11_signs : MethodName := ⟨RX11, "signs", "(IIII)I"⟩
abbrev cX11_sheet : ByteArray := prog_1_method_35_code
def yX11_sheet : MethodName := ⟨RX11, "sheet", "(III)I"⟩
abbrev cX11_put : ByteArray := prog_1_method_36_code
def yX11_put : MethodName := ⟨RX11, "put", "(III)I"⟩
abbrev cX11_item : ByteArray := prog_1_method_37_code
def yX11_item : MethodName := ⟨RX11, "item", "(III)I"⟩
abbrev cX11_shelf : ByteArray := prog_1_method_38_code
def yX11_shelf : MethodName := ⟨RX11, "shelf", "(III)I"⟩
abbrev cX11_taken : ByteArray := prog_1_method_39_code
def yX11_taken : MethodName := ⟨RX11, "taken", "(II)I"⟩
abbrev cX11_act : ByteArray := prog_1_method_40_code
def yX11_act : MethodName := ⟨RX11, "act", "(III)I"⟩
abbrev cX11_trace : ByteArray := prog_1_method_41_code
def yX11_trace : MethodName := ⟨RX11, "trace", "(I)I"⟩
abbrev cX11_many : ByteArray := prog_1_method_42_code
def yX11_many : MethodName := ⟨RX11, "many", "(I)I"⟩
abbrev cX11_keep : ByteArray := prog_1_method_43_code
def yX11_keep : MethodName := ⟨RX11, "keep", "()I"⟩
abbrev cX11_again : ByteArray := prog_1_method_44_code
def yX11_again : MethodName := ⟨RX11, "again", "()I"⟩
abbrev cX11_hasRow : ByteArray := prog_1_method_45_code
def yX11_hasRow : MethodName := ⟨RX11, "hasRow", "(II)Z"⟩
abbrev cX11_isRightRow : ByteArray := prog_1_method_46_code
def yX11_isRightRow : MethodName := ⟨RX11, "isRightRow", "(I)Z"⟩
abbrev cX11_noteOn : ByteArray := prog_1_method_47_code
def yX11_noteOn : MethodName := ⟨RX11, "noteOn", "(I)LRoomNumbers$Note;"⟩
abbrev cX11_within : ByteArray := prog_1_method_48_code
def yX11_within : MethodName := ⟨RX11, "within", "(III)Z"⟩
abbrev cX11_isEvening : ByteArray := prog_1_method_49_code
def yX11_isEvening : MethodName := ⟨RX11, "isEvening", "(I)Z"⟩
abbrev cX11_isBase : ByteArray := prog_1_method_50_code
def yX11_isBase : MethodName := ⟨RX11, "isBase", "(I)Z"⟩
abbrev cX11_isSheet : ByteArray := prog_1_method_51_code
def yX11_isSheet : MethodName := ⟨RX11, "isSheet", "(I)Z"⟩
abbrev cX11_isShelf : ByteArray := prog_1_method_52_code
def yX11_isShelf : MethodName := ⟨RX11, "isShelf", "(I)Z"⟩
abbrev cX11_isSetOfBases : ByteArray := prog_1_method_53_code
def yX11_isSetOfBases : MethodName := ⟨RX11, "isSetOfBases", "(I)Z"⟩
abbrev cX11_baseAt : ByteArray := prog_1_method_54_code
def yX11_baseAt : MethodName := ⟨RX11, "baseAt", "(II)I"⟩
abbrev cX11_howLong : ByteArray := prog_1_method_55_code
def yX11_howLong : MethodName := ⟨RX11, "howLong", "(II)I"⟩
abbrev cX11_sortHolds : ByteArray := prog_1_method_56_code
def yX11_sortHolds : MethodName := ⟨RX11, "sortHolds", "(IIII)Z"⟩
def RX12 : String := "RoomNumbersModel"
def TX12 : u_T := fun k => match k with
  | 0 => ("RoomNumbersModel", "s", "[I", true)
  | 1 => ("RoomNumbersModel", "kept", "[I", true)
  | 2 => ("RoomNumbersModel", "put", "[I", true)
  | 3 => ("RoomNumbersModel", "isKept", "Z", false)
  | 4 => ("RoomNumbersModel", "tape", "[I", true)
  | 5 => ("RoomNumbersModel", "taped", "I", false)
  | 6 => ("RoomNumbersModel", "at", "I", false)
  | 7 => ("RoomNumbersModel", "begins", "I", false)
  | 8 => ("RoomNumbersModel", "token", "I", false)
  | 9 => ("RoomNumbersModel", "value", "I", false)
  | 10 => ("RoomNumbersModel", "taken", "I", false)
  | 11 => ("RoomNumbersModel", "base", "[I", true)
  | 12 => ("RoomNumbersModel", "mays", "[I", true)
  | 13 => ("RoomNumbersModel", "met", "[I", true)
  | 14 => ("RoomNumbersModel", "row", "[J", true)
  | 15 => ("RoomNumbersModel", "rows", "I", false)
  | 16 => ("RoomNumbersModel", "sorts", "[I", true)
  | 17 => ("RoomNumbersModel", "sizes", "[I", true)
  | 18 => ("RoomNumbersModel", "item", "[J", true)
  | 19 => ("RoomNumbersModel", "holds", "[I", true)
  | 20 => ("RoomNumbersModel", "held", "[I", true)
  | 21 => ("RoomNumbersModel", "trace", "[I", true)
  | 22 => ("RoomNumbersModel", "traced", "I", false)
  | 23 => ("RoomNumbersModel", "speaks", "I", false)
  | _ => ("RoomNumbersModel", "isParted", "Z", false)
def tyX12 : Nat → FieldType := fun k => match k with
  | 0 => .array .int
  | 1 => .array .int
  | 2 => .array .int
  | 3 => .boolean
  | 4 => .array .int
  | 5 => .int
  | 6 => .int
  | 7 => .int
  | 8 => .int
  | 9 => .int
  | 10 => .int
  | 11 => .array .int
  | 12 => .array .int
  | 13 => .array .int
  | 14 => .array .long
  | 15 => .int
  | 16 => .array .int
  | 17 => .array .int
  | 18 => .array .long
  | 19 => .array .int
  | 20 => .array .int
  | 21 => .array .int
  | 22 => .int
  | 23 => .int
  | _ => .boolean
abbrev wsX120 : List Cond := u_ws RX12 TX12 25
theorem nmX12 : ∀ a, a < 25 → ∀ b, b < 25 → a ≠ b → (TX12 a).2.1 ≠ (TX12 b).2.1 := by decide +kernel
theorem tyX12_ok : ∀ k, k < 25 → parseFieldDescriptor (TX12 k).2.2.1 = some (tyX12 k) := by decide +kernel
abbrev cX12_init : ByteArray := prog_14_method_1_code
def yX12_init : MethodName := ⟨RX12, "<init>", "()V"⟩
abbrev cX12_carry : ByteArray := prog_14_method_2_code
def yX12_carry : MethodName := ⟨RX12, "carry", "([I[I)V"⟩
abbrev cX12_clears : ByteArray := prog_14_method_3_code
def yX12_clears : MethodName := ⟨RX12, "clears", "()V"⟩
abbrev cX12_in : ByteArray := prog_14_method_4_code
def yX12_in : MethodName := ⟨RX12, "in", "(III)Z"⟩
abbrev cX12_isNote : ByteArray := prog_14_method_5_code
def yX12_isNote : MethodName := ⟨RX12, "isNote", "(I)Z"⟩
abbrev cX12_isEvening : ByteArray := prog_14_method_6_code
def yX12_isEvening : MethodName := ⟨RX12, "isEvening", "(I)Z"⟩
abbrev cX12_isBase : ByteArray := prog_14_method_7_code
def yX12_isBase : MethodName := ⟨RX12, "isBase", "(I)Z"⟩
abbrev cX12_its : ByteArray := prog_14_method_8_code
def yX12_its : MethodName := ⟨RX12, "its", "(II)I"⟩
abbrev cX12_of : ByteArray := prog_14_method_9_code
def yX12_of : MethodName := ⟨RX12, "of", "(II)I"⟩
abbrev cX12_feed : ByteArray := prog_14_method_10_code
def yX12_feed : MethodName := ⟨RX12, "feed", "(JI)I"⟩
abbrev cX12_byteAt : ByteArray := prog_14_method_11_code
def yX12_byteAt : MethodName := ⟨RX12, "byteAt", "(I)I"⟩
abbrev cX12_next : ByteArray := prog_14_method_12_code
def yX12_next : MethodName := ⟨RX12, "next", "()V"⟩
abbrev cX12_isName : ByteArray := prog_14_method_13_code
def yX12_isName : MethodName := ⟨RX12, "isName", "(Ljava/lang/String;)Z"⟩
abbrev cX12_takesByte : ByteArray := prog_14_method_14_code
def yX12_takesByte : MethodName := ⟨RX12, "takesByte", "(I)Z"⟩
abbrev cX12_takesNumber : ByteArray := prog_14_method_15_code
def yX12_takesNumber : MethodName := ⟨RX12, "takesNumber", "(II)Z"⟩
abbrev cX12_kindNamed : ByteArray := prog_14_method_16_code
def yX12_kindNamed : MethodName := ⟨RX12, "kindNamed", "()I"⟩
abbrev cX12_takesNote : ByteArray := prog_14_method_17_code
def yX12_takesNote : MethodName := ⟨RX12, "takesNote", "(I)Z"⟩
abbrev cX12_takesEvening : ByteArray := prog_14_method_18_code
def yX12_takesEvening : MethodName := ⟨RX12, "takesEvening", "()Z"⟩
abbrev cX12_takesLine : ByteArray := prog_14_method_19_code
def yX12_takesLine : MethodName := ⟨RX12, "takesLine", "(I)Z"⟩
abbrev cX12_takesAll : ByteArray := prog_14_method_20_code
def yX12_takesAll : MethodName := ⟨RX12, "takesAll", "()Z"⟩
abbrev cX12_valley : ByteArray := prog_14_method_21_code
def yX12_valley : MethodName := ⟨RX12, "valley", "()I"⟩
abbrev cX12_evening : ByteArray := prog_14_method_22_code
def yX12_evening : MethodName := ⟨RX12, "evening", "(III)I"⟩
abbrev cX12_eveningOf : ByteArray := prog_14_method_23_code
def yX12_eveningOf : MethodName := ⟨RX12, "eveningOf", "(II)I"⟩
abbrev cX12_note : ByteArray := prog_14_method_24_code
def yX12_note : MethodName := ⟨RX12, "note", "(IIIII)I"⟩
abbrev cX12_noteOf : ByteArray := prog_14_method_25_code
def yX12_noteOf : MethodName := ⟨RX12, "noteOf", "(II)I"⟩
abbrev cX12_isPlace : ByteArray := prog_14_method_26_code
def yX12_isPlace : MethodName := ⟨RX12, "isPlace", "(II)Z"⟩
abbrev cX12_alter : ByteArray := prog_14_method_27_code
def yX12_alter : MethodName := ⟨RX12, "alter", "(III)I"⟩
abbrev cX12_move : ByteArray := prog_14_method_28_code
def yX12_move : MethodName := ⟨RX12, "move", "(II)I"⟩
abbrev cX12_baseAt : ByteArray := prog_14_method_29_code
def yX12_baseAt : MethodName := ⟨RX12, "baseAt", "(III)I"⟩
abbrev cX12_worthBy : ByteArray := prog_14_method_30_code
def yX12_worthBy : MethodName := ⟨RX12, "worthBy", "(II)J"⟩
abbrev cX12_canBe : ByteArray := prog_14_method_31_code
def yX12_canBe : MethodName := ⟨RX12, "canBe", "(II)Z"⟩
abbrev cX12_worth : ByteArray := prog_14_method_32_code
def yX12_worth : MethodName := ⟨RX12, "worth", "(II)J"⟩
abbrev cX12_can : ByteArray := prog_14_method_33_code
def yX12_can : MethodName := ⟨RX12, "can", "(I)I"⟩
abbrev cX12_isLine : ByteArray := prog_14_method_34_code
def yX12_isLine : MethodName := ⟨RX12, "isLine", "(I)Z"⟩
abbrev cX12_line : ByteArray := prog_14_method_35_code
def yX12_line : MethodName := ⟨RX12, "line", "(IIII)I"⟩
abbrev cX12_lineOf : ByteArray := prog_14_method_36_code
def yX12_lineOf : MethodName := ⟨RX12, "lineOf", "(II)I"⟩
abbrev cX12_strike : ByteArray := prog_14_method_37_code
def yX12_strike : MethodName := ⟨RX12, "strike", "(I)I"⟩
abbrev cX12_worthNow : ByteArray := prog_14_method_38_code
def yX12_worthNow : MethodName := ⟨RX12, "worthNow", "(I)J"⟩
abbrev cX12_holdsNow : ByteArray := prog_14_method_39_code
def yX12_holdsNow : MethodName := ⟨RX12, "holdsNow", "(I)Z"⟩
abbrev cX12_holdAll : ByteArray := prog_14_method_40_code
def yX12_holdAll : MethodName := ⟨RX12, "holdAll", "(I)Z"⟩
abbrev cX12_may1 : ByteArray := prog_14_method_41_code
def yX12_may1 : MethodName := ⟨RX12, "may1", "(I)I"⟩
abbrev cX12_findWorlds : ByteArray := prog_14_method_42_code
def yX12_findWorlds : MethodName := ⟨RX12, "findWorlds", "(II)I"⟩
abbrev cX12_worlds : ByteArray := prog_14_method_43_code
def yX12_worlds : MethodName := ⟨RX12, "worlds", "()I"⟩
abbrev cX12_hasWorld : ByteArray := prog_14_method_44_code
def yX12_hasWorld : MethodName := ⟨RX12, "hasWorld", "(I)Z"⟩
abbrev cX12_findWorld : ByteArray := prog_14_method_45_code
def yX12_findWorld : MethodName := ⟨RX12, "findWorld", "(I)Z"⟩
abbrev cX12_world : ByteArray := prog_14_method_46_code
def yX12_world : MethodName := ⟨RX12, "world", "(II)I"⟩
abbrev cX12_may : ByteArray := prog_14_method_47_code
def yX12_may : MethodName := ⟨RX12, "may", "(I)I"⟩
abbrev cX12_sure : ByteArray := prog_14_method_48_code
def yX12_sure : MethodName := ⟨RX12, "sure", "(I)I"⟩
abbrev cX12_holds : ByteArray := prog_14_method_49_code
def yX12_holds : MethodName := ⟨RX12, "holds", "(IIII)I"⟩
abbrev cX12_many : ByteArray := prog_14_method_50_code
def yX12_many : MethodName := ⟨RX12, "many", "(II)I"⟩
abbrev cX12_proof : ByteArray := prog_14_method_51_code
def yX12_proof : MethodName := ⟨RX12, "proof", "()I"⟩
abbrev cX12_mended : ByteArray := prog_14_method_52_code
def yX12_mended : MethodName := ⟨RX12, "mended", "(I)I"⟩
abbrev cX12_which : ByteArray := prog_14_method_53_code
def yX12_which : MethodName := ⟨RX12, "which", "(I)I"⟩
abbrev cX12_gain : ByteArray := prog_14_method_54_code
def yX12_gain : MethodName := ⟨RX12, "gain", "(III)J"⟩
abbrev cX12_signsOf : ByteArray := prog_14_method_55_code
def yX12_signsOf : MethodName := ⟨RX12, "signsOf", "(II)I"⟩
abbrev cX12_signFromEnd : ByteArray := prog_14_method_56_code
def yX12_signFromEnd : MethodName := ⟨RX12, "signFromEnd", "(III)I"⟩
abbrev cX12_written : ByteArray := prog_14_method_57_code
def yX12_written : MethodName := ⟨RX12, "written", "(III)I"⟩
abbrev cX12_areBases : ByteArray := prog_14_method_58_code
def yX12_areBases : MethodName := ⟨RX12, "areBases", "(I)Z"⟩
abbrev cX12_isAlike : ByteArray := prog_14_method_59_code
def yX12_isAlike : MethodName := ⟨RX12, "isAlike", "(II)Z"⟩
abbrev cX12_alike : ByteArray := prog_14_method_60_code
def yX12_alike : MethodName := ⟨RX12, "alike", "(II)I"⟩
abbrev cX12_shortest : ByteArray := prog_14_method_61_code
def yX12_shortest : MethodName := ⟨RX12, "shortest", "(II)I"⟩
abbrev cX12_fromEnd : ByteArray := prog_14_method_62_code
def yX12_fromEnd : MethodName := ⟨RX12, "fromEnd", "(II)I"⟩
abbrev cX12_add : ByteArray := prog_14_method_63_code
def yX12_add : MethodName := ⟨RX12, "add", "(II)I"⟩
abbrev cX12_seed : ByteArray := prog_14_method_64_code
def yX12_seed : MethodName := ⟨RX12, "seed", "(I)I"⟩
abbrev cX12_guess : ByteArray := prog_14_method_65_code
def yX12_guess : MethodName := ⟨RX12, "guess", "()I"⟩
abbrev cX12_prove : ByteArray := prog_14_method_66_code
def yX12_prove : MethodName := ⟨RX12, "prove", "(I)I"⟩
abbrev cX12_isRow : ByteArray := prog_14_method_67_code
def yX12_isRow : MethodName := ⟨RX12, "isRow", "(II)Z"⟩
abbrev cX12_row : ByteArray := prog_14_method_68_code
def yX12_row : MethodName := ⟨RX12, "row", "(II)J"⟩
abbrev cX12_alterRow : ByteArray := prog_14_method_69_code
def yX12_alterRow : MethodName := ⟨RX12, "alterRow", "(IIJ)J"⟩
abbrev cX12_isRight : ByteArray := prog_14_method_70_code
def yX12_isRight : MethodName := ⟨RX12, "isRight", "(I)Z"⟩
abbrev cX12_judge : ByteArray := prog_14_method_71_code
def yX12_judge : MethodName := ⟨RX12, "judge", "()I"⟩
abbrev cX12_isSheet : ByteArray := prog_14_method_72_code
def yX12_isSheet : MethodName := ⟨RX12, "isSheet", "(I)Z"⟩
abbrev cX12_signs : ByteArray := prog_14_method_73_code
def yX12_signs : MethodName := ⟨RX12, "signs", "(IIII)I"⟩
abbrev cX12_sheet : ByteArray := prog_14_method_74_code
def yX12_sheet : MethodName := ⟨RX12, "sheet", "(III)I"⟩
abbrev cX12_narrowed : ByteArray := prog_14_method_75_code
def yX12_narrowed : MethodName := ⟨RX12, "narrowed", "(II)J"⟩
abbrev cX12_put : ByteArray := prog_14_method_76_code
def yX12_put : MethodName := ⟨RX12, "put", "(III)I"⟩
abbrev cX12_item : ByteArray := prog_14_method_77_code
def yX12_item : MethodName := ⟨RX12, "item", "(III)I"⟩
abbrev cX12_isShelf : ByteArray := prog_14_method_78_code
def yX12_isShelf : MethodName := ⟨RX12, "isShelf", "(I)Z"⟩
abbrev cX12_shelf : ByteArray := prog_14_method_79_code
def yX12_shelf : MethodName := ⟨RX12, "shelf", "(III)I"⟩
abbrev cX12_isEmpty : ByteArray := prog_14_method_80_code
def yX12_isEmpty : MethodName := ⟨RX12, "isEmpty", "(I)Z"⟩
abbrev cX12_isUnder : ByteArray := prog_14_method_81_code
def yX12_isUnder : MethodName := ⟨RX12, "isUnder", "(II)Z"⟩
abbrev cX12_taken : ByteArray := prog_14_method_82_code
def yX12_taken : MethodName := ⟨RX12, "taken", "(II)I"⟩
abbrev cX12_ran : ByteArray := prog_14_method_83_code
def yX12_ran : MethodName := ⟨RX12, "ran", "(I)V"⟩
abbrev cX12_above : ByteArray := prog_14_method_84_code
def yX12_above : MethodName := ⟨RX12, "above", "(I)I"⟩
abbrev cX12_kindNow : ByteArray := prog_14_method_85_code
def yX12_kindNow : MethodName := ⟨RX12, "kindNow", "()I"⟩
abbrev cX12_reads : ByteArray := prog_14_method_86_code
def yX12_reads : MethodName := ⟨RX12, "reads", "(II)I"⟩
abbrev cX12_writes : ByteArray := prog_14_method_87_code
def yX12_writes : MethodName := ⟨RX12, "writes", "(II)I"⟩
abbrev cX12_shares : ByteArray := prog_14_method_88_code
def yX12_shares : MethodName := ⟨RX12, "shares", "(II)I"⟩
abbrev cX12_tells : ByteArray := prog_14_method_89_code
def yX12_tells : MethodName := ⟨RX12, "tells", "(II)I"⟩
abbrev cX12_act : ByteArray := prog_14_method_90_code
def yX12_act : MethodName := ⟨RX12, "act", "(III)I"⟩
abbrev cX12_trace : ByteArray := prog_14_method_91_code
def yX12_trace : MethodName := ⟨RX12, "trace", "(I)I"⟩
abbrev cX12_many_ : ByteArray := prog_14_method_92_code
def yX12_many_ : MethodName := ⟨RX12, "many", "(I)I"⟩
abbrev cX12_keep : ByteArray := prog_14_method_93_code
def yX12_keep : MethodName := ⟨RX12, "keep", "()I"⟩
abbrev cX12_again : ByteArray := prog_14_method_94_code
def yX12_again : MethodName := ⟨RX12, "again", "()I"⟩
def RJx145de : String := "java/io/Serializable"
def RJx9f9b0 : String := "java/lang/CharSequence"
def RJx8e188 : String := "java/lang/Cloneable"
def RJxb160c : String := "java/lang/Comparable"
def RJ6 : String := "java/lang/Integer"
abbrev cJ6_bitCount_0f7a4 : ByteArray := prog_16_method_49_code
def yJ6_bitCount_0f7a4 : MethodName := ⟨RJ6, "bitCount", "(I)I"⟩
def RJ9 : String := "java/lang/Math"
abbrev cJ9_max_7cf53 : ByteArray := prog_17_method_65_code
def yJ9_max_7cf53 : MethodName := ⟨RJ9, "max", "(II)I"⟩
abbrev cJ9_max_f86c9 : ByteArray := prog_17_method_66_code
def yJ9_max_f86c9 : MethodName := ⟨RJ9, "max", "(JJ)J"⟩
abbrev cJ9_min_7cf53 : ByteArray := prog_17_method_69_code
def yJ9_min_7cf53 : MethodName := ⟨RJ9, "min", "(II)I"⟩
abbrev cJ9_min_f86c9 : ByteArray := prog_17_method_70_code
def yJ9_min_f86c9 : MethodName := ⟨RJ9, "min", "(JJ)J"⟩
def RJ0 : String := "java/lang/String"
abbrev cJ0_length_8abf5 : ByteArray := prog_18_method_54_code
def yJ0_length_8abf5 : MethodName := ⟨RJ0, "length", "()I"⟩
abbrev cJ0_charAt_5068e : ByteArray := prog_18_method_56_code
def yJ0_charAt_5068e : MethodName := ⟨RJ0, "charAt", "(I)C"⟩
abbrev cJ0_coder_7d493 : ByteArray := prog_18_method_152_code
def yJ0_coder_7d493 : MethodName := ⟨RJ0, "coder", "()B"⟩
abbrev cJ0_isLatin1_aae02 : ByteArray := prog_18_method_154_code
def yJ0_isLatin1_aae02 : MethodName := ⟨RJ0, "isLatin1", "()Z"⟩
abbrev cJ0_checkIndex_df160 : ByteArray := prog_18_method_155_code
def yJ0_checkIndex_df160 : MethodName := ⟨RJ0, "checkIndex", "(II)V"⟩
def RJ1 : String := "java/lang/StringLatin1"
abbrev cJ1_charAt_3b067 : ByteArray := prog_19_method_2_code
def yJ1_charAt_3b067 : MethodName := ⟨RJ1, "charAt", "([BI)C"⟩
def RJ2 : String := "java/lang/StringUTF16"
abbrev cJ2_getChar_3b067 : ByteArray := prog_20_method_5_code
def yJ2_getChar_3b067 : MethodName := ⟨RJ2, "getChar", "([BI)C"⟩
abbrev cJ2_length_9d52b : ByteArray := prog_20_method_6_code
def yJ2_length_9d52b : MethodName := ⟨RJ2, "length", "([B)I"⟩
abbrev cJ2_charAt_3b067 : ByteArray := prog_20_method_83_code
def yJ2_charAt_3b067 : MethodName := ⟨RJ2, "charAt", "([BI)C"⟩
abbrev cJ2_checkIndex_2214a : ByteArray := prog_20_method_91_code
def yJ2_checkIndex_2214a : MethodName := ⟨RJ2, "checkIndex", "(I[B)V"⟩
def RJ10 : String := "java/lang/System"
def RJxfd54e : String := "java/lang/constant/Constable"
def RJx3cf43 : String := "java/lang/constant/ConstantDesc"
def RJ7 : String := "java/util/Arrays"
abbrev cJ7_fill_53178 : ByteArray := prog_22_method_103_code
def yJ7_fill_53178 : MethodName := ⟨RJ7, "fill", "([II)V"⟩
def RJ3 : String := "jdk/internal/util/Preconditions"
abbrev cJ3_checkIndex_8e157 : ByteArray := prog_23_method_11_code
def yJ3_checkIndex_8e157 : MethodName := ⟨RJ3, "checkIndex", "(IILjava/util/function/BiFunction;)I"⟩
def RL : String := "RoomNumbersLaw"
abbrev cL_law : ByteArray := code
def yL_law : MethodName := ⟨RL, "law", "([I)Z"⟩
abbrev vwCl : List vw_C := [(RX0, TX0, 4), (RX1, TX1, 4), (RX2, TX2, 16), (RX3, TX3, 4), (RX4, TX4, 4), (RX5, TX5, 2), (RX6, TX6, 4), (RX7, TX7, 8), (RX8, TX8, 3), (RX9, TX9, 4), (RX10, TX10, 7), (RX11, TX11, 17), (RX12, TX12, 25)]
def tb_g : List Cond := lw_tbl.filter goodWord
theorem tb_in {w : Cond} (h : w ∈ lw_tbl) (g : goodWord w = true) : w ∈ tb_g := List.mem_filter.mpr ⟨h, g⟩
theorem tb_good : ∀ w ∈ tb_g, (w.onTables && w.keeps) = true ∨ ∃ ty, w = .arrayClass ty := fun _ h => good_of_word (List.mem_filter.mp h).2
theorem tb_t {w : Cond} (i : Nat) (h : lw_tbl[i]? = some w) (g : goodWord w = true) : w ∈ tb_g := tb_in (List.mem_of_getElem? h) g
theorem tb_c0 {w : Cond} (h : w ∈ k2_sels lw_privs) (g : goodWord w = true) : w ∈ tb_g := tb_in (List.mem_append_left _ h) g
theorem tb_l1 {w : Cond} (h : w ∈ tables_1_1) : w ∈ lw_tbl := List.mem_append_right _ (List.mem_append_left _ h)
theorem tb_c1 {w : Cond} (i : Nat) (h : tables_1_1[i]? = some w) (g : goodWord w = true) : w ∈ tb_g := tb_in (tb_l1 (List.mem_of_getElem? h)) g
theorem tb_l2 {w : Cond} (h : w ∈ tables_1_2) : w ∈ lw_tbl := List.mem_append_right _ (List.mem_append_right _ (List.mem_append_left _ h))
theorem tb_c2 {w : Cond} (i : Nat) (h : tables_1_2[i]? = some w) (g : goodWord w = true) : w ∈ tb_g := tb_in (tb_l2 (List.mem_of_getElem? h)) g
theorem tb_l3 {w : Cond} (h : w ∈ tables_1_3) : w ∈ lw_tbl := List.mem_append_right _ (List.mem_append_right _ (List.mem_append_right _ (List.mem_append_left _ h)))
theorem tb_c3 {w : Cond} (i : Nat) (h : tables_1_3[i]? = some w) (g : goodWord w = true) : w ∈ tb_g := tb_in (tb_l3 (List.mem_of_getElem? h)) g
theorem tb_l4 {w : Cond} (h : w ∈ tables_1_4) : w ∈ lw_tbl := List.mem_append_right _ (List.mem_append_right _ (List.mem_append_right _ (List.mem_append_right _ (List.mem_append_left _ h))))
theorem tb_c4 {w : Cond} (i : Nat) (h : tables_1_4[i]? = some w) (g : goodWord w = true) : w ∈ tb_g := tb_in (tb_l4 (List.mem_of_getElem? h)) g
theorem tb_l5 {w : Cond} (h : w ∈ tables_1_5) : w ∈ lw_tbl := List.mem_append_right _ (List.mem_append_right _ (List.mem_append_right _ (List.mem_append_right _ (List.mem_append_right _ (List.mem_append_left _ h)))))
theorem tb_c5 {w : Cond} (i : Nat) (h : tables_1_5[i]? = some w) (g : goodWord w = true) : w ∈ tb_g := tb_in (tb_l5 (List.mem_of_getElem? h)) g
theorem tb_l6 {w : Cond} (h : w ∈ tables_1_6) : w ∈ lw_tbl := List.mem_append_right _ (List.mem_append_right _ (List.mem_append_right _ (List.mem_append_right _ (List.mem_append_right _ (List.mem_append_right _ (List.mem_append_left _ h))))))
theorem tb_c6 {w : Cond} (i : Nat) (h : tables_1_6[i]? = some w) (g : goodWord w = true) : w ∈ tb_g := tb_in (tb_l6 (List.mem_of_getElem? h)) g
theorem tb_l7 {w : Cond} (h : w ∈ tables_1_7) : w ∈ lw_tbl := List.mem_append_right _ (List.mem_append_right _ (List.mem_append_right _ (List.mem_append_right _ (List.mem_append_right _ (List.mem_append_right _ (List.mem_append_right _ (h)))))))
theorem tb_c7 {w : Cond} (i : Nat) (h : tables_1_7[i]? = some w) (g : goodWord w = true) : w ∈ tb_g := tb_in (tb_l7 (List.mem_of_getElem? h)) g
