-- ===== PART A: goes FIRST, ahead of the names: the tables' words, and 'selects' of the private methods out of them =====
/-- a private method of a class that the tables say can be made, by its rows of tables_1 -/
def lw_okq (q : MethodName × Nat) : Prop := (q.1.cls ≠ "java/lang/invoke/MethodHandle" ∧ q.1.cls ≠ "java/lang/invoke/VarHandle") ∧ Cond.instantiable q.1.cls q.2 ∈ tables_1 ∧ Cond.privateMethod q.1 ∈ tables_1 ∧ Cond.instanceMethod q.1 ∈ tables_1
theorem lw_p0 : lw_okq (⟨"UpTheFlue$Reader", "next", "()V"⟩, 9) := ⟨⟨by decide +kernel, by decide +kernel⟩, List.mem_of_getElem? (i := 25) (by decide +kernel), List.mem_of_getElem? (i := 168) (by decide +kernel), List.mem_of_getElem? (i := 169) (by decide +kernel)⟩
theorem lw_p1 : lw_okq (⟨"UpTheFlue$Reader", "skipBlanks", "()V"⟩, 9) := ⟨⟨by decide +kernel, by decide +kernel⟩, List.mem_of_getElem? (i := 25) (by decide +kernel), List.mem_of_getElem? (i := 172) (by decide +kernel), List.mem_of_getElem? (i := 173) (by decide +kernel)⟩
theorem lw_p2 : lw_okq (⟨"UpTheFlue$Reader", "byteAt", "(I)I"⟩, 9) := ⟨⟨by decide +kernel, by decide +kernel⟩, List.mem_of_getElem? (i := 25) (by decide +kernel), List.mem_of_getElem? (i := 176) (by decide +kernel), List.mem_of_getElem? (i := 177) (by decide +kernel)⟩
theorem lw_p3 : lw_okq (⟨"UpTheFlue$Reader", "readWord", "()V"⟩, 9) := ⟨⟨by decide +kernel, by decide +kernel⟩, List.mem_of_getElem? (i := 25) (by decide +kernel), List.mem_of_getElem? (i := 183) (by decide +kernel), List.mem_of_getElem? (i := 184) (by decide +kernel)⟩
theorem lw_p4 : lw_okq (⟨"UpTheFlue$Reader", "wordNumber", "()I"⟩, 9) := ⟨⟨by decide +kernel, by decide +kernel⟩, List.mem_of_getElem? (i := 25) (by decide +kernel), List.mem_of_getElem? (i := 187) (by decide +kernel), List.mem_of_getElem? (i := 188) (by decide +kernel)⟩
theorem lw_p5 : lw_okq (⟨"UpTheFlue$Reader", "readNumber", "()V"⟩, 9) := ⟨⟨by decide +kernel, by decide +kernel⟩, List.mem_of_getElem? (i := 25) (by decide +kernel), List.mem_of_getElem? (i := 195) (by decide +kernel), List.mem_of_getElem? (i := 196) (by decide +kernel)⟩
theorem lw_p6 : lw_okq (⟨"UpTheFlue$Reader", "readSaying", "(LUpTheFlue$Law;)Z"⟩, 9) := ⟨⟨by decide +kernel, by decide +kernel⟩, List.mem_of_getElem? (i := 25) (by decide +kernel), List.mem_of_getElem? (i := 202) (by decide +kernel), List.mem_of_getElem? (i := 203) (by decide +kernel)⟩
theorem lw_p7 : lw_okq (⟨"UpTheFlue$Reader", "opens", "()Z"⟩, 9) := ⟨⟨by decide +kernel, by decide +kernel⟩, List.mem_of_getElem? (i := 25) (by decide +kernel), List.mem_of_getElem? (i := 210) (by decide +kernel), List.mem_of_getElem? (i := 211) (by decide +kernel)⟩
theorem lw_p8 : lw_okq (⟨"UpTheFlue$Reader", "lastWaiting", "()I"⟩, 9) := ⟨⟨by decide +kernel, by decide +kernel⟩, List.mem_of_getElem? (i := 25) (by decide +kernel), List.mem_of_getElem? (i := 214) (by decide +kernel), List.mem_of_getElem? (i := 215) (by decide +kernel)⟩
theorem lw_p9 : lw_okq (⟨"UpTheFlue$Reader", "await", "(I)V"⟩, 9) := ⟨⟨by decide +kernel, by decide +kernel⟩, List.mem_of_getElem? (i := 25) (by decide +kernel), List.mem_of_getElem? (i := 221) (by decide +kernel), List.mem_of_getElem? (i := 222) (by decide +kernel)⟩
theorem lw_p10 : lw_okq (⟨"UpTheFlue$Reader", "settle", "(ILUpTheFlue$Law;)V"⟩, 9) := ⟨⟨by decide +kernel, by decide +kernel⟩, List.mem_of_getElem? (i := 25) (by decide +kernel), List.mem_of_getElem? (i := 225) (by decide +kernel), List.mem_of_getElem? (i := 226) (by decide +kernel)⟩
theorem lw_p11 : lw_okq (⟨"UpTheFlue$Reader", "closes", "(LUpTheFlue$Law;)Z"⟩, 9) := ⟨⟨by decide +kernel, by decide +kernel⟩, List.mem_of_getElem? (i := 25) (by decide +kernel), List.mem_of_getElem? (i := 229) (by decide +kernel), List.mem_of_getElem? (i := 230) (by decide +kernel)⟩
theorem lw_p12 : lw_okq (⟨"UpTheFlue$Reader", "joins", "(LUpTheFlue$Law;)Z"⟩, 9) := ⟨⟨by decide +kernel, by decide +kernel⟩, List.mem_of_getElem? (i := 25) (by decide +kernel), List.mem_of_getElem? (i := 233) (by decide +kernel), List.mem_of_getElem? (i := 234) (by decide +kernel)⟩
theorem lw_p13 : lw_okq (⟨"UpTheFlue", "textAt", "(II)LUpTheFlue$Law;"⟩, 7) := ⟨⟨by decide +kernel, by decide +kernel⟩, List.mem_of_getElem? (i := 17) (by decide +kernel), List.mem_of_getElem? (i := 344) (by decide +kernel), List.mem_of_getElem? (i := 345) (by decide +kernel)⟩
theorem lw_p14 : lw_okq (⟨"UpTheFlue$Law", "step", "(III)I"⟩, 5) := ⟨⟨by decide +kernel, by decide +kernel⟩, List.mem_of_getElem? (i := 64) (by decide +kernel), List.mem_of_getElem? (i := 368) (by decide +kernel), List.mem_of_getElem? (i := 369) (by decide +kernel)⟩
theorem lw_p15 : lw_okq (⟨"UpTheFlue$House", "gatherPlaces", "()I"⟩, 7) := ⟨⟨by decide +kernel, by decide +kernel⟩, List.mem_of_getElem? (i := 244) (by decide +kernel), List.mem_of_getElem? (i := 634) (by decide +kernel), List.mem_of_getElem? (i := 635) (by decide +kernel)⟩
def lw_privs_1 : List (MethodName × Nat) := [(⟨"UpTheFlue$Reader", "next", "()V"⟩, 9), (⟨"UpTheFlue$Reader", "skipBlanks", "()V"⟩, 9), (⟨"UpTheFlue$Reader", "byteAt", "(I)I"⟩, 9), (⟨"UpTheFlue$Reader", "readWord", "()V"⟩, 9), (⟨"UpTheFlue$Reader", "wordNumber", "()I"⟩, 9), (⟨"UpTheFlue$Reader", "readNumber", "()V"⟩, 9), (⟨"UpTheFlue$Reader", "readSaying", "(LUpTheFlue$Law;)Z"⟩, 9), (⟨"UpTheFlue$Reader", "opens", "()Z"⟩, 9), (⟨"UpTheFlue$Reader", "lastWaiting", "()I"⟩, 9), (⟨"UpTheFlue$Reader", "await", "(I)V"⟩, 9), (⟨"UpTheFlue$Reader", "settle", "(ILUpTheFlue$Law;)V"⟩, 9), (⟨"UpTheFlue$Reader", "closes", "(LUpTheFlue$Law;)Z"⟩, 9), (⟨"UpTheFlue$Reader", "joins", "(LUpTheFlue$Law;)Z"⟩, 9), (⟨"UpTheFlue", "textAt", "(II)LUpTheFlue$Law;"⟩, 7), (⟨"UpTheFlue$Law", "step", "(III)I"⟩, 5), (⟨"UpTheFlue$House", "gatherPlaces", "()I"⟩, 7)]
theorem lw_r1 : ∀ q ∈ lw_privs_1, lw_okq q := List.forall_mem_cons.mpr ⟨lw_p0, List.forall_mem_cons.mpr ⟨lw_p1, List.forall_mem_cons.mpr ⟨lw_p2, List.forall_mem_cons.mpr ⟨lw_p3, List.forall_mem_cons.mpr ⟨lw_p4, List.forall_mem_cons.mpr ⟨lw_p5, List.forall_mem_cons.mpr ⟨lw_p6, List.forall_mem_cons.mpr ⟨lw_p7, List.forall_mem_cons.mpr ⟨lw_p8, List.forall_mem_cons.mpr ⟨lw_p9, List.forall_mem_cons.mpr ⟨lw_p10, List.forall_mem_cons.mpr ⟨lw_p11, List.forall_mem_cons.mpr ⟨lw_p12, List.forall_mem_cons.mpr ⟨lw_p13, List.forall_mem_cons.mpr ⟨lw_p14, List.forall_mem_cons.mpr ⟨lw_p15, fun _ h => absurd h List.not_mem_nil⟩⟩⟩⟩⟩⟩⟩⟩⟩⟩⟩⟩⟩⟩⟩⟩
theorem lw_p16 : lw_okq (⟨"UpTheFlue$House", "layOrder", "(II)Z"⟩, 7) := ⟨⟨by decide +kernel, by decide +kernel⟩, List.mem_of_getElem? (i := 244) (by decide +kernel), List.mem_of_getElem? (i := 639) (by decide +kernel), List.mem_of_getElem? (i := 640) (by decide +kernel)⟩
theorem lw_p17 : lw_okq (⟨"UpTheFlue$House", "mostSootInRound", "(III)I"⟩, 7) := ⟨⟨by decide +kernel, by decide +kernel⟩, List.mem_of_getElem? (i := 244) (by decide +kernel), List.mem_of_getElem? (i := 643) (by decide +kernel), List.mem_of_getElem? (i := 644) (by decide +kernel)⟩
theorem lw_p18 : lw_okq (⟨"UpTheFlue$House", "mostSoot", "()I"⟩, 7) := ⟨⟨by decide +kernel, by decide +kernel⟩, List.mem_of_getElem? (i := 244) (by decide +kernel), List.mem_of_getElem? (i := 648) (by decide +kernel), List.mem_of_getElem? (i := 649) (by decide +kernel)⟩
theorem lw_p19 : lw_okq (⟨"UpTheFlue$House", "orderAsDigits", "(I)I"⟩, 7) := ⟨⟨by decide +kernel, by decide +kernel⟩, List.mem_of_getElem? (i := 244) (by decide +kernel), List.mem_of_getElem? (i := 654) (by decide +kernel), List.mem_of_getElem? (i := 655) (by decide +kernel)⟩
theorem lw_p20 : lw_okq (⟨"UpTheFlue", "sheetAt", "(I)LUpTheFlue$Sheet;"⟩, 7) := ⟨⟨by decide +kernel, by decide +kernel⟩, List.mem_of_getElem? (i := 17) (by decide +kernel), List.mem_of_getElem? (i := 668) (by decide +kernel), List.mem_of_getElem? (i := 669) (by decide +kernel)⟩
theorem lw_p21 : lw_okq (⟨"UpTheFlueModel", "next", "()V"⟩, 39) := ⟨⟨by decide +kernel, by decide +kernel⟩, List.mem_of_getElem? (i := 786) (by decide +kernel), List.mem_of_getElem? (i := 796) (by decide +kernel), List.mem_of_getElem? (i := 797) (by decide +kernel)⟩
theorem lw_p22 : lw_okq (⟨"UpTheFlueModel", "wordFrom", "(II)I"⟩, 39) := ⟨⟨by decide +kernel, by decide +kernel⟩, List.mem_of_getElem? (i := 786) (by decide +kernel), List.mem_of_getElem? (i := 803) (by decide +kernel), List.mem_of_getElem? (i := 804) (by decide +kernel)⟩
theorem lw_p23 : lw_okq (⟨"UpTheFlueModel", "eRead", "()Z"⟩, 39) := ⟨⟨by decide +kernel, by decide +kernel⟩, List.mem_of_getElem? (i := 786) (by decide +kernel), List.mem_of_getElem? (i := 807) (by decide +kernel), List.mem_of_getElem? (i := 808) (by decide +kernel)⟩
theorem lw_p24 : lw_okq (⟨"UpTheFlueModel", "puts", "(I)V"⟩, 39) := ⟨⟨by decide +kernel, by decide +kernel⟩, List.mem_of_getElem? (i := 786) (by decide +kernel), List.mem_of_getElem? (i := 812) (by decide +kernel), List.mem_of_getElem? (i := 813) (by decide +kernel)⟩
theorem lw_p25 : lw_okq (⟨"UpTheFlueModel", "unwinds", "(I)V"⟩, 39) := ⟨⟨by decide +kernel, by decide +kernel⟩, List.mem_of_getElem? (i := 786) (by decide +kernel), List.mem_of_getElem? (i := 816) (by decide +kernel), List.mem_of_getElem? (i := 817) (by decide +kernel)⟩
theorem lw_p26 : lw_okq (⟨"UpTheFlueModel", "opensOne", "(I)Z"⟩, 39) := ⟨⟨by decide +kernel, by decide +kernel⟩, List.mem_of_getElem? (i := 786) (by decide +kernel), List.mem_of_getElem? (i := 823) (by decide +kernel), List.mem_of_getElem? (i := 824) (by decide +kernel)⟩
theorem lw_p27 : lw_okq (⟨"UpTheFlueModel", "holds", "(I)V"⟩, 39) := ⟨⟨by decide +kernel, by decide +kernel⟩, List.mem_of_getElem? (i := 786) (by decide +kernel), List.mem_of_getElem? (i := 827) (by decide +kernel), List.mem_of_getElem? (i := 828) (by decide +kernel)⟩
theorem lw_p28 : lw_okq (⟨"UpTheFlueModel", "signOf", "()I"⟩, 39) := ⟨⟨by decide +kernel, by decide +kernel⟩, List.mem_of_getElem? (i := 786) (by decide +kernel), List.mem_of_getElem? (i := 831) (by decide +kernel), List.mem_of_getElem? (i := 832) (by decide +kernel)⟩
theorem lw_p29 : lw_okq (⟨"UpTheFlueModel", "between", "(I)Z"⟩, 39) := ⟨⟨by decide +kernel, by decide +kernel⟩, List.mem_of_getElem? (i := 786) (by decide +kernel), List.mem_of_getElem? (i := 835) (by decide +kernel), List.mem_of_getElem? (i := 836) (by decide +kernel)⟩
theorem lw_p30 : lw_okq (⟨"UpTheFlueModel", "setOf", "(I)I"⟩, 39) := ⟨⟨by decide +kernel, by decide +kernel⟩, List.mem_of_getElem? (i := 786) (by decide +kernel), List.mem_of_getElem? (i := 961) (by decide +kernel), List.mem_of_getElem? (i := 962) (by decide +kernel)⟩
theorem lw_p31 : lw_okq (⟨"UpTheFlueModel", "isFireplace", "(I)Z"⟩, 39) := ⟨⟨by decide +kernel, by decide +kernel⟩, List.mem_of_getElem? (i := 786) (by decide +kernel), List.mem_of_getElem? (i := 965) (by decide +kernel), List.mem_of_getElem? (i := 966) (by decide +kernel)⟩
def lw_privs_2 : List (MethodName × Nat) := [(⟨"UpTheFlue$House", "layOrder", "(II)Z"⟩, 7), (⟨"UpTheFlue$House", "mostSootInRound", "(III)I"⟩, 7), (⟨"UpTheFlue$House", "mostSoot", "()I"⟩, 7), (⟨"UpTheFlue$House", "orderAsDigits", "(I)I"⟩, 7), (⟨"UpTheFlue", "sheetAt", "(I)LUpTheFlue$Sheet;"⟩, 7), (⟨"UpTheFlueModel", "next", "()V"⟩, 39), (⟨"UpTheFlueModel", "wordFrom", "(II)I"⟩, 39), (⟨"UpTheFlueModel", "eRead", "()Z"⟩, 39), (⟨"UpTheFlueModel", "puts", "(I)V"⟩, 39), (⟨"UpTheFlueModel", "unwinds", "(I)V"⟩, 39), (⟨"UpTheFlueModel", "opensOne", "(I)Z"⟩, 39), (⟨"UpTheFlueModel", "holds", "(I)V"⟩, 39), (⟨"UpTheFlueModel", "signOf", "()I"⟩, 39), (⟨"UpTheFlueModel", "between", "(I)Z"⟩, 39), (⟨"UpTheFlueModel", "setOf", "(I)I"⟩, 39), (⟨"UpTheFlueModel", "isFireplace", "(I)Z"⟩, 39)]
theorem lw_r2 : ∀ q ∈ lw_privs_2, lw_okq q := List.forall_mem_cons.mpr ⟨lw_p16, List.forall_mem_cons.mpr ⟨lw_p17, List.forall_mem_cons.mpr ⟨lw_p18, List.forall_mem_cons.mpr ⟨lw_p19, List.forall_mem_cons.mpr ⟨lw_p20, List.forall_mem_cons.mpr ⟨lw_p21, List.forall_mem_cons.mpr ⟨lw_p22, List.forall_mem_cons.mpr ⟨lw_p23, List.forall_mem_cons.mpr ⟨lw_p24, List.forall_mem_cons.mpr ⟨lw_p25, List.forall_mem_cons.mpr ⟨lw_p26, List.forall_mem_cons.mpr ⟨lw_p27, List.forall_mem_cons.mpr ⟨lw_p28, List.forall_mem_cons.mpr ⟨lw_p29, List.forall_mem_cons.mpr ⟨lw_p30, List.forall_mem_cons.mpr ⟨lw_p31, fun _ h => absurd h List.not_mem_nil⟩⟩⟩⟩⟩⟩⟩⟩⟩⟩⟩⟩⟩⟩⟩⟩
theorem lw_p32 : lw_okq (⟨"UpTheFlueModel", "isBit", "(I)Z"⟩, 39) := ⟨⟨by decide +kernel, by decide +kernel⟩, List.mem_of_getElem? (i := 786) (by decide +kernel), List.mem_of_getElem? (i := 969) (by decide +kernel), List.mem_of_getElem? (i := 970) (by decide +kernel)⟩
theorem lw_p33 : lw_okq (⟨"UpTheFlueModel", "isPot", "(I)Z"⟩, 39) := ⟨⟨by decide +kernel, by decide +kernel⟩, List.mem_of_getElem? (i := 786) (by decide +kernel), List.mem_of_getElem? (i := 973) (by decide +kernel), List.mem_of_getElem? (i := 974) (by decide +kernel)⟩
theorem lw_p34 : lw_okq (⟨"UpTheFlueModel", "asksOf", "(IIII)I"⟩, 39) := ⟨⟨by decide +kernel, by decide +kernel⟩, List.mem_of_getElem? (i := 786) (by decide +kernel), List.mem_of_getElem? (i := 996) (by decide +kernel), List.mem_of_getElem? (i := 997) (by decide +kernel)⟩
theorem lw_p35 : lw_okq (⟨"UpTheFlueModel", "is", "(I)I"⟩, 39) := ⟨⟨by decide +kernel, by decide +kernel⟩, List.mem_of_getElem? (i := 786) (by decide +kernel), List.mem_of_getElem? (i := 1000) (by decide +kernel), List.mem_of_getElem? (i := 1001) (by decide +kernel)⟩
theorem lw_p36 : lw_okq (⟨"UpTheFlueModel", "worth", "(I)I"⟩, 39) := ⟨⟨by decide +kernel, by decide +kernel⟩, List.mem_of_getElem? (i := 786) (by decide +kernel), List.mem_of_getElem? (i := 1007) (by decide +kernel), List.mem_of_getElem? (i := 1008) (by decide +kernel)⟩
theorem lw_p37 : lw_okq (⟨"UpTheFlueModel", "leaks", "(I)I"⟩, 39) := ⟨⟨by decide +kernel, by decide +kernel⟩, List.mem_of_getElem? (i := 786) (by decide +kernel), List.mem_of_getElem? (i := 1033) (by decide +kernel), List.mem_of_getElem? (i := 1034) (by decide +kernel)⟩
theorem lw_p38 : lw_okq (⟨"UpTheFlueModel", "lastOf", "(I)I"⟩, 39) := ⟨⟨by decide +kernel, by decide +kernel⟩, List.mem_of_getElem? (i := 786) (by decide +kernel), List.mem_of_getElem? (i := 1045) (by decide +kernel), List.mem_of_getElem? (i := 1046) (by decide +kernel)⟩
theorem lw_p39 : lw_okq (⟨"UpTheFlueModel", "flueOf", "(I)I"⟩, 39) := ⟨⟨by decide +kernel, by decide +kernel⟩, List.mem_of_getElem? (i := 786) (by decide +kernel), List.mem_of_getElem? (i := 1049) (by decide +kernel), List.mem_of_getElem? (i := 1050) (by decide +kernel)⟩
theorem lw_p40 : lw_okq (⟨"UpTheFlueModel", "fireplacesOf", "(I)I"⟩, 39) := ⟨⟨by decide +kernel, by decide +kernel⟩, List.mem_of_getElem? (i := 786) (by decide +kernel), List.mem_of_getElem? (i := 1053) (by decide +kernel), List.mem_of_getElem? (i := 1054) (by decide +kernel)⟩
theorem lw_p41 : lw_okq (⟨"UpTheFlueModel", "rodsOf", "(I)I"⟩, 39) := ⟨⟨by decide +kernel, by decide +kernel⟩, List.mem_of_getElem? (i := 786) (by decide +kernel), List.mem_of_getElem? (i := 1057) (by decide +kernel), List.mem_of_getElem? (i := 1058) (by decide +kernel)⟩
theorem lw_p42 : lw_okq (⟨"UpTheFlueModel", "reached", "(II)I"⟩, 39) := ⟨⟨by decide +kernel, by decide +kernel⟩, List.mem_of_getElem? (i := 786) (by decide +kernel), List.mem_of_getElem? (i := 1069) (by decide +kernel), List.mem_of_getElem? (i := 1070) (by decide +kernel)⟩
theorem lw_p43 : lw_okq (⟨"UpTheFlueModel", "heavyAt", "(II)I"⟩, 39) := ⟨⟨by decide +kernel, by decide +kernel⟩, List.mem_of_getElem? (i := 786) (by decide +kernel), List.mem_of_getElem? (i := 1073) (by decide +kernel), List.mem_of_getElem? (i := 1074) (by decide +kernel)⟩
theorem lw_p44 : lw_okq (⟨"UpTheFlueModel", "heavy", "(I)I"⟩, 39) := ⟨⟨by decide +kernel, by decide +kernel⟩, List.mem_of_getElem? (i := 786) (by decide +kernel), List.mem_of_getElem? (i := 1077) (by decide +kernel), List.mem_of_getElem? (i := 1078) (by decide +kernel)⟩
theorem lw_p45 : lw_okq (⟨"UpTheFlueModel", "staysIn", "(II)I"⟩, 39) := ⟨⟨by decide +kernel, by decide +kernel⟩, List.mem_of_getElem? (i := 786) (by decide +kernel), List.mem_of_getElem? (i := 1085) (by decide +kernel), List.mem_of_getElem? (i := 1086) (by decide +kernel)⟩
theorem lw_p46 : lw_okq (⟨"UpTheFlueModel", "sweeps", "(II)I"⟩, 39) := ⟨⟨by decide +kernel, by decide +kernel⟩, List.mem_of_getElem? (i := 786) (by decide +kernel), List.mem_of_getElem? (i := 1093) (by decide +kernel), List.mem_of_getElem? (i := 1094) (by decide +kernel)⟩
theorem lw_p47 : lw_okq (⟨"UpTheFlueModel", "remains", "(I)I"⟩, 39) := ⟨⟨by decide +kernel, by decide +kernel⟩, List.mem_of_getElem? (i := 786) (by decide +kernel), List.mem_of_getElem? (i := 1097) (by decide +kernel), List.mem_of_getElem? (i := 1098) (by decide +kernel)⟩
def lw_privs_3 : List (MethodName × Nat) := [(⟨"UpTheFlueModel", "isBit", "(I)Z"⟩, 39), (⟨"UpTheFlueModel", "isPot", "(I)Z"⟩, 39), (⟨"UpTheFlueModel", "asksOf", "(IIII)I"⟩, 39), (⟨"UpTheFlueModel", "is", "(I)I"⟩, 39), (⟨"UpTheFlueModel", "worth", "(I)I"⟩, 39), (⟨"UpTheFlueModel", "leaks", "(I)I"⟩, 39), (⟨"UpTheFlueModel", "lastOf", "(I)I"⟩, 39), (⟨"UpTheFlueModel", "flueOf", "(I)I"⟩, 39), (⟨"UpTheFlueModel", "fireplacesOf", "(I)I"⟩, 39), (⟨"UpTheFlueModel", "rodsOf", "(I)I"⟩, 39), (⟨"UpTheFlueModel", "reached", "(II)I"⟩, 39), (⟨"UpTheFlueModel", "heavyAt", "(II)I"⟩, 39), (⟨"UpTheFlueModel", "heavy", "(I)I"⟩, 39), (⟨"UpTheFlueModel", "staysIn", "(II)I"⟩, 39), (⟨"UpTheFlueModel", "sweeps", "(II)I"⟩, 39), (⟨"UpTheFlueModel", "remains", "(I)I"⟩, 39)]
theorem lw_r3 : ∀ q ∈ lw_privs_3, lw_okq q := List.forall_mem_cons.mpr ⟨lw_p32, List.forall_mem_cons.mpr ⟨lw_p33, List.forall_mem_cons.mpr ⟨lw_p34, List.forall_mem_cons.mpr ⟨lw_p35, List.forall_mem_cons.mpr ⟨lw_p36, List.forall_mem_cons.mpr ⟨lw_p37, List.forall_mem_cons.mpr ⟨lw_p38, List.forall_mem_cons.mpr ⟨lw_p39, List.forall_mem_cons.mpr ⟨lw_p40, List.forall_mem_cons.mpr ⟨lw_p41, List.forall_mem_cons.mpr ⟨lw_p42, List.forall_mem_cons.mpr ⟨lw_p43, List.forall_mem_cons.mpr ⟨lw_p44, List.forall_mem_cons.mpr ⟨lw_p45, List.forall_mem_cons.mpr ⟨lw_p46, List.forall_mem_cons.mpr ⟨lw_p47, fun _ h => absurd h List.not_mem_nil⟩⟩⟩⟩⟩⟩⟩⟩⟩⟩⟩⟩⟩⟩⟩⟩
theorem lw_p48 : lw_okq (⟨"UpTheFlueModel", "burnsOnce", "(II)V"⟩, 39) := ⟨⟨by decide +kernel, by decide +kernel⟩, List.mem_of_getElem? (i := 786) (by decide +kernel), List.mem_of_getElem? (i := 1112) (by decide +kernel), List.mem_of_getElem? (i := 1113) (by decide +kernel)⟩
theorem lw_p49 : lw_okq (⟨"UpTheFlueModel", "grows", "(II)I"⟩, 39) := ⟨⟨by decide +kernel, by decide +kernel⟩, List.mem_of_getElem? (i := 786) (by decide +kernel), List.mem_of_getElem? (i := 1116) (by decide +kernel), List.mem_of_getElem? (i := 1117) (by decide +kernel)⟩
theorem lw_p50 : lw_okq (⟨"UpTheFlueModel", "sootOf", "(I)I"⟩, 39) := ⟨⟨by decide +kernel, by decide +kernel⟩, List.mem_of_getElem? (i := 786) (by decide +kernel), List.mem_of_getElem? (i := 1120) (by decide +kernel), List.mem_of_getElem? (i := 1121) (by decide +kernel)⟩
theorem lw_p51 : lw_okq (⟨"UpTheFlueModel", "drawOf", "(II)I"⟩, 39) := ⟨⟨by decide +kernel, by decide +kernel⟩, List.mem_of_getElem? (i := 786) (by decide +kernel), List.mem_of_getElem? (i := 1132) (by decide +kernel), List.mem_of_getElem? (i := 1133) (by decide +kernel)⟩
theorem lw_p52 : lw_okq (⟨"UpTheFlueModel", "keeps", "()V"⟩, 39) := ⟨⟨by decide +kernel, by decide +kernel⟩, List.mem_of_getElem? (i := 786) (by decide +kernel), List.mem_of_getElem? (i := 1147) (by decide +kernel), List.mem_of_getElem? (i := 1148) (by decide +kernel)⟩
theorem lw_p53 : lw_okq (⟨"UpTheFlueModel", "fineBehind", "(IIJ)J"⟩, 39) := ⟨⟨by decide +kernel, by decide +kernel⟩, List.mem_of_getElem? (i := 786) (by decide +kernel), List.mem_of_getElem? (i := 1151) (by decide +kernel), List.mem_of_getElem? (i := 1152) (by decide +kernel)⟩
theorem lw_p54 : lw_okq (⟨"UpTheFlueModel", "laysBack", "()V"⟩, 39) := ⟨⟨by decide +kernel, by decide +kernel⟩, List.mem_of_getElem? (i := 786) (by decide +kernel), List.mem_of_getElem? (i := 1156) (by decide +kernel), List.mem_of_getElem? (i := 1157) (by decide +kernel)⟩
theorem lw_p55 : lw_okq (⟨"UpTheFlueModel", "keepsBelow", "(IIIII)Z"⟩, 39) := ⟨⟨by decide +kernel, by decide +kernel⟩, List.mem_of_getElem? (i := 786) (by decide +kernel), List.mem_of_getElem? (i := 1169) (by decide +kernel), List.mem_of_getElem? (i := 1170) (by decide +kernel)⟩
theorem lw_p56 : lw_okq (⟨"UpTheFlueModel", "orders", "(IIIII)V"⟩, 39) := ⟨⟨by decide +kernel, by decide +kernel⟩, List.mem_of_getElem? (i := 786) (by decide +kernel), List.mem_of_getElem? (i := 1177) (by decide +kernel), List.mem_of_getElem? (i := 1178) (by decide +kernel)⟩
theorem lw_p57 : lw_okq (⟨"UpTheFlueModel", "goesRound", "(III)V"⟩, 39) := ⟨⟨by decide +kernel, by decide +kernel⟩, List.mem_of_getElem? (i := 786) (by decide +kernel), List.mem_of_getElem? (i := 1181) (by decide +kernel), List.mem_of_getElem? (i := 1182) (by decide +kernel)⟩
theorem lw_p58 : lw_okq (⟨"UpTheFlueModel", "mostSoot", "()I"⟩, 39) := ⟨⟨by decide +kernel, by decide +kernel⟩, List.mem_of_getElem? (i := 786) (by decide +kernel), List.mem_of_getElem? (i := 1185) (by decide +kernel), List.mem_of_getElem? (i := 1186) (by decide +kernel)⟩
theorem lw_p59 : lw_okq (⟨"UpTheFlueModel", "below", "(I)I"⟩, 39) := ⟨⟨by decide +kernel, by decide +kernel⟩, List.mem_of_getElem? (i := 786) (by decide +kernel), List.mem_of_getElem? (i := 1193) (by decide +kernel), List.mem_of_getElem? (i := 1194) (by decide +kernel)⟩
theorem lw_p60 : lw_okq (⟨"UpTheFlueModel", "toldWrong", "(II)I"⟩, 39) := ⟨⟨by decide +kernel, by decide +kernel⟩, List.mem_of_getElem? (i := 786) (by decide +kernel), List.mem_of_getElem? (i := 1201) (by decide +kernel), List.mem_of_getElem? (i := 1202) (by decide +kernel)⟩
theorem lw_p61 : lw_okq (⟨"UpTheFlueModel", "sheetWrong", "(I)I"⟩, 39) := ⟨⟨by decide +kernel, by decide +kernel⟩, List.mem_of_getElem? (i := 786) (by decide +kernel), List.mem_of_getElem? (i := 1205) (by decide +kernel), List.mem_of_getElem? (i := 1206) (by decide +kernel)⟩
theorem lw_p62 : lw_okq (⟨"UpTheFlueModel", "unlike", "(II)I"⟩, 39) := ⟨⟨by decide +kernel, by decide +kernel⟩, List.mem_of_getElem? (i := 786) (by decide +kernel), List.mem_of_getElem? (i := 1209) (by decide +kernel), List.mem_of_getElem? (i := 1210) (by decide +kernel)⟩
theorem lw_p63 : lw_okq (⟨"UpTheFlueModel", "fitsBlocked", "(IIII)Z"⟩, 39) := ⟨⟨by decide +kernel, by decide +kernel⟩, List.mem_of_getElem? (i := 786) (by decide +kernel), List.mem_of_getElem? (i := 1225) (by decide +kernel), List.mem_of_getElem? (i := 1226) (by decide +kernel)⟩
def lw_privs_4 : List (MethodName × Nat) := [(⟨"UpTheFlueModel", "burnsOnce", "(II)V"⟩, 39), (⟨"UpTheFlueModel", "grows", "(II)I"⟩, 39), (⟨"UpTheFlueModel", "sootOf", "(I)I"⟩, 39), (⟨"UpTheFlueModel", "drawOf", "(II)I"⟩, 39), (⟨"UpTheFlueModel", "keeps", "()V"⟩, 39), (⟨"UpTheFlueModel", "fineBehind", "(IIJ)J"⟩, 39), (⟨"UpTheFlueModel", "laysBack", "()V"⟩, 39), (⟨"UpTheFlueModel", "keepsBelow", "(IIIII)Z"⟩, 39), (⟨"UpTheFlueModel", "orders", "(IIIII)V"⟩, 39), (⟨"UpTheFlueModel", "goesRound", "(III)V"⟩, 39), (⟨"UpTheFlueModel", "mostSoot", "()I"⟩, 39), (⟨"UpTheFlueModel", "below", "(I)I"⟩, 39), (⟨"UpTheFlueModel", "toldWrong", "(II)I"⟩, 39), (⟨"UpTheFlueModel", "sheetWrong", "(I)I"⟩, 39), (⟨"UpTheFlueModel", "unlike", "(II)I"⟩, 39), (⟨"UpTheFlueModel", "fitsBlocked", "(IIII)Z"⟩, 39)]
theorem lw_r4 : ∀ q ∈ lw_privs_4, lw_okq q := List.forall_mem_cons.mpr ⟨lw_p48, List.forall_mem_cons.mpr ⟨lw_p49, List.forall_mem_cons.mpr ⟨lw_p50, List.forall_mem_cons.mpr ⟨lw_p51, List.forall_mem_cons.mpr ⟨lw_p52, List.forall_mem_cons.mpr ⟨lw_p53, List.forall_mem_cons.mpr ⟨lw_p54, List.forall_mem_cons.mpr ⟨lw_p55, List.forall_mem_cons.mpr ⟨lw_p56, List.forall_mem_cons.mpr ⟨lw_p57, List.forall_mem_cons.mpr ⟨lw_p58, List.forall_mem_cons.mpr ⟨lw_p59, List.forall_mem_cons.mpr ⟨lw_p60, List.forall_mem_cons.mpr ⟨lw_p61, List.forall_mem_cons.mpr ⟨lw_p62, List.forall_mem_cons.mpr ⟨lw_p63, fun _ h => absurd h List.not_mem_nil⟩⟩⟩⟩⟩⟩⟩⟩⟩⟩⟩⟩⟩⟩⟩⟩
theorem lw_p64 : lw_okq (⟨"UpTheFlueModel", "firstBurns", "(IIII)I"⟩, 39) := ⟨⟨by decide +kernel, by decide +kernel⟩, List.mem_of_getElem? (i := 786) (by decide +kernel), List.mem_of_getElem? (i := 1241) (by decide +kernel), List.mem_of_getElem? (i := 1242) (by decide +kernel)⟩
def lw_privs_5 : List (MethodName × Nat) := [(⟨"UpTheFlueModel", "firstBurns", "(IIII)I"⟩, 39)]
theorem lw_r5 : ∀ q ∈ lw_privs_5, lw_okq q := List.forall_mem_cons.mpr ⟨lw_p64, fun _ h => absurd h List.not_mem_nil⟩
def lw_privs : List (MethodName × Nat) := lw_privs_1 ++ (lw_privs_2 ++ (lw_privs_3 ++ (lw_privs_4 ++ (lw_privs_5))))
def lw_tbl : List Cond := k2_sels lw_privs ++ tables_1
theorem lw_privs_ok : ∀ q ∈ lw_privs, lw_okq q := by
  show ∀ q ∈ lw_privs_1 ++ (lw_privs_2 ++ (lw_privs_3 ++ (lw_privs_4 ++ (lw_privs_5)))), lw_okq q
  exact List.forall_mem_append.mpr ⟨lw_r1, List.forall_mem_append.mpr ⟨lw_r2, List.forall_mem_append.mpr ⟨lw_r3, List.forall_mem_append.mpr ⟨lw_r4, lw_r5⟩⟩⟩⟩
def RX0 : String := "UpTheFlue$Bit"
def TX0 : u_T := fun k => match k with
  | 0 => ("UpTheFlue$Bit", "number", "I", true)
  | 1 => ("UpTheFlue$Bit", "above", "LUpTheFlue$Bit;", true)
  | 2 => ("UpTheFlue$Bit", "rods", "I", true)
  | 3 => ("UpTheFlue$Bit", "wide", "I", true)
  | 4 => ("UpTheFlue$Bit", "bent", "I", true)
  | 5 => ("UpTheFlue$Bit", "kind", "I", false)
  | 6 => ("UpTheFlue$Bit", "more", "I", false)
  | 7 => ("UpTheFlue$Bit", "soot", "I", false)
  | 8 => ("UpTheFlue$Bit", "imageKind", "I", false)
  | 9 => ("UpTheFlue$Bit", "imageMore", "I", false)
  | 10 => ("UpTheFlue$Bit", "imageSoot", "I", false)
  | _ => ("UpTheFlue$Bit", "sootAside", "I", false)
def tyX0 : Nat → FieldType := fun k => match k with
  | 0 => .int
  | 1 => .object "UpTheFlue$Bit"
  | 2 => .int
  | 3 => .int
  | 4 => .int
  | 5 => .int
  | 6 => .int
  | 7 => .int
  | 8 => .int
  | 9 => .int
  | 10 => .int
  | _ => .int
abbrev wsX00 : List Cond := u_ws RX0 TX0 12
theorem nmX0 : ∀ a, a < 12 → ∀ b, b < 12 → a ≠ b → (TX0 a).2.1 ≠ (TX0 b).2.1 := by decide +kernel
theorem tyX0_ok : ∀ k, k < 12 → parseFieldDescriptor (TX0 k).2.2.1 = some (tyX0 k) := by decide +kernel
abbrev cX0_init : ByteArray := prog_2_method_1_code
def yX0_init : MethodName := ⟨RX0, "<init>", "(ILUpTheFlue$Bit;III)V"⟩
abbrev cX0_isOne : ByteArray := prog_2_method_2_code
def yX0_isOne : MethodName := ⟨RX0, "isOne", "(I)Z"⟩
abbrev cX0_grows : ByteArray := prog_2_method_3_code
def yX0_grows : MethodName := ⟨RX0, "grows", "(I)I"⟩
abbrev cX0_left : ByteArray := prog_2_method_4_code
def yX0_left : MethodName := ⟨RX0, "left", "()I"⟩
abbrev cX0_isWide : ByteArray := prog_2_method_5_code
def yX0_isWide : MethodName := ⟨RX0, "isWide", "()I"⟩
abbrev cX0_leaks : ByteArray := prog_2_method_6_code
def yX0_leaks : MethodName := ⟨RX0, "leaks", "()I"⟩
abbrev cX0_last : ByteArray := prog_2_method_7_code
def yX0_last : MethodName := ⟨RX0, "last", "()LUpTheFlue$Bit;"⟩
abbrev cX0_bitsUp : ByteArray := prog_2_method_8_code
def yX0_bitsUp : MethodName := ⟨RX0, "bitsUp", "()I"⟩
abbrev cX0_firstUpIn : ByteArray := prog_2_method_9_code
def yX0_firstUpIn : MethodName := ⟨RX0, "firstUpIn", "(I)LUpTheFlue$Bit;"⟩
abbrev cX0_rodsUpTo : ByteArray := prog_2_method_10_code
def yX0_rodsUpTo : MethodName := ⟨RX0, "rodsUpTo", "(LUpTheFlue$Bit;)I"⟩
abbrev cX0_reachedBy : ByteArray := prog_2_method_11_code
def yX0_reachedBy : MethodName := ⟨RX0, "reachedBy", "(I)LUpTheFlue$Bit;"⟩
abbrev cX0_sootUp : ByteArray := prog_2_method_12_code
def yX0_sootUp : MethodName := ⟨RX0, "sootUp", "()I"⟩
abbrev cX0_mostSootUp : ByteArray := prog_2_method_13_code
def yX0_mostSootUp : MethodName := ⟨RX0, "mostSootUp", "()I"⟩
abbrev cX0_drawUp : ByteArray := prog_2_method_14_code
def yX0_drawUp : MethodName := ⟨RX0, "drawUp", "()I"⟩
def RX1 : String := "UpTheFlue$House"
def TX1 : u_T := fun k => match k with
  | 0 => ("UpTheFlue$House", "law", "LUpTheFlue$Law;", false)
  | 1 => ("UpTheFlue$House", "size", "I", false)
  | 2 => ("UpTheFlue$House", "imageSize", "I", false)
  | 3 => ("UpTheFlue$House", "bits", "[LUpTheFlue$Bit;", true)
  | 4 => ("UpTheFlue$House", "places", "[LUpTheFlue$Bit;", true)
  | 5 => ("UpTheFlue$House", "order", "[LUpTheFlue$Bit;", true)
  | _ => ("UpTheFlue$House", "chances", "[I", true)
def tyX1 : Nat → FieldType := fun k => match k with
  | 0 => .object "UpTheFlue$Law"
  | 1 => .int
  | 2 => .int
  | 3 => .array (.object "UpTheFlue$Bit")
  | 4 => .array (.object "UpTheFlue$Bit")
  | 5 => .array (.object "UpTheFlue$Bit")
  | _ => .array .int
abbrev wsX10 : List Cond := u_ws RX1 TX1 7
theorem nmX1 : ∀ a, a < 7 → ∀ b, b < 7 → a ≠ b → (TX1 a).2.1 ≠ (TX1 b).2.1 := by decide +kernel
theorem tyX1_ok : ∀ k, k < 7 → parseFieldDescriptor (TX1 k).2.2.1 = some (tyX1 k) := by decide +kernel
abbrev cX1_init : ByteArray := prog_3_method_1_code
def yX1_init : MethodName := ⟨RX1, "<init>", "(LUpTheFlue$Law;)V"⟩
abbrev cX1_bitAt : ByteArray := prog_3_method_2_code
def yX1_bitAt : MethodName := ⟨RX1, "bitAt", "(I)LUpTheFlue$Bit;"⟩
abbrev cX1_fireplaceAt : ByteArray := prog_3_method_3_code
def yX1_fireplaceAt : MethodName := ⟨RX1, "fireplaceAt", "(I)LUpTheFlue$Bit;"⟩
abbrev cX1_firstUnder : ByteArray := prog_3_method_4_code
def yX1_firstUnder : MethodName := ⟨RX1, "firstUnder", "(LUpTheFlue$Bit;)LUpTheFlue$Bit;"⟩
abbrev cX1_isFull : ByteArray := prog_3_method_5_code
def yX1_isFull : MethodName := ⟨RX1, "isFull", "()Z"⟩
abbrev cX1_add : ByteArray := prog_3_method_6_code
def yX1_add : MethodName := ⟨RX1, "add", "(LUpTheFlue$Bit;)I"⟩
abbrev cX1_fireplaces : ByteArray := prog_3_method_7_code
def yX1_fireplaces : MethodName := ⟨RX1, "fireplaces", "()I"⟩
abbrev cX1_pots : ByteArray := prog_3_method_8_code
def yX1_pots : MethodName := ⟨RX1, "pots", "()I"⟩
abbrev cX1_fireplacesUnder : ByteArray := prog_3_method_9_code
def yX1_fireplacesUnder : MethodName := ⟨RX1, "fireplacesUnder", "(LUpTheFlue$Bit;)I"⟩
abbrev cX1_setSootAside : ByteArray := prog_3_method_10_code
def yX1_setSootAside : MethodName := ⟨RX1, "setSootAside", "()V"⟩
abbrev cX1_putSootBack : ByteArray := prog_3_method_11_code
def yX1_putSootBack : MethodName := ⟨RX1, "putSootBack", "()V"⟩
abbrev cX1_keepImage : ByteArray := prog_3_method_12_code
def yX1_keepImage : MethodName := ⟨RX1, "keepImage", "()V"⟩
abbrev cX1_goBack : ByteArray := prog_3_method_13_code
def yX1_goBack : MethodName := ⟨RX1, "goBack", "()V"⟩
abbrev cX1_light : ByteArray := prog_3_method_14_code
def yX1_light : MethodName := ⟨RX1, "light", "(LUpTheFlue$Bit;I)V"⟩
abbrev cX1_staysIn : ByteArray := prog_3_method_15_code
def yX1_staysIn : MethodName := ⟨RX1, "staysIn", "(LUpTheFlue$Bit;I)LUpTheFlue$Bit;"⟩
abbrev cX1_brush : ByteArray := prog_3_method_16_code
def yX1_brush : MethodName := ⟨RX1, "brush", "(LUpTheFlue$Bit;I)I"⟩
abbrev cX1_fineBehindFire : ByteArray := prog_3_method_17_code
def yX1_fineBehindFire : MethodName := ⟨RX1, "fineBehindFire", "(JLUpTheFlue$Bit;I)J"⟩
abbrev cX1_staysBelow : ByteArray := prog_3_method_18_code
def yX1_staysBelow : MethodName := ⟨RX1, "staysBelow", "(IILUpTheFlue$Bit;II)Z"⟩
abbrev cX1_weighBurning : ByteArray := prog_3_method_19_code
def yX1_weighBurning : MethodName := ⟨RX1, "weighBurning", "(LUpTheFlue$Bit;II)V"⟩
abbrev cX1_firstBurning : ByteArray := prog_3_method_20_code
def yX1_firstBurning : MethodName := ⟨RX1, "firstBurning", "(JLUpTheFlue$Bit;I)I"⟩
abbrev cX1_bestRound : ByteArray := prog_3_method_21_code
def yX1_bestRound : MethodName := ⟨RX1, "bestRound", "(II)I"⟩
abbrev cX1_gatherPlaces : ByteArray := prog_3_method_22_code
def yX1_gatherPlaces : MethodName := ⟨RX1, "gatherPlaces", "()I"⟩
abbrev cX1_layOrder : ByteArray := prog_3_method_23_code
def yX1_layOrder : MethodName := ⟨RX1, "layOrder", "(II)Z"⟩
abbrev cX1_orderAsDigits : ByteArray := prog_3_method_24_code
def yX1_orderAsDigits : MethodName := ⟨RX1, "orderAsDigits", "(I)I"⟩
abbrev cX1_mostSootInRound : ByteArray := prog_3_method_25_code
def yX1_mostSootInRound : MethodName := ⟨RX1, "mostSootInRound", "(III)I"⟩
abbrev cX1_mostSoot : ByteArray := prog_3_method_26_code
def yX1_mostSoot : MethodName := ⟨RX1, "mostSoot", "()I"⟩
def RX2 : String := "UpTheFlue$Law"
def TX2 : u_T := fun k => match k with
  | 0 => ("UpTheFlue$Law", "steps", "[I", true)
  | 1 => ("UpTheFlue$Law", "values", "[I", true)
  | 2 => ("UpTheFlue$Law", "ends", "[I", true)
  | 3 => ("UpTheFlue$Law", "named", "[I", true)
  | _ => ("UpTheFlue$Law", "stepCount", "I", false)
def tyX2 : Nat → FieldType := fun k => match k with
  | 0 => .array .int
  | 1 => .array .int
  | 2 => .array .int
  | 3 => .array .int
  | _ => .int
abbrev wsX20 : List Cond := u_ws RX2 TX2 5
theorem nmX2 : ∀ a, a < 5 → ∀ b, b < 5 → a ≠ b → (TX2 a).2.1 ≠ (TX2 b).2.1 := by decide +kernel
theorem tyX2_ok : ∀ k, k < 5 → parseFieldDescriptor (TX2 k).2.2.1 = some (tyX2 k) := by decide +kernel
abbrev cX2_init : ByteArray := prog_4_method_1_code
def yX2_init : MethodName := ⟨RX2, "<init>", "()V"⟩
abbrev cX2_clear : ByteArray := prog_4_method_2_code
def yX2_clear : MethodName := ⟨RX2, "clear", "()V"⟩
abbrev cX2_addStep : ByteArray := prog_4_method_3_code
def yX2_addStep : MethodName := ⟨RX2, "addStep", "(II)V"⟩
abbrev cX2_endPart : ByteArray := prog_4_method_4_code
def yX2_endPart : MethodName := ⟨RX2, "endPart", "(I)V"⟩
abbrev cX2_heavyBy : ByteArray := prog_4_method_5_code
def yX2_heavyBy : MethodName := ⟨RX2, "heavyBy", "(ILUpTheFlue$Bit;)I"⟩
abbrev cX2_says : ByteArray := prog_4_method_6_code
def yX2_says : MethodName := ⟨RX2, "says", "(ILUpTheFlue$Bit;I)I"⟩
abbrev cX2_step : ByteArray := prog_4_method_7_code
def yX2_step : MethodName := ⟨RX2, "step", "(III)I"⟩
abbrev cX2_joined : ByteArray := prog_4_method_8_code
def yX2_joined : MethodName := ⟨RX2, "joined", "(III)I"⟩
def RX3 : String := "UpTheFlue$Reader"
def TX3 : u_T := fun k => match k with
  | 0 => ("UpTheFlue$Reader", "size", "I", false)
  | 1 => ("UpTheFlue$Reader", "tape", "[I", true)
  | 2 => ("UpTheFlue$Reader", "place", "I", false)
  | 3 => ("UpTheFlue$Reader", "start", "I", false)
  | 4 => ("UpTheFlue$Reader", "token", "I", false)
  | 5 => ("UpTheFlue$Reader", "value", "I", false)
  | 6 => ("UpTheFlue$Reader", "waiting", "[I", true)
  | 7 => ("UpTheFlue$Reader", "waits", "I", false)
  | _ => ("UpTheFlue$Reader", "open", "I", false)
def tyX3 : Nat → FieldType := fun k => match k with
  | 0 => .int
  | 1 => .array .int
  | 2 => .int
  | 3 => .int
  | 4 => .int
  | 5 => .int
  | 6 => .array .int
  | 7 => .int
  | _ => .int
abbrev wsX30 : List Cond := u_ws RX3 TX3 9
theorem nmX3 : ∀ a, a < 9 → ∀ b, b < 9 → a ≠ b → (TX3 a).2.1 ≠ (TX3 b).2.1 := by decide +kernel
theorem tyX3_ok : ∀ k, k < 9 → parseFieldDescriptor (TX3 k).2.2.1 = some (tyX3 k) := by decide +kernel
abbrev cX3_init : ByteArray := prog_5_method_1_code
def yX3_init : MethodName := ⟨RX3, "<init>", "()V"⟩
abbrev cX3_append : ByteArray := prog_5_method_2_code
def yX3_append : MethodName := ⟨RX3, "append", "(I)V"⟩
abbrev cX3_write : ByteArray := prog_5_method_3_code
def yX3_write : MethodName := ⟨RX3, "write", "(Ljava/lang/String;)V"⟩
abbrev cX3_read : ByteArray := prog_5_method_4_code
def yX3_read : MethodName := ⟨RX3, "read", "(LUpTheFlue$Law;)I"⟩
abbrev cX3_readSaying : ByteArray := prog_5_method_5_code
def yX3_readSaying : MethodName := ⟨RX3, "readSaying", "(LUpTheFlue$Law;)Z"⟩
abbrev cX3_opens : ByteArray := prog_5_method_6_code
def yX3_opens : MethodName := ⟨RX3, "opens", "()Z"⟩
abbrev cX3_closes : ByteArray := prog_5_method_7_code
def yX3_closes : MethodName := ⟨RX3, "closes", "(LUpTheFlue$Law;)Z"⟩
abbrev cX3_joins : ByteArray := prog_5_method_8_code
def yX3_joins : MethodName := ⟨RX3, "joins", "(LUpTheFlue$Law;)Z"⟩
abbrev cX3_settle : ByteArray := prog_5_method_9_code
def yX3_settle : MethodName := ⟨RX3, "settle", "(ILUpTheFlue$Law;)V"⟩
abbrev cX3_lastWaiting : ByteArray := prog_5_method_10_code
def yX3_lastWaiting : MethodName := ⟨RX3, "lastWaiting", "()I"⟩
abbrev cX3_await : ByteArray := prog_5_method_11_code
def yX3_await : MethodName := ⟨RX3, "await", "(I)V"⟩
abbrev cX3_next : ByteArray := prog_5_method_12_code
def yX3_next : MethodName := ⟨RX3, "next", "()V"⟩
abbrev cX3_skipBlanks : ByteArray := prog_5_method_13_code
def yX3_skipBlanks : MethodName := ⟨RX3, "skipBlanks", "()V"⟩
abbrev cX3_readNumber : ByteArray := prog_5_method_14_code
def yX3_readNumber : MethodName := ⟨RX3, "readNumber", "()V"⟩
abbrev cX3_readWord : ByteArray := prog_5_method_15_code
def yX3_readWord : MethodName := ⟨RX3, "readWord", "()V"⟩
abbrev cX3_wordNumber : ByteArray := prog_5_method_16_code
def yX3_wordNumber : MethodName := ⟨RX3, "wordNumber", "()I"⟩
abbrev cX3_byteAt : ByteArray := prog_5_method_17_code
def yX3_byteAt : MethodName := ⟨RX3, "byteAt", "(I)I"⟩
abbrev cX3_isLetter : ByteArray := prog_5_method_18_code
def yX3_isLetter : MethodName := ⟨RX3, "isLetter", "(I)Z"⟩
abbrev cX3_isDigit : ByteArray := prog_5_method_19_code
def yX3_isDigit : MethodName := ⟨RX3, "isDigit", "(I)Z"⟩
def RX4 : String := "UpTheFlue$Sheet"
def TX4 : u_T := fun k => match k with
  | 0 => ("UpTheFlue$Sheet", "sort", "I", false)
  | 1 => ("UpTheFlue$Sheet", "size", "I", false)
  | _ => ("UpTheFlue$Sheet", "cells", "[I", true)
def tyX4 : Nat → FieldType := fun k => match k with
  | 0 => .int
  | 1 => .int
  | _ => .array .int
abbrev wsX40 : List Cond := u_ws RX4 TX4 3
theorem nmX4 : ∀ a, a < 3 → ∀ b, b < 3 → a ≠ b → (TX4 a).2.1 ≠ (TX4 b).2.1 := by decide +kernel
theorem tyX4_ok : ∀ k, k < 3 → parseFieldDescriptor (TX4 k).2.2.1 = some (tyX4 k) := by decide +kernel
abbrev cX4_init : ByteArray := prog_6_method_1_code
def yX4_init : MethodName := ⟨RX4, "<init>", "()V"⟩
abbrev cX4_isMissing : ByteArray := prog_6_method_2_code
def yX4_isMissing : MethodName := ⟨RX4, "isMissing", "()Z"⟩
abbrev cX4_has : ByteArray := prog_6_method_3_code
def yX4_has : MethodName := ⟨RX4, "has", "(I)Z"⟩
abbrev cX4_hasRun : ByteArray := prog_6_method_4_code
def yX4_hasRun : MethodName := ⟨RX4, "hasRun", "(II)Z"⟩
abbrev cX4_become : ByteArray := prog_6_method_5_code
def yX4_become : MethodName := ⟨RX4, "become", "(II)V"⟩
abbrev cX4_get : ByteArray := prog_6_method_6_code
def yX4_get : MethodName := ⟨RX4, "get", "(I)I"⟩
abbrev cX4_put : ByteArray := prog_6_method_7_code
def yX4_put : MethodName := ⟨RX4, "put", "(II)V"⟩
abbrev cX4_otherwise : ByteArray := prog_6_method_8_code
def yX4_otherwise : MethodName := ⟨RX4, "otherwise", "(LUpTheFlue$Bit;LUpTheFlue$Law;)I"⟩
abbrev cX4_tellsBlocked : ByteArray := prog_6_method_9_code
def yX4_tellsBlocked : MethodName := ⟨RX4, "tellsBlocked", "(LUpTheFlue$Bit;ILUpTheFlue$Bit;LUpTheFlue$Law;)Z"⟩
def RX5 : String := "UpTheFlue$Sign"
def TX5 : u_T := fun k => match k with
  | _ => ("", "", "", false)
def tyX5 : Nat → FieldType := fun k => match k with
  | _ => .int
abbrev wsX50 : List Cond := u_ws RX5 TX5 0
theorem nmX5 : ∀ a, a < 0 → ∀ b, b < 0 → a ≠ b → (TX5 a).2.1 ≠ (TX5 b).2.1 := by decide +kernel
theorem tyX5_ok : ∀ k, k < 0 → parseFieldDescriptor (TX5 k).2.2.1 = some (tyX5 k) := by decide +kernel
abbrev cX5_binds : ByteArray := prog_7_method_2_code
def yX5_binds : MethodName := ⟨RX5, "binds", "(I)I"⟩
abbrev cX5_joinsTwo : ByteArray := prog_7_method_3_code
def yX5_joinsTwo : MethodName := ⟨RX5, "joinsTwo", "(I)Z"⟩
abbrev cX5_ofByte : ByteArray := prog_7_method_4_code
def yX5_ofByte : MethodName := ⟨RX5, "ofByte", "(I)I"⟩
def RX6 : String := "UpTheFlue"
def TX6 : u_T := fun k => match k with
  | 0 => ("UpTheFlue", "house", "LUpTheFlue$House;", true)
  | 1 => ("UpTheFlue", "reader", "LUpTheFlue$Reader;", true)
  | 2 => ("UpTheFlue", "texts", "[LUpTheFlue$Law;", true)
  | 3 => ("UpTheFlue", "sheets", "[LUpTheFlue$Sheet;", true)
  | 4 => ("UpTheFlue", "textCount", "I", false)
  | 5 => ("UpTheFlue", "lawNumber", "I", false)
  | _ => ("UpTheFlue", "imageLaw", "I", false)
def tyX6 : Nat → FieldType := fun k => match k with
  | 0 => .object "UpTheFlue$House"
  | 1 => .object "UpTheFlue$Reader"
  | 2 => .array (.object "UpTheFlue$Law")
  | 3 => .array (.object "UpTheFlue$Sheet")
  | 4 => .int
  | 5 => .int
  | _ => .int
abbrev wsX60 : List Cond := u_ws RX6 TX6 7
theorem nmX6 : ∀ a, a < 7 → ∀ b, b < 7 → a ≠ b → (TX6 a).2.1 ≠ (TX6 b).2.1 := by decide +kernel
theorem tyX6_ok : ∀ k, k < 7 → parseFieldDescriptor (TX6 k).2.2.1 = some (tyX6 k) := by decide +kernel
abbrev cX6_init : ByteArray := prog_1_method_1_code
def yX6_init : MethodName := ⟨RX6, "<init>", "()V"⟩
abbrev cX6_count : ByteArray := prog_1_method_2_code
def yX6_count : MethodName := ⟨RX6, "count", "(I)I"⟩
abbrev cX6_feed : ByteArray := prog_1_method_3_code
def yX6_feed : MethodName := ⟨RX6, "feed", "(IIIIII)I"⟩
abbrev cX6_text : ByteArray := prog_1_method_4_code
def yX6_text : MethodName := ⟨RX6, "text", "()I"⟩
abbrev cX6_force : ByteArray := prog_1_method_5_code
def yX6_force : MethodName := ⟨RX6, "force", "(I)I"⟩
abbrev cX6_asks : ByteArray := prog_1_method_6_code
def yX6_asks : MethodName := ⟨RX6, "asks", "(IIII)I"⟩
abbrev cX6_bit : ByteArray := prog_1_method_7_code
def yX6_bit : MethodName := ⟨RX6, "bit", "(IIII)I"⟩
abbrev cX6_mend : ByteArray := prog_1_method_8_code
def yX6_mend : MethodName := ⟨RX6, "mend", "(III)I"⟩
abbrev cX6_lay : ByteArray := prog_1_method_9_code
def yX6_lay : MethodName := ⟨RX6, "lay", "(II)I"⟩
abbrev cX6_told : ByteArray := prog_1_method_10_code
def yX6_told : MethodName := ⟨RX6, "told", "(II)I"⟩
abbrev cX6_all : ByteArray := prog_1_method_11_code
def yX6_all : MethodName := ⟨RX6, "all", "(I)I"⟩
abbrev cX6_flue : ByteArray := prog_1_method_12_code
def yX6_flue : MethodName := ⟨RX6, "flue", "(II)I"⟩
abbrev cX6_join : ByteArray := prog_1_method_13_code
def yX6_join : MethodName := ⟨RX6, "join", "(II)I"⟩
abbrev cX6_rod : ByteArray := prog_1_method_14_code
def yX6_rod : MethodName := ⟨RX6, "rod", "(III)I"⟩
abbrev cX6_push : ByteArray := prog_1_method_15_code
def yX6_push : MethodName := ⟨RX6, "push", "(III)I"⟩
abbrev cX6_sweep : ByteArray := prog_1_method_16_code
def yX6_sweep : MethodName := ⟨RX6, "sweep", "(II)I"⟩
abbrev cX6_needs : ByteArray := prog_1_method_17_code
def yX6_needs : MethodName := ⟨RX6, "needs", "(I)I"⟩
abbrev cX6_fire : ByteArray := prog_1_method_18_code
def yX6_fire : MethodName := ⟨RX6, "fire", "(III)I"⟩
abbrev cX6_smoke : ByteArray := prog_1_method_19_code
def yX6_smoke : MethodName := ⟨RX6, "smoke", "(III)I"⟩
abbrev cX6_draw : ByteArray := prog_1_method_20_code
def yX6_draw : MethodName := ⟨RX6, "draw", "(II)I"⟩
abbrev cX6_smokes : ByteArray := prog_1_method_21_code
def yX6_smokes : MethodName := ⟨RX6, "smokes", "(I)I"⟩
abbrev cX6_fine : ByteArray := prog_1_method_22_code
def yX6_fine : MethodName := ⟨RX6, "fine", "(III)J"⟩
abbrev cX6_when : ByteArray := prog_1_method_23_code
def yX6_when : MethodName := ⟨RX6, "when", "(III)I"⟩
abbrev cX6_often : ByteArray := prog_1_method_24_code
def yX6_often : MethodName := ⟨RX6, "often", "(IIII)I"⟩
abbrev cX6_round : ByteArray := prog_1_method_25_code
def yX6_round : MethodName := ⟨RX6, "round", "(III)I"⟩
abbrev cX6_ball : ByteArray := prog_1_method_26_code
def yX6_ball : MethodName := ⟨RX6, "ball", "(III)I"⟩
abbrev cX6_judge : ByteArray := prog_1_method_27_code
def yX6_judge : MethodName := ⟨RX6, "judge", "(II)I"⟩
abbrev cX6_whose : ByteArray := prog_1_method_28_code
def yX6_whose : MethodName := ⟨RX6, "whose", "(I)I"⟩
abbrev cX6_laws : ByteArray := prog_1_method_29_code
def yX6_laws : MethodName := ⟨RX6, "laws", "(II)I"⟩
abbrev cX6_blocked : ByteArray := prog_1_method_30_code
def yX6_blocked : MethodName := ⟨RX6, "blocked", "(III)I"⟩
abbrev cX6_film : ByteArray := prog_1_method_31_code
def yX6_film : MethodName := ⟨RX6, "film", "(III)I"⟩
abbrev cX6_drawn : ByteArray := prog_1_method_32_code
def yX6_drawn : MethodName := ⟨RX6, "drawn", "(IIII)I"⟩
abbrev cX6_odds : ByteArray := prog_1_method_33_code
def yX6_odds : MethodName := ⟨RX6, "odds", "(IIIII)J"⟩
abbrev cX6_image : ByteArray := prog_1_method_34_code
def yX6_image : MethodName := ⟨RX6, "image", "()I"⟩
abbrev cX6_back : ByteArray := prog_1_method_35_code
def yX6_back : MethodName := ⟨RX6, "back", "()I"⟩
abbrev cX6_sheet : ByteArray := prog_1_method_36_code
def yX6_sheet : MethodName := ⟨RX6, "sheet", "(III)I"⟩
abbrev cX6_cell : ByteArray := prog_1_method_37_code
def yX6_cell : MethodName := ⟨RX6, "cell", "(III)I"⟩
abbrev cX6_copy : ByteArray := prog_1_method_38_code
def yX6_copy : MethodName := ⟨RX6, "copy", "(IIIII)I"⟩
abbrev cX6_bitsBy : ByteArray := prog_1_method_39_code
def yX6_bitsBy : MethodName := ⟨RX6, "bitsBy", "(IIII)I"⟩
abbrev cX6_taken : ByteArray := prog_1_method_40_code
def yX6_taken : MethodName := ⟨RX6, "taken", "(II)I"⟩
abbrev cX6_in : ByteArray := prog_1_method_41_code
def yX6_in : MethodName := ⟨RX6, "in", "(III)Z"⟩
abbrev cX6_isByte : ByteArray := prog_1_method_42_code
def yX6_isByte : MethodName := ⟨RX6, "isByte", "(I)Z"⟩
abbrev cX6_numberOf : ByteArray := prog_1_method_43_code
def yX6_numberOf : MethodName := ⟨RX6, "numberOf", "(LUpTheFlue$Bit;)I"⟩
abbrev cX6_textAt : ByteArray := prog_1_method_44_code
def yX6_textAt : MethodName := ⟨RX6, "textAt", "(II)LUpTheFlue$Law;"⟩
abbrev cX6_sheetAt : ByteArray := prog_1_method_45_code
def yX6_sheetAt : MethodName := ⟨RX6, "sheetAt", "(I)LUpTheFlue$Sheet;"⟩
def RX7 : String := "UpTheFlueModel"
def TX7 : u_T := fun k => match k with
  | 0 => ("UpTheFlueModel", "bits", "I", false)
  | 1 => ("UpTheFlueModel", "aboveOf", "[I", true)
  | 2 => ("UpTheFlueModel", "kind", "[I", true)
  | 3 => ("UpTheFlueModel", "lengthOf", "[I", true)
  | 4 => ("UpTheFlueModel", "wideOf", "[I", true)
  | 5 => ("UpTheFlueModel", "bentOf", "[I", true)
  | 6 => ("UpTheFlueModel", "moreOf", "[I", true)
  | 7 => ("UpTheFlueModel", "soot", "[I", true)
  | 8 => ("UpTheFlueModel", "tape", "[I", true)
  | 9 => ("UpTheFlueModel", "taped", "I", false)
  | 10 => ("UpTheFlueModel", "codes", "[I", true)
  | 11 => ("UpTheFlueModel", "starts", "[I", true)
  | 12 => ("UpTheFlueModel", "texts", "I", false)
  | 13 => ("UpTheFlueModel", "rule", "I", false)
  | 14 => ("UpTheFlueModel", "hasImage", "Z", false)
  | 15 => ("UpTheFlueModel", "imageBits", "I", false)
  | 16 => ("UpTheFlueModel", "imageRule", "I", false)
  | 17 => ("UpTheFlueModel", "imageRows", "[I", true)
  | 18 => ("UpTheFlueModel", "sheetSort", "[I", true)
  | 19 => ("UpTheFlueModel", "sheetSize", "[I", true)
  | 20 => ("UpTheFlueModel", "cells", "[I", true)
  | 21 => ("UpTheFlueModel", "law", "[I", true)
  | 22 => ("UpTheFlueModel", "at", "I", false)
  | 23 => ("UpTheFlueModel", "begun", "I", false)
  | 24 => ("UpTheFlueModel", "token", "I", false)
  | 25 => ("UpTheFlueModel", "value", "I", false)
  | 26 => ("UpTheFlueModel", "words", "[I", true)
  | 27 => ("UpTheFlueModel", "held", "[I", true)
  | 28 => ("UpTheFlueModel", "heldMany", "I", false)
  | 29 => ("UpTheFlueModel", "opens", "I", false)
  | 30 => ("UpTheFlueModel", "out", "I", false)
  | 31 => ("UpTheFlueModel", "stack", "[I", true)
  | 32 => ("UpTheFlueModel", "named", "[I", true)
  | 33 => ("UpTheFlueModel", "kept", "[I", true)
  | 34 => ("UpTheFlueModel", "fours", "[I", true)
  | 35 => ("UpTheFlueModel", "fourMany", "I", false)
  | 36 => ("UpTheFlueModel", "order", "[I", true)
  | 37 => ("UpTheFlueModel", "bestDigits", "I", false)
  | _ => ("UpTheFlueModel", "bestMost", "I", false)
def tyX7 : Nat → FieldType := fun k => match k with
  | 0 => .int
  | 1 => .array .int
  | 2 => .array .int
  | 3 => .array .int
  | 4 => .array .int
  | 5 => .array .int
  | 6 => .array .int
  | 7 => .array .int
  | 8 => .array .int
  | 9 => .int
  | 10 => .array .int
  | 11 => .array .int
  | 12 => .int
  | 13 => .int
  | 14 => .boolean
  | 15 => .int
  | 16 => .int
  | 17 => .array .int
  | 18 => .array .int
  | 19 => .array .int
  | 20 => .array .int
  | 21 => .array .int
  | 22 => .int
  | 23 => .int
  | 24 => .int
  | 25 => .int
  | 26 => .array .int
  | 27 => .array .int
  | 28 => .int
  | 29 => .int
  | 30 => .int
  | 31 => .array .int
  | 32 => .array .int
  | 33 => .array .int
  | 34 => .array .int
  | 35 => .int
  | 36 => .array .int
  | 37 => .int
  | _ => .int
abbrev wsX70 : List Cond := u_ws RX7 TX7 39
theorem nmX7 : ∀ a, a < 39 → ∀ b, b < 39 → a ≠ b → (TX7 a).2.1 ≠ (TX7 b).2.1 := by decide +kernel
theorem tyX7_ok : ∀ k, k < 39 → parseFieldDescriptor (TX7 k).2.2.1 = some (tyX7 k) := by decide +kernel
abbrev cX7_init : ByteArray := prog_9_method_1_code
def yX7_init : MethodName := ⟨RX7, "<init>", "()V"⟩
abbrev cX7_in : ByteArray := prog_9_method_3_code
def yX7_in : MethodName := ⟨RX7, "in", "(III)Z"⟩
abbrev cX7_within : ByteArray := prog_9_method_4_code
def yX7_within : MethodName := ⟨RX7, "within", "(III)I"⟩
abbrev cX7_isBit : ByteArray := prog_9_method_5_code
def yX7_isBit : MethodName := ⟨RX7, "isBit", "(I)Z"⟩
abbrev cX7_isFireplace : ByteArray := prog_9_method_6_code
def yX7_isFireplace : MethodName := ⟨RX7, "isFireplace", "(I)Z"⟩
abbrev cX7_isPot : ByteArray := prog_9_method_7_code
def yX7_isPot : MethodName := ⟨RX7, "isPot", "(I)Z"⟩
abbrev cX7_setOf : ByteArray := prog_9_method_8_code
def yX7_setOf : MethodName := ⟨RX7, "setOf", "(I)I"⟩
abbrev cX7_ones : ByteArray := prog_9_method_9_code
def yX7_ones : MethodName := ⟨RX7, "ones", "(I)I"⟩
abbrev cX7_count : ByteArray := prog_9_method_10_code
def yX7_count : MethodName := ⟨RX7, "count", "(I)I"⟩
abbrev cX7_isByte : ByteArray := prog_9_method_11_code
def yX7_isByte : MethodName := ⟨RX7, "isByte", "(I)Z"⟩
abbrev cX7_feed : ByteArray := prog_9_method_12_code
def yX7_feed : MethodName := ⟨RX7, "feed", "(IIIIII)I"⟩
abbrev cX7_wordFrom : ByteArray := prog_9_method_13_code
def yX7_wordFrom : MethodName := ⟨RX7, "wordFrom", "(II)I"⟩
abbrev cX7_next : ByteArray := prog_9_method_14_code
def yX7_next : MethodName := ⟨RX7, "next", "()V"⟩
abbrev cX7_rank : ByteArray := prog_9_method_15_code
def yX7_rank : MethodName := ⟨RX7, "rank", "(I)I"⟩
abbrev cX7_puts : ByteArray := prog_9_method_16_code
def yX7_puts : MethodName := ⟨RX7, "puts", "(I)V"⟩
abbrev cX7_unwinds : ByteArray := prog_9_method_17_code
def yX7_unwinds : MethodName := ⟨RX7, "unwinds", "(I)V"⟩
abbrev cX7_holds : ByteArray := prog_9_method_18_code
def yX7_holds : MethodName := ⟨RX7, "holds", "(I)V"⟩
abbrev cX7_opensOne : ByteArray := prog_9_method_19_code
def yX7_opensOne : MethodName := ⟨RX7, "opensOne", "(I)Z"⟩
abbrev cX7_between : ByteArray := prog_9_method_20_code
def yX7_between : MethodName := ⟨RX7, "between", "(I)Z"⟩
abbrev cX7_signOf : ByteArray := prog_9_method_21_code
def yX7_signOf : MethodName := ⟨RX7, "signOf", "()I"⟩
abbrev cX7_eRead : ByteArray := prog_9_method_22_code
def yX7_eRead : MethodName := ⟨RX7, "eRead", "()Z"⟩
abbrev cX7_text : ByteArray := prog_9_method_23_code
def yX7_text : MethodName := ⟨RX7, "text", "()I"⟩
abbrev cX7_two : ByteArray := prog_9_method_24_code
def yX7_two : MethodName := ⟨RX7, "two", "(III)I"⟩
abbrev cX7_worth : ByteArray := prog_9_method_25_code
def yX7_worth : MethodName := ⟨RX7, "worth", "(I)I"⟩
abbrev cX7_force : ByteArray := prog_9_method_26_code
def yX7_force : MethodName := ⟨RX7, "force", "(I)I"⟩
abbrev cX7_is : ByteArray := prog_9_method_27_code
def yX7_is : MethodName := ⟨RX7, "is", "(I)I"⟩
abbrev cX7_asksOf : ByteArray := prog_9_method_28_code
def yX7_asksOf : MethodName := ⟨RX7, "asksOf", "(IIII)I"⟩
abbrev cX7_asks : ByteArray := prog_9_method_29_code
def yX7_asks : MethodName := ⟨RX7, "asks", "(IIII)I"⟩
abbrev cX7_heavy : ByteArray := prog_9_method_30_code
def yX7_heavy : MethodName := ⟨RX7, "heavy", "(I)I"⟩
abbrev cX7_grows : ByteArray := prog_9_method_31_code
def yX7_grows : MethodName := ⟨RX7, "grows", "(II)I"⟩
abbrev cX7_remains : ByteArray := prog_9_method_32_code
def yX7_remains : MethodName := ⟨RX7, "remains", "(I)I"⟩
abbrev cX7_leaks : ByteArray := prog_9_method_33_code
def yX7_leaks : MethodName := ⟨RX7, "leaks", "(I)I"⟩
abbrev cX7_isSo : ByteArray := prog_9_method_34_code
def yX7_isSo : MethodName := ⟨RX7, "isSo", "(II)Z"⟩
abbrev cX7_bit : ByteArray := prog_9_method_35_code
def yX7_bit : MethodName := ⟨RX7, "bit", "(IIII)I"⟩
abbrev cX7_mend : ByteArray := prog_9_method_36_code
def yX7_mend : MethodName := ⟨RX7, "mend", "(III)I"⟩
abbrev cX7_lay : ByteArray := prog_9_method_37_code
def yX7_lay : MethodName := ⟨RX7, "lay", "(II)I"⟩
abbrev cX7_told : ByteArray := prog_9_method_38_code
def yX7_told : MethodName := ⟨RX7, "told", "(II)I"⟩
abbrev cX7_all : ByteArray := prog_9_method_39_code
def yX7_all : MethodName := ⟨RX7, "all", "(I)I"⟩
abbrev cX7_flueOf : ByteArray := prog_9_method_40_code
def yX7_flueOf : MethodName := ⟨RX7, "flueOf", "(I)I"⟩
abbrev cX7_lastOf : ByteArray := prog_9_method_41_code
def yX7_lastOf : MethodName := ⟨RX7, "lastOf", "(I)I"⟩
abbrev cX7_rodsOf : ByteArray := prog_9_method_42_code
def yX7_rodsOf : MethodName := ⟨RX7, "rodsOf", "(I)I"⟩
abbrev cX7_fireplacesOf : ByteArray := prog_9_method_43_code
def yX7_fireplacesOf : MethodName := ⟨RX7, "fireplacesOf", "(I)I"⟩
abbrev cX7_flue : ByteArray := prog_9_method_44_code
def yX7_flue : MethodName := ⟨RX7, "flue", "(II)I"⟩
abbrev cX7_join : ByteArray := prog_9_method_45_code
def yX7_join : MethodName := ⟨RX7, "join", "(II)I"⟩
abbrev cX7_reached : ByteArray := prog_9_method_46_code
def yX7_reached : MethodName := ⟨RX7, "reached", "(II)I"⟩
abbrev cX7_heavyAt : ByteArray := prog_9_method_47_code
def yX7_heavyAt : MethodName := ⟨RX7, "heavyAt", "(II)I"⟩
abbrev cX7_rod : ByteArray := prog_9_method_48_code
def yX7_rod : MethodName := ⟨RX7, "rod", "(III)I"⟩
abbrev cX7_staysIn : ByteArray := prog_9_method_49_code
def yX7_staysIn : MethodName := ⟨RX7, "staysIn", "(II)I"⟩
abbrev cX7_push : ByteArray := prog_9_method_50_code
def yX7_push : MethodName := ⟨RX7, "push", "(III)I"⟩
abbrev cX7_sweeps : ByteArray := prog_9_method_51_code
def yX7_sweeps : MethodName := ⟨RX7, "sweeps", "(II)I"⟩
abbrev cX7_sweep : ByteArray := prog_9_method_52_code
def yX7_sweep : MethodName := ⟨RX7, "sweep", "(II)I"⟩
abbrev cX7_needs : ByteArray := prog_9_method_53_code
def yX7_needs : MethodName := ⟨RX7, "needs", "(I)I"⟩
abbrev cX7_isFire : ByteArray := prog_9_method_54_code
def yX7_isFire : MethodName := ⟨RX7, "isFire", "(I)Z"⟩
abbrev cX7_burnsOnce : ByteArray := prog_9_method_55_code
def yX7_burnsOnce : MethodName := ⟨RX7, "burnsOnce", "(II)V"⟩
abbrev cX7_sootOf : ByteArray := prog_9_method_56_code
def yX7_sootOf : MethodName := ⟨RX7, "sootOf", "(I)I"⟩
abbrev cX7_fire : ByteArray := prog_9_method_57_code
def yX7_fire : MethodName := ⟨RX7, "fire", "(III)I"⟩
abbrev cX7_smoke : ByteArray := prog_9_method_58_code
def yX7_smoke : MethodName := ⟨RX7, "smoke", "(III)I"⟩
abbrev cX7_drawOf : ByteArray := prog_9_method_59_code
def yX7_drawOf : MethodName := ⟨RX7, "drawOf", "(II)I"⟩
abbrev cX7_draw : ByteArray := prog_9_method_60_code
def yX7_draw : MethodName := ⟨RX7, "draw", "(II)I"⟩
abbrev cX7_smokes : ByteArray := prog_9_method_61_code
def yX7_smokes : MethodName := ⟨RX7, "smokes", "(I)I"⟩
abbrev cX7_keeps : ByteArray := prog_9_method_62_code
def yX7_keeps : MethodName := ⟨RX7, "keeps", "()V"⟩
abbrev cX7_laysBack : ByteArray := prog_9_method_63_code
def yX7_laysBack : MethodName := ⟨RX7, "laysBack", "()V"⟩
abbrev cX7_fineBehind : ByteArray := prog_9_method_64_code
def yX7_fineBehind : MethodName := ⟨RX7, "fineBehind", "(IIJ)J"⟩
abbrev cX7_fine : ByteArray := prog_9_method_65_code
def yX7_fine : MethodName := ⟨RX7, "fine", "(III)J"⟩
abbrev cX7_when : ByteArray := prog_9_method_66_code
def yX7_when : MethodName := ⟨RX7, "when", "(III)I"⟩
abbrev cX7_keepsBelow : ByteArray := prog_9_method_67_code
def yX7_keepsBelow : MethodName := ⟨RX7, "keepsBelow", "(IIIII)Z"⟩
abbrev cX7_often : ByteArray := prog_9_method_68_code
def yX7_often : MethodName := ⟨RX7, "often", "(IIII)I"⟩
abbrev cX7_mostSoot : ByteArray := prog_9_method_69_code
def yX7_mostSoot : MethodName := ⟨RX7, "mostSoot", "()I"⟩
abbrev cX7_goesRound : ByteArray := prog_9_method_70_code
def yX7_goesRound : MethodName := ⟨RX7, "goesRound", "(III)V"⟩
abbrev cX7_orders : ByteArray := prog_9_method_71_code
def yX7_orders : MethodName := ⟨RX7, "orders", "(IIIII)V"⟩
abbrev cX7_round : ByteArray := prog_9_method_72_code
def yX7_round : MethodName := ⟨RX7, "round", "(III)I"⟩
abbrev cX7_below : ByteArray := prog_9_method_73_code
def yX7_below : MethodName := ⟨RX7, "below", "(I)I"⟩
abbrev cX7_ball : ByteArray := prog_9_method_74_code
def yX7_ball : MethodName := ⟨RX7, "ball", "(III)I"⟩
abbrev cX7_sheetWrong : ByteArray := prog_9_method_75_code
def yX7_sheetWrong : MethodName := ⟨RX7, "sheetWrong", "(I)I"⟩
abbrev cX7_unlike : ByteArray := prog_9_method_76_code
def yX7_unlike : MethodName := ⟨RX7, "unlike", "(II)I"⟩
abbrev cX7_toldWrong : ByteArray := prog_9_method_77_code
def yX7_toldWrong : MethodName := ⟨RX7, "toldWrong", "(II)I"⟩
abbrev cX7_judge : ByteArray := prog_9_method_78_code
def yX7_judge : MethodName := ⟨RX7, "judge", "(II)I"⟩
abbrev cX7_whose : ByteArray := prog_9_method_79_code
def yX7_whose : MethodName := ⟨RX7, "whose", "(I)I"⟩
abbrev cX7_laws : ByteArray := prog_9_method_80_code
def yX7_laws : MethodName := ⟨RX7, "laws", "(II)I"⟩
abbrev cX7_fitsBlocked : ByteArray := prog_9_method_81_code
def yX7_fitsBlocked : MethodName := ⟨RX7, "fitsBlocked", "(IIII)Z"⟩
abbrev cX7_blocked : ByteArray := prog_9_method_82_code
def yX7_blocked : MethodName := ⟨RX7, "blocked", "(III)I"⟩
abbrev cX7_film : ByteArray := prog_9_method_83_code
def yX7_film : MethodName := ⟨RX7, "film", "(III)I"⟩
abbrev cX7_firstBurns : ByteArray := prog_9_method_84_code
def yX7_firstBurns : MethodName := ⟨RX7, "firstBurns", "(IIII)I"⟩
abbrev cX7_isYear : ByteArray := prog_9_method_85_code
def yX7_isYear : MethodName := ⟨RX7, "isYear", "(III)Z"⟩
abbrev cX7_drawn : ByteArray := prog_9_method_86_code
def yX7_drawn : MethodName := ⟨RX7, "drawn", "(IIII)I"⟩
abbrev cX7_lowest : ByteArray := prog_9_method_87_code
def yX7_lowest : MethodName := ⟨RX7, "lowest", "(JJI)J"⟩
abbrev cX7_odds : ByteArray := prog_9_method_88_code
def yX7_odds : MethodName := ⟨RX7, "odds", "(IIIII)J"⟩
abbrev cX7_image : ByteArray := prog_9_method_89_code
def yX7_image : MethodName := ⟨RX7, "image", "()I"⟩
abbrev cX7_back : ByteArray := prog_9_method_90_code
def yX7_back : MethodName := ⟨RX7, "back", "()I"⟩
abbrev cX7_sheet : ByteArray := prog_9_method_91_code
def yX7_sheet : MethodName := ⟨RX7, "sheet", "(III)I"⟩
abbrev cX7_cell : ByteArray := prog_9_method_92_code
def yX7_cell : MethodName := ⟨RX7, "cell", "(III)I"⟩
abbrev cX7_copy : ByteArray := prog_9_method_93_code
def yX7_copy : MethodName := ⟨RX7, "copy", "(IIIII)I"⟩
abbrev cX7_bitsBy : ByteArray := prog_9_method_94_code
def yX7_bitsBy : MethodName := ⟨RX7, "bitsBy", "(IIII)I"⟩
abbrev cX7_isUnder : ByteArray := prog_9_method_95_code
def yX7_isUnder : MethodName := ⟨RX7, "isUnder", "(II)Z"⟩
abbrev cX7_taken : ByteArray := prog_9_method_96_code
def yX7_taken : MethodName := ⟨RX7, "taken", "(II)I"⟩
def RJ6 : String := "java/lang/Integer"
def TJ6 : u_T := fun k => match k with
  | _ => ("", "", "", false)
def tyJ6 : Nat → FieldType := fun k => match k with
  | _ => .int
abbrev wsJ60 : List Cond := u_ws RJ6 TJ6 0
abbrev cJ6_bitCount_0f7a4 : ByteArray := prog_10_method_49_code
def yJ6_bitCount_0f7a4 : MethodName := ⟨RJ6, "bitCount", "(I)I"⟩
def RJ9 : String := "java/lang/Math"
def TJ9 : u_T := fun k => match k with
  | _ => ("", "", "", false)
def tyJ9 : Nat → FieldType := fun k => match k with
  | _ => .int
abbrev wsJ90 : List Cond := u_ws RJ9 TJ9 0
abbrev cJ9_max_7cf53 : ByteArray := prog_11_method_65_code
def yJ9_max_7cf53 : MethodName := ⟨RJ9, "max", "(II)I"⟩
abbrev cJ9_min_7cf53 : ByteArray := prog_11_method_69_code
def yJ9_min_7cf53 : MethodName := ⟨RJ9, "min", "(II)I"⟩
def RJ0 : String := "java/lang/String"
def TJ0 : u_T := fun k => match k with
  | _ => ("", "", "", false)
def tyJ0 : Nat → FieldType := fun k => match k with
  | _ => .int
abbrev wsJ00 : List Cond := u_ws RJ0 TJ0 0
abbrev cJ0_length_8abf5 : ByteArray := prog_12_method_54_code
def yJ0_length_8abf5 : MethodName := ⟨RJ0, "length", "()I"⟩
abbrev cJ0_charAt_5068e : ByteArray := prog_12_method_56_code
def yJ0_charAt_5068e : MethodName := ⟨RJ0, "charAt", "(I)C"⟩
abbrev cJ0_coder_7d493 : ByteArray := prog_12_method_152_code
def yJ0_coder_7d493 : MethodName := ⟨RJ0, "coder", "()B"⟩
abbrev cJ0_isLatin1_aae02 : ByteArray := prog_12_method_154_code
def yJ0_isLatin1_aae02 : MethodName := ⟨RJ0, "isLatin1", "()Z"⟩
abbrev cJ0_checkIndex_df160 : ByteArray := prog_12_method_155_code
def yJ0_checkIndex_df160 : MethodName := ⟨RJ0, "checkIndex", "(II)V"⟩
def RJ1 : String := "java/lang/StringLatin1"
def TJ1 : u_T := fun k => match k with
  | _ => ("", "", "", false)
def tyJ1 : Nat → FieldType := fun k => match k with
  | _ => .int
abbrev wsJ10 : List Cond := u_ws RJ1 TJ1 0
abbrev cJ1_charAt_3b067 : ByteArray := prog_13_method_2_code
def yJ1_charAt_3b067 : MethodName := ⟨RJ1, "charAt", "([BI)C"⟩
def RJ2 : String := "java/lang/StringUTF16"
def TJ2 : u_T := fun k => match k with
  | _ => ("", "", "", false)
def tyJ2 : Nat → FieldType := fun k => match k with
  | _ => .int
abbrev wsJ20 : List Cond := u_ws RJ2 TJ2 0
abbrev cJ2_getChar_3b067 : ByteArray := prog_14_method_5_code
def yJ2_getChar_3b067 : MethodName := ⟨RJ2, "getChar", "([BI)C"⟩
abbrev cJ2_length_9d52b : ByteArray := prog_14_method_6_code
def yJ2_length_9d52b : MethodName := ⟨RJ2, "length", "([B)I"⟩
abbrev cJ2_charAt_3b067 : ByteArray := prog_14_method_83_code
def yJ2_charAt_3b067 : MethodName := ⟨RJ2, "charAt", "([BI)C"⟩
abbrev cJ2_checkIndex_2214a : ByteArray := prog_14_method_91_code
def yJ2_checkIndex_2214a : MethodName := ⟨RJ2, "checkIndex", "(I[B)V"⟩
def RJ10 : String := "java/lang/System"
def TJ10 : u_T := fun k => match k with
  | _ => ("", "", "", false)
def tyJ10 : Nat → FieldType := fun k => match k with
  | _ => .int
abbrev wsJ100 : List Cond := u_ws RJ10 TJ10 0
def RJ3 : String := "jdk/internal/util/Preconditions"
def TJ3 : u_T := fun k => match k with
  | _ => ("", "", "", false)
def tyJ3 : Nat → FieldType := fun k => match k with
  | _ => .int
abbrev wsJ30 : List Cond := u_ws RJ3 TJ3 0
abbrev cJ3_checkIndex_8e157 : ByteArray := prog_16_method_11_code
def yJ3_checkIndex_8e157 : MethodName := ⟨RJ3, "checkIndex", "(IILjava/util/function/BiFunction;)I"⟩
def RL : String := "UpTheFlueLaw"
abbrev cL_law : ByteArray := code
def yL_law : MethodName := ⟨RL, "law", "([I)Z"⟩
abbrev vwCl : List vw_C := [(RX0, TX0, 12), (RX1, TX1, 7), (RX2, TX2, 5), (RX3, TX3, 9), (RX4, TX4, 3), (RX6, TX6, 7), (RX7, TX7, 39)]
