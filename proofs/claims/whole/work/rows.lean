section
-- ===== PART A: goes FIRST, ahead of the names: the tables' words, and 'selects' of the private methods out of them =====
/-- a private method of a class that the tables say can be made, by its rows of tables_1 -/
def lw_okq (q : MethodName × Nat) : Prop := (q.1.cls ≠ "java/lang/invoke/MethodHandle" ∧ q.1.cls ≠ "java/lang/invoke/VarHandle") ∧ Cond.instantiable q.1.cls q.2 ∈ tables_1 ∧ Cond.privateMethod q.1 ∈ tables_1 ∧ Cond.instanceMethod q.1 ∈ tables_1
theorem lw_p0 : lw_okq (⟨"TortoiseShelves", "finding", "(I)I"⟩, 8) := ⟨⟨by decide +kernel, by decide +kernel⟩, List.mem_of_getElem? (i := 15) (by decide +kernel), List.mem_of_getElem? (i := 184) (by decide +kernel), List.mem_of_getElem? (i := 185) (by decide +kernel)⟩
theorem lw_p1 : lw_okq (⟨"TortoiseShelves$Island", "aimOfLaw", "(I)I"⟩, 9) := ⟨⟨by decide +kernel, by decide +kernel⟩, List.mem_of_getElem? (i := 23) (by decide +kernel), List.mem_of_getElem? (i := 253) (by decide +kernel), List.mem_of_getElem? (i := 254) (by decide +kernel)⟩
theorem lw_p2 : lw_okq (⟨"TortoiseShelves", "areTwo", "(II)Z"⟩, 8) := ⟨⟨by decide +kernel, by decide +kernel⟩, List.mem_of_getElem? (i := 15) (by decide +kernel), List.mem_of_getElem? (i := 286) (by decide +kernel), List.mem_of_getElem? (i := 287) (by decide +kernel)⟩
theorem lw_p3 : lw_okq (⟨"TortoiseShelves$Island", "walk", "(I)V"⟩, 9) := ⟨⟨by decide +kernel, by decide +kernel⟩, List.mem_of_getElem? (i := 23) (by decide +kernel), List.mem_of_getElem? (i := 309) (by decide +kernel), List.mem_of_getElem? (i := 310) (by decide +kernel)⟩
theorem lw_p4 : lw_okq (⟨"TortoiseShelves$Island", "stepFrom", "(II)I"⟩, 9) := ⟨⟨by decide +kernel, by decide +kernel⟩, List.mem_of_getElem? (i := 23) (by decide +kernel), List.mem_of_getElem? (i := 315) (by decide +kernel), List.mem_of_getElem? (i := 316) (by decide +kernel)⟩
theorem lw_p5 : lw_okq (⟨"TortoiseShelves$Island", "meetAll", "()V"⟩, 9) := ⟨⟨by decide +kernel, by decide +kernel⟩, List.mem_of_getElem? (i := 23) (by decide +kernel), List.mem_of_getElem? (i := 320) (by decide +kernel), List.mem_of_getElem? (i := 321) (by decide +kernel)⟩
theorem lw_p6 : lw_okq (⟨"TortoiseShelves$Island", "meetTwo", "(II)V"⟩, 9) := ⟨⟨by decide +kernel, by decide +kernel⟩, List.mem_of_getElem? (i := 23) (by decide +kernel), List.mem_of_getElem? (i := 324) (by decide +kernel), List.mem_of_getElem? (i := 325) (by decide +kernel)⟩
theorem lw_p7 : lw_okq (⟨"TortoiseShelves", "hoursOrNone", "(I)I"⟩, 8) := ⟨⟨by decide +kernel, by decide +kernel⟩, List.mem_of_getElem? (i := 15) (by decide +kernel), List.mem_of_getElem? (i := 377) (by decide +kernel), List.mem_of_getElem? (i := 378) (by decide +kernel)⟩
theorem lw_p8 : lw_okq (⟨"TortoiseShelves", "askOfReader", "(II)I"⟩, 8) := ⟨⟨by decide +kernel, by decide +kernel⟩, List.mem_of_getElem? (i := 15) (by decide +kernel), List.mem_of_getElem? (i := 401) (by decide +kernel), List.mem_of_getElem? (i := 402) (by decide +kernel)⟩
theorem lw_p9 : lw_okq (⟨"TortoiseShelves$Reader", "cellsWith", "(I)I"⟩, 4) := ⟨⟨by decide +kernel, by decide +kernel⟩, List.mem_of_getElem? (i := 71) (by decide +kernel), List.mem_of_getElem? (i := 414) (by decide +kernel), List.mem_of_getElem? (i := 415) (by decide +kernel)⟩
theorem lw_p10 : lw_okq (⟨"TortoiseShelves$Reader", "onwards", "(I)I"⟩, 4) := ⟨⟨by decide +kernel, by decide +kernel⟩, List.mem_of_getElem? (i := 71) (by decide +kernel), List.mem_of_getElem? (i := 421) (by decide +kernel), List.mem_of_getElem? (i := 422) (by decide +kernel)⟩
theorem lw_p11 : lw_okq (⟨"TortoiseShelves", "placeOrNone", "(I)I"⟩, 8) := ⟨⟨by decide +kernel, by decide +kernel⟩, List.mem_of_getElem? (i := 15) (by decide +kernel), List.mem_of_getElem? (i := 432) (by decide +kernel), List.mem_of_getElem? (i := 433) (by decide +kernel)⟩
theorem lw_p12 : lw_okq (⟨"TortoiseShelves", "bestTipped", "(II)I"⟩, 8) := ⟨⟨by decide +kernel, by decide +kernel⟩, List.mem_of_getElem? (i := 15) (by decide +kernel), List.mem_of_getElem? (i := 477) (by decide +kernel), List.mem_of_getElem? (i := 478) (by decide +kernel)⟩
theorem lw_p13 : lw_okq (⟨"TortoiseShelves", "bestSpring", "(II)I"⟩, 8) := ⟨⟨by decide +kernel, by decide +kernel⟩, List.mem_of_getElem? (i := 15) (by decide +kernel), List.mem_of_getElem? (i := 485) (by decide +kernel), List.mem_of_getElem? (i := 486) (by decide +kernel)⟩
theorem lw_p14 : lw_okq (⟨"TortoiseShelves", "bestKind", "(II)I"⟩, 8) := ⟨⟨by decide +kernel, by decide +kernel⟩, List.mem_of_getElem? (i := 15) (by decide +kernel), List.mem_of_getElem? (i := 493) (by decide +kernel), List.mem_of_getElem? (i := 494) (by decide +kernel)⟩
theorem lw_p15 : lw_okq (⟨"TortoiseShelves$Tape", "nextToken", "()V"⟩, 7) := ⟨⟨by decide +kernel, by decide +kernel⟩, List.mem_of_getElem? (i := 94) (by decide +kernel), List.mem_of_getElem? (i := 517) (by decide +kernel), List.mem_of_getElem? (i := 518) (by decide +kernel)⟩
def lw_privs_1 : List (MethodName × Nat) := [(⟨"TortoiseShelves", "finding", "(I)I"⟩, 8), (⟨"TortoiseShelves$Island", "aimOfLaw", "(I)I"⟩, 9), (⟨"TortoiseShelves", "areTwo", "(II)Z"⟩, 8), (⟨"TortoiseShelves$Island", "walk", "(I)V"⟩, 9), (⟨"TortoiseShelves$Island", "stepFrom", "(II)I"⟩, 9), (⟨"TortoiseShelves$Island", "meetAll", "()V"⟩, 9), (⟨"TortoiseShelves$Island", "meetTwo", "(II)V"⟩, 9), (⟨"TortoiseShelves", "hoursOrNone", "(I)I"⟩, 8), (⟨"TortoiseShelves", "askOfReader", "(II)I"⟩, 8), (⟨"TortoiseShelves$Reader", "cellsWith", "(I)I"⟩, 4), (⟨"TortoiseShelves$Reader", "onwards", "(I)I"⟩, 4), (⟨"TortoiseShelves", "placeOrNone", "(I)I"⟩, 8), (⟨"TortoiseShelves", "bestTipped", "(II)I"⟩, 8), (⟨"TortoiseShelves", "bestSpring", "(II)I"⟩, 8), (⟨"TortoiseShelves", "bestKind", "(II)I"⟩, 8), (⟨"TortoiseShelves$Tape", "nextToken", "()V"⟩, 7)]
theorem lw_r1 : ∀ q ∈ lw_privs_1, lw_okq q := List.forall_mem_cons.mpr ⟨lw_p0, List.forall_mem_cons.mpr ⟨lw_p1, List.forall_mem_cons.mpr ⟨lw_p2, List.forall_mem_cons.mpr ⟨lw_p3, List.forall_mem_cons.mpr ⟨lw_p4, List.forall_mem_cons.mpr ⟨lw_p5, List.forall_mem_cons.mpr ⟨lw_p6, List.forall_mem_cons.mpr ⟨lw_p7, List.forall_mem_cons.mpr ⟨lw_p8, List.forall_mem_cons.mpr ⟨lw_p9, List.forall_mem_cons.mpr ⟨lw_p10, List.forall_mem_cons.mpr ⟨lw_p11, List.forall_mem_cons.mpr ⟨lw_p12, List.forall_mem_cons.mpr ⟨lw_p13, List.forall_mem_cons.mpr ⟨lw_p14, List.forall_mem_cons.mpr ⟨lw_p15, fun _ h => absurd h List.not_mem_nil⟩⟩⟩⟩⟩⟩⟩⟩⟩⟩⟩⟩⟩⟩⟩⟩
theorem lw_p16 : lw_okq (⟨"TortoiseShelves$Tape", "tellsItem", "(LTortoiseShelves$Island;)Z"⟩, 7) := ⟨⟨by decide +kernel, by decide +kernel⟩, List.mem_of_getElem? (i := 94) (by decide +kernel), List.mem_of_getElem? (i := 530) (by decide +kernel), List.mem_of_getElem? (i := 531) (by decide +kernel)⟩
theorem lw_p17 : lw_okq (⟨"TortoiseShelves$Tape", "kindTold", "()I"⟩, 7) := ⟨⟨by decide +kernel, by decide +kernel⟩, List.mem_of_getElem? (i := 94) (by decide +kernel), List.mem_of_getElem? (i := 534) (by decide +kernel), List.mem_of_getElem? (i := 535) (by decide +kernel)⟩
theorem lw_p18 : lw_okq (⟨"TortoiseShelves$Tape", "isWord", "(Ljava/lang/String;)Z"⟩, 7) := ⟨⟨by decide +kernel, by decide +kernel⟩, List.mem_of_getElem? (i := 94) (by decide +kernel), List.mem_of_getElem? (i := 547) (by decide +kernel), List.mem_of_getElem? (i := 548) (by decide +kernel)⟩
theorem lw_p19 : lw_okq (⟨"TortoiseShelves$Tape", "tellsTortoise", "(LTortoiseShelves$Island;I)Z"⟩, 7) := ⟨⟨by decide +kernel, by decide +kernel⟩, List.mem_of_getElem? (i := 94) (by decide +kernel), List.mem_of_getElem? (i := 599) (by decide +kernel), List.mem_of_getElem? (i := 600) (by decide +kernel)⟩
theorem lw_p20 : lw_okq (⟨"TortoiseShelves$Tape", "takesNumber", "(II)Z"⟩, 7) := ⟨⟨by decide +kernel, by decide +kernel⟩, List.mem_of_getElem? (i := 94) (by decide +kernel), List.mem_of_getElem? (i := 605) (by decide +kernel), List.mem_of_getElem? (i := 606) (by decide +kernel)⟩
theorem lw_p21 : lw_okq (⟨"TortoiseShelves$Tape", "tellsFence", "(LTortoiseShelves$Island;Z)Z"⟩, 7) := ⟨⟨by decide +kernel, by decide +kernel⟩, List.mem_of_getElem? (i := 94) (by decide +kernel), List.mem_of_getElem? (i := 611) (by decide +kernel), List.mem_of_getElem? (i := 612) (by decide +kernel)⟩
theorem lw_p22 : lw_okq (⟨"TortoiseShelves$Tape", "tellsRain", "(LTortoiseShelves$Island;)Z"⟩, 7) := ⟨⟨by decide +kernel, by decide +kernel⟩, List.mem_of_getElem? (i := 94) (by decide +kernel), List.mem_of_getElem? (i := 618) (by decide +kernel), List.mem_of_getElem? (i := 619) (by decide +kernel)⟩
theorem lw_p23 : lw_okq (⟨"TortoiseShelves$Tape", "tellsSpot", "(LTortoiseShelves$Island;I)Z"⟩, 7) := ⟨⟨by decide +kernel, by decide +kernel⟩, List.mem_of_getElem? (i := 94) (by decide +kernel), List.mem_of_getElem? (i := 624) (by decide +kernel), List.mem_of_getElem? (i := 625) (by decide +kernel)⟩
theorem lw_p24 : lw_okq (⟨"TortoiseShelves", "askOfSheet", "(I)I"⟩, 8) := ⟨⟨by decide +kernel, by decide +kernel⟩, List.mem_of_getElem? (i := 15) (by decide +kernel), List.mem_of_getElem? (i := 643) (by decide +kernel), List.mem_of_getElem? (i := 644) (by decide +kernel)⟩
theorem lw_p25 : lw_okq (⟨"TortoiseShelves", "laysBooks", "(LTortoiseShelves$Sheet;)I"⟩, 8) := ⟨⟨by decide +kernel, by decide +kernel⟩, List.mem_of_getElem? (i := 15) (by decide +kernel), List.mem_of_getElem? (i := 670) (by decide +kernel), List.mem_of_getElem? (i := 671) (by decide +kernel)⟩
theorem lw_p26 : lw_okq (⟨"TortoiseShelvesModel", "finds", "(I)I"⟩, 17) := ⟨⟨by decide +kernel, by decide +kernel⟩, List.mem_of_getElem? (i := 712) (by decide +kernel), List.mem_of_getElem? (i := 782) (by decide +kernel), List.mem_of_getElem? (i := 783) (by decide +kernel)⟩
theorem lw_p27 : lw_okq (⟨"TortoiseShelvesModel", "isFenced", "(I)Z"⟩, 17) := ⟨⟨by decide +kernel, by decide +kernel⟩, List.mem_of_getElem? (i := 712) (by decide +kernel), List.mem_of_getElem? (i := 786) (by decide +kernel), List.mem_of_getElem? (i := 787) (by decide +kernel)⟩
theorem lw_p28 : lw_okq (⟨"TortoiseShelvesModel", "fences", "(II)V"⟩, 17) := ⟨⟨by decide +kernel, by decide +kernel⟩, List.mem_of_getElem? (i := 712) (by decide +kernel), List.mem_of_getElem? (i := 790) (by decide +kernel), List.mem_of_getElem? (i := 791) (by decide +kernel)⟩
theorem lw_p29 : lw_okq (⟨"TortoiseShelvesModel", "becomes", "(II)I"⟩, 17) := ⟨⟨by decide +kernel, by decide +kernel⟩, List.mem_of_getElem? (i := 712) (by decide +kernel), List.mem_of_getElem? (i := 799) (by decide +kernel), List.mem_of_getElem? (i := 800) (by decide +kernel)⟩
theorem lw_p30 : lw_okq (⟨"TortoiseShelvesModel", "those", "(I)I"⟩, 17) := ⟨⟨by decide +kernel, by decide +kernel⟩, List.mem_of_getElem? (i := 712) (by decide +kernel), List.mem_of_getElem? (i := 812) (by decide +kernel), List.mem_of_getElem? (i := 813) (by decide +kernel)⟩
theorem lw_p31 : lw_okq (⟨"TortoiseShelvesModel", "its", "(II)I"⟩, 17) := ⟨⟨by decide +kernel, by decide +kernel⟩, List.mem_of_getElem? (i := 712) (by decide +kernel), List.mem_of_getElem? (i := 816) (by decide +kernel), List.mem_of_getElem? (i := 817) (by decide +kernel)⟩
def lw_privs_2 : List (MethodName × Nat) := [(⟨"TortoiseShelves$Tape", "tellsItem", "(LTortoiseShelves$Island;)Z"⟩, 7), (⟨"TortoiseShelves$Tape", "kindTold", "()I"⟩, 7), (⟨"TortoiseShelves$Tape", "isWord", "(Ljava/lang/String;)Z"⟩, 7), (⟨"TortoiseShelves$Tape", "tellsTortoise", "(LTortoiseShelves$Island;I)Z"⟩, 7), (⟨"TortoiseShelves$Tape", "takesNumber", "(II)Z"⟩, 7), (⟨"TortoiseShelves$Tape", "tellsFence", "(LTortoiseShelves$Island;Z)Z"⟩, 7), (⟨"TortoiseShelves$Tape", "tellsRain", "(LTortoiseShelves$Island;)Z"⟩, 7), (⟨"TortoiseShelves$Tape", "tellsSpot", "(LTortoiseShelves$Island;I)Z"⟩, 7), (⟨"TortoiseShelves", "askOfSheet", "(I)I"⟩, 8), (⟨"TortoiseShelves", "laysBooks", "(LTortoiseShelves$Sheet;)I"⟩, 8), (⟨"TortoiseShelvesModel", "finds", "(I)I"⟩, 17), (⟨"TortoiseShelvesModel", "isFenced", "(I)Z"⟩, 17), (⟨"TortoiseShelvesModel", "fences", "(II)V"⟩, 17), (⟨"TortoiseShelvesModel", "becomes", "(II)I"⟩, 17), (⟨"TortoiseShelvesModel", "those", "(I)I"⟩, 17), (⟨"TortoiseShelvesModel", "its", "(II)I"⟩, 17)]
theorem lw_r2 : ∀ q ∈ lw_privs_2, lw_okq q := List.forall_mem_cons.mpr ⟨lw_p16, List.forall_mem_cons.mpr ⟨lw_p17, List.forall_mem_cons.mpr ⟨lw_p18, List.forall_mem_cons.mpr ⟨lw_p19, List.forall_mem_cons.mpr ⟨lw_p20, List.forall_mem_cons.mpr ⟨lw_p21, List.forall_mem_cons.mpr ⟨lw_p22, List.forall_mem_cons.mpr ⟨lw_p23, List.forall_mem_cons.mpr ⟨lw_p24, List.forall_mem_cons.mpr ⟨lw_p25, List.forall_mem_cons.mpr ⟨lw_p26, List.forall_mem_cons.mpr ⟨lw_p27, List.forall_mem_cons.mpr ⟨lw_p28, List.forall_mem_cons.mpr ⟨lw_p29, List.forall_mem_cons.mpr ⟨lw_p30, List.forall_mem_cons.mpr ⟨lw_p31, fun _ h => absurd h List.not_mem_nil⟩⟩⟩⟩⟩⟩⟩⟩⟩⟩⟩⟩⟩⟩⟩⟩
theorem lw_p32 : lw_okq (⟨"TortoiseShelvesModel", "booksIn", "(I)I"⟩, 17) := ⟨⟨by decide +kernel, by decide +kernel⟩, List.mem_of_getElem? (i := 712) (by decide +kernel), List.mem_of_getElem? (i := 823) (by decide +kernel), List.mem_of_getElem? (i := 824) (by decide +kernel)⟩
theorem lw_p33 : lw_okq (⟨"TortoiseShelvesModel", "adds", "(III)I"⟩, 17) := ⟨⟨by decide +kernel, by decide +kernel⟩, List.mem_of_getElem? (i := 712) (by decide +kernel), List.mem_of_getElem? (i := 840) (by decide +kernel), List.mem_of_getElem? (i := 841) (by decide +kernel)⟩
theorem lw_p34 : lw_okq (⟨"TortoiseShelvesModel", "isOne", "(I)Z"⟩, 17) := ⟨⟨by decide +kernel, by decide +kernel⟩, List.mem_of_getElem? (i := 712) (by decide +kernel), List.mem_of_getElem? (i := 848) (by decide +kernel), List.mem_of_getElem? (i := 849) (by decide +kernel)⟩
theorem lw_p35 : lw_okq (⟨"TortoiseShelvesModel", "aimOf", "(I)I"⟩, 17) := ⟨⟨by decide +kernel, by decide +kernel⟩, List.mem_of_getElem? (i := 712) (by decide +kernel), List.mem_of_getElem? (i := 852) (by decide +kernel), List.mem_of_getElem? (i := 853) (by decide +kernel)⟩
theorem lw_p36 : lw_okq (⟨"TortoiseShelvesModel", "lawful", "()I"⟩, 17) := ⟨⟨by decide +kernel, by decide +kernel⟩, List.mem_of_getElem? (i := 712) (by decide +kernel), List.mem_of_getElem? (i := 856) (by decide +kernel), List.mem_of_getElem? (i := 857) (by decide +kernel)⟩
theorem lw_p37 : lw_okq (⟨"TortoiseShelvesModel", "clock", "()I"⟩, 17) := ⟨⟨by decide +kernel, by decide +kernel⟩, List.mem_of_getElem? (i := 712) (by decide +kernel), List.mem_of_getElem? (i := 860) (by decide +kernel), List.mem_of_getElem? (i := 861) (by decide +kernel)⟩
theorem lw_p38 : lw_okq (⟨"TortoiseShelvesModel", "rains", "()Z"⟩, 17) := ⟨⟨by decide +kernel, by decide +kernel⟩, List.mem_of_getElem? (i := 712) (by decide +kernel), List.mem_of_getElem? (i := 866) (by decide +kernel), List.mem_of_getElem? (i := 867) (by decide +kernel)⟩
theorem lw_p39 : lw_okq (⟨"TortoiseShelvesModel", "paceOf", "(I)I"⟩, 17) := ⟨⟨by decide +kernel, by decide +kernel⟩, List.mem_of_getElem? (i := 712) (by decide +kernel), List.mem_of_getElem? (i := 870) (by decide +kernel), List.mem_of_getElem? (i := 871) (by decide +kernel)⟩
theorem lw_p40 : lw_okq (⟨"TortoiseShelvesModel", "areTwo", "(II)Z"⟩, 17) := ⟨⟨by decide +kernel, by decide +kernel⟩, List.mem_of_getElem? (i := 712) (by decide +kernel), List.mem_of_getElem? (i := 894) (by decide +kernel), List.mem_of_getElem? (i := 895) (by decide +kernel)⟩
theorem lw_p41 : lw_okq (⟨"TortoiseShelvesModel", "lends", "(III)V"⟩, 17) := ⟨⟨by decide +kernel, by decide +kernel⟩, List.mem_of_getElem? (i := 712) (by decide +kernel), List.mem_of_getElem? (i := 904) (by decide +kernel), List.mem_of_getElem? (i := 905) (by decide +kernel)⟩
theorem lw_p42 : lw_okq (⟨"TortoiseShelvesModel", "go", "(I)V"⟩, 17) := ⟨⟨by decide +kernel, by decide +kernel⟩, List.mem_of_getElem? (i := 712) (by decide +kernel), List.mem_of_getElem? (i := 913) (by decide +kernel), List.mem_of_getElem? (i := 914) (by decide +kernel)⟩
theorem lw_p43 : lw_okq (⟨"TortoiseShelvesModel", "hour", "()V"⟩, 17) := ⟨⟨by decide +kernel, by decide +kernel⟩, List.mem_of_getElem? (i := 712) (by decide +kernel), List.mem_of_getElem? (i := 917) (by decide +kernel), List.mem_of_getElem? (i := 918) (by decide +kernel)⟩
theorem lw_p44 : lw_okq (⟨"TortoiseShelvesModel", "goes", "(I)V"⟩, 17) := ⟨⟨by decide +kernel, by decide +kernel⟩, List.mem_of_getElem? (i := 712) (by decide +kernel), List.mem_of_getElem? (i := 921) (by decide +kernel), List.mem_of_getElem? (i := 922) (by decide +kernel)⟩
theorem lw_p45 : lw_okq (⟨"TortoiseShelvesModel", "nearer", "(II)I"⟩, 17) := ⟨⟨by decide +kernel, by decide +kernel⟩, List.mem_of_getElem? (i := 712) (by decide +kernel), List.mem_of_getElem? (i := 925) (by decide +kernel), List.mem_of_getElem? (i := 926) (by decide +kernel)⟩
theorem lw_p46 : lw_okq (⟨"TortoiseShelvesModel", "meets", "(II)V"⟩, 17) := ⟨⟨by decide +kernel, by decide +kernel⟩, List.mem_of_getElem? (i := 712) (by decide +kernel), List.mem_of_getElem? (i := 929) (by decide +kernel), List.mem_of_getElem? (i := 930) (by decide +kernel)⟩
theorem lw_p47 : lw_okq (⟨"TortoiseShelvesModel", "allBooks", "()I"⟩, 17) := ⟨⟨by decide +kernel, by decide +kernel⟩, List.mem_of_getElem? (i := 712) (by decide +kernel), List.mem_of_getElem? (i := 936) (by decide +kernel), List.mem_of_getElem? (i := 937) (by decide +kernel)⟩
def lw_privs_3 : List (MethodName × Nat) := [(⟨"TortoiseShelvesModel", "booksIn", "(I)I"⟩, 17), (⟨"TortoiseShelvesModel", "adds", "(III)I"⟩, 17), (⟨"TortoiseShelvesModel", "isOne", "(I)Z"⟩, 17), (⟨"TortoiseShelvesModel", "aimOf", "(I)I"⟩, 17), (⟨"TortoiseShelvesModel", "lawful", "()I"⟩, 17), (⟨"TortoiseShelvesModel", "clock", "()I"⟩, 17), (⟨"TortoiseShelvesModel", "rains", "()Z"⟩, 17), (⟨"TortoiseShelvesModel", "paceOf", "(I)I"⟩, 17), (⟨"TortoiseShelvesModel", "areTwo", "(II)Z"⟩, 17), (⟨"TortoiseShelvesModel", "lends", "(III)V"⟩, 17), (⟨"TortoiseShelvesModel", "go", "(I)V"⟩, 17), (⟨"TortoiseShelvesModel", "hour", "()V"⟩, 17), (⟨"TortoiseShelvesModel", "goes", "(I)V"⟩, 17), (⟨"TortoiseShelvesModel", "nearer", "(II)I"⟩, 17), (⟨"TortoiseShelvesModel", "meets", "(II)V"⟩, 17), (⟨"TortoiseShelvesModel", "allBooks", "()I"⟩, 17)]
theorem lw_r3 : ∀ q ∈ lw_privs_3, lw_okq q := List.forall_mem_cons.mpr ⟨lw_p32, List.forall_mem_cons.mpr ⟨lw_p33, List.forall_mem_cons.mpr ⟨lw_p34, List.forall_mem_cons.mpr ⟨lw_p35, List.forall_mem_cons.mpr ⟨lw_p36, List.forall_mem_cons.mpr ⟨lw_p37, List.forall_mem_cons.mpr ⟨lw_p38, List.forall_mem_cons.mpr ⟨lw_p39, List.forall_mem_cons.mpr ⟨lw_p40, List.forall_mem_cons.mpr ⟨lw_p41, List.forall_mem_cons.mpr ⟨lw_p42, List.forall_mem_cons.mpr ⟨lw_p43, List.forall_mem_cons.mpr ⟨lw_p44, List.forall_mem_cons.mpr ⟨lw_p45, List.forall_mem_cons.mpr ⟨lw_p46, List.forall_mem_cons.mpr ⟨lw_p47, fun _ h => absurd h List.not_mem_nil⟩⟩⟩⟩⟩⟩⟩⟩⟩⟩⟩⟩⟩⟩⟩⟩
theorem lw_p48 : lw_okq (⟨"TortoiseShelvesModel", "allSubjects", "()I"⟩, 17) := ⟨⟨by decide +kernel, by decide +kernel⟩, List.mem_of_getElem? (i := 712) (by decide +kernel), List.mem_of_getElem? (i := 944) (by decide +kernel), List.mem_of_getElem? (i := 945) (by decide +kernel)⟩
theorem lw_p49 : lw_okq (⟨"TortoiseShelvesModel", "allCells", "()I"⟩, 17) := ⟨⟨by decide +kernel, by decide +kernel⟩, List.mem_of_getElem? (i := 712) (by decide +kernel), List.mem_of_getElem? (i := 948) (by decide +kernel), List.mem_of_getElem? (i := 949) (by decide +kernel)⟩
theorem lw_p50 : lw_okq (⟨"TortoiseShelvesModel", "laysAside", "()V"⟩, 17) := ⟨⟨by decide +kernel, by decide +kernel⟩, List.mem_of_getElem? (i := 712) (by decide +kernel), List.mem_of_getElem? (i := 956) (by decide +kernel), List.mem_of_getElem? (i := 957) (by decide +kernel)⟩
theorem lw_p51 : lw_okq (⟨"TortoiseShelvesModel", "takesBack", "(I)I"⟩, 17) := ⟨⟨by decide +kernel, by decide +kernel⟩, List.mem_of_getElem? (i := 712) (by decide +kernel), List.mem_of_getElem? (i := 960) (by decide +kernel), List.mem_of_getElem? (i := 961) (by decide +kernel)⟩
theorem lw_p52 : lw_okq (⟨"TortoiseShelvesModel", "whenOf", "(II)I"⟩, 17) := ⟨⟨by decide +kernel, by decide +kernel⟩, List.mem_of_getElem? (i := 712) (by decide +kernel), List.mem_of_getElem? (i := 968) (by decide +kernel), List.mem_of_getElem? (i := 969) (by decide +kernel)⟩
theorem lw_p53 : lw_okq (⟨"TortoiseShelvesModel", "orNone", "(II)I"⟩, 17) := ⟨⟨by decide +kernel, by decide +kernel⟩, List.mem_of_getElem? (i := 712) (by decide +kernel), List.mem_of_getElem? (i := 972) (by decide +kernel), List.mem_of_getElem? (i := 973) (by decide +kernel)⟩
theorem lw_p54 : lw_okq (⟨"TortoiseShelvesModel", "carriers", "(I)I"⟩, 17) := ⟨⟨by decide +kernel, by decide +kernel⟩, List.mem_of_getElem? (i := 712) (by decide +kernel), List.mem_of_getElem? (i := 984) (by decide +kernel), List.mem_of_getElem? (i := 985) (by decide +kernel)⟩
theorem lw_p55 : lw_okq (⟨"TortoiseShelvesModel", "wrongReader", "(II)I"⟩, 17) := ⟨⟨by decide +kernel, by decide +kernel⟩, List.mem_of_getElem? (i := 712) (by decide +kernel), List.mem_of_getElem? (i := 992) (by decide +kernel), List.mem_of_getElem? (i := 993) (by decide +kernel)⟩
theorem lw_p56 : lw_okq (⟨"TortoiseShelvesModel", "soonestOf", "(II)I"⟩, 17) := ⟨⟨by decide +kernel, by decide +kernel⟩, List.mem_of_getElem? (i := 712) (by decide +kernel), List.mem_of_getElem? (i := 996) (by decide +kernel), List.mem_of_getElem? (i := 997) (by decide +kernel)⟩
theorem lw_p57 : lw_okq (⟨"TortoiseShelvesModel", "places", "(I)I"⟩, 17) := ⟨⟨by decide +kernel, by decide +kernel⟩, List.mem_of_getElem? (i := 712) (by decide +kernel), List.mem_of_getElem? (i := 1000) (by decide +kernel), List.mem_of_getElem? (i := 1001) (by decide +kernel)⟩
theorem lw_p58 : lw_okq (⟨"TortoiseShelvesModel", "spread", "(I)I"⟩, 17) := ⟨⟨by decide +kernel, by decide +kernel⟩, List.mem_of_getElem? (i := 712) (by decide +kernel), List.mem_of_getElem? (i := 1004) (by decide +kernel), List.mem_of_getElem? (i := 1005) (by decide +kernel)⟩
theorem lw_p59 : lw_okq (⟨"TortoiseShelvesModel", "open", "()I"⟩, 17) := ⟨⟨by decide +kernel, by decide +kernel⟩, List.mem_of_getElem? (i := 712) (by decide +kernel), List.mem_of_getElem? (i := 1008) (by decide +kernel), List.mem_of_getElem? (i := 1009) (by decide +kernel)⟩
theorem lw_p60 : lw_okq (⟨"TortoiseShelvesModel", "saves", "()V"⟩, 17) := ⟨⟨by decide +kernel, by decide +kernel⟩, List.mem_of_getElem? (i := 712) (by decide +kernel), List.mem_of_getElem? (i := 1066) (by decide +kernel), List.mem_of_getElem? (i := 1067) (by decide +kernel)⟩
theorem lw_p61 : lw_okq (⟨"TortoiseShelvesModel", "token", "()V"⟩, 17) := ⟨⟨by decide +kernel, by decide +kernel⟩, List.mem_of_getElem? (i := 712) (by decide +kernel), List.mem_of_getElem? (i := 1070) (by decide +kernel), List.mem_of_getElem? (i := 1071) (by decide +kernel)⟩
theorem lw_p62 : lw_okq (⟨"TortoiseShelvesModel", "byteAt", "(I)I"⟩, 17) := ⟨⟨by decide +kernel, by decide +kernel⟩, List.mem_of_getElem? (i := 712) (by decide +kernel), List.mem_of_getElem? (i := 1074) (by decide +kernel), List.mem_of_getElem? (i := 1075) (by decide +kernel)⟩
theorem lw_p63 : lw_okq (⟨"TortoiseShelvesModel", "item", "()V"⟩, 17) := ⟨⟨by decide +kernel, by decide +kernel⟩, List.mem_of_getElem? (i := 712) (by decide +kernel), List.mem_of_getElem? (i := 1087) (by decide +kernel), List.mem_of_getElem? (i := 1088) (by decide +kernel)⟩
def lw_privs_4 : List (MethodName × Nat) := [(⟨"TortoiseShelvesModel", "allSubjects", "()I"⟩, 17), (⟨"TortoiseShelvesModel", "allCells", "()I"⟩, 17), (⟨"TortoiseShelvesModel", "laysAside", "()V"⟩, 17), (⟨"TortoiseShelvesModel", "takesBack", "(I)I"⟩, 17), (⟨"TortoiseShelvesModel", "whenOf", "(II)I"⟩, 17), (⟨"TortoiseShelvesModel", "orNone", "(II)I"⟩, 17), (⟨"TortoiseShelvesModel", "carriers", "(I)I"⟩, 17), (⟨"TortoiseShelvesModel", "wrongReader", "(II)I"⟩, 17), (⟨"TortoiseShelvesModel", "soonestOf", "(II)I"⟩, 17), (⟨"TortoiseShelvesModel", "places", "(I)I"⟩, 17), (⟨"TortoiseShelvesModel", "spread", "(I)I"⟩, 17), (⟨"TortoiseShelvesModel", "open", "()I"⟩, 17), (⟨"TortoiseShelvesModel", "saves", "()V"⟩, 17), (⟨"TortoiseShelvesModel", "token", "()V"⟩, 17), (⟨"TortoiseShelvesModel", "byteAt", "(I)I"⟩, 17), (⟨"TortoiseShelvesModel", "item", "()V"⟩, 17)]
theorem lw_r4 : ∀ q ∈ lw_privs_4, lw_okq q := List.forall_mem_cons.mpr ⟨lw_p48, List.forall_mem_cons.mpr ⟨lw_p49, List.forall_mem_cons.mpr ⟨lw_p50, List.forall_mem_cons.mpr ⟨lw_p51, List.forall_mem_cons.mpr ⟨lw_p52, List.forall_mem_cons.mpr ⟨lw_p53, List.forall_mem_cons.mpr ⟨lw_p54, List.forall_mem_cons.mpr ⟨lw_p55, List.forall_mem_cons.mpr ⟨lw_p56, List.forall_mem_cons.mpr ⟨lw_p57, List.forall_mem_cons.mpr ⟨lw_p58, List.forall_mem_cons.mpr ⟨lw_p59, List.forall_mem_cons.mpr ⟨lw_p60, List.forall_mem_cons.mpr ⟨lw_p61, List.forall_mem_cons.mpr ⟨lw_p62, List.forall_mem_cons.mpr ⟨lw_p63, fun _ h => absurd h List.not_mem_nil⟩⟩⟩⟩⟩⟩⟩⟩⟩⟩⟩⟩⟩⟩⟩⟩
theorem lw_p64 : lw_okq (⟨"TortoiseShelvesModel", "kindHere", "()I"⟩, 17) := ⟨⟨by decide +kernel, by decide +kernel⟩, List.mem_of_getElem? (i := 712) (by decide +kernel), List.mem_of_getElem? (i := 1091) (by decide +kernel), List.mem_of_getElem? (i := 1092) (by decide +kernel)⟩
theorem lw_p65 : lw_okq (⟨"TortoiseShelvesModel", "word", "()J"⟩, 17) := ⟨⟨by decide +kernel, by decide +kernel⟩, List.mem_of_getElem? (i := 712) (by decide +kernel), List.mem_of_getElem? (i := 1095) (by decide +kernel), List.mem_of_getElem? (i := 1096) (by decide +kernel)⟩
theorem lw_p66 : lw_okq (⟨"TortoiseShelvesModel", "tortoiseItem", "(I)V"⟩, 17) := ⟨⟨by decide +kernel, by decide +kernel⟩, List.mem_of_getElem? (i := 712) (by decide +kernel), List.mem_of_getElem? (i := 1107) (by decide +kernel), List.mem_of_getElem? (i := 1108) (by decide +kernel)⟩
theorem lw_p67 : lw_okq (⟨"TortoiseShelvesModel", "wants", "(Z)V"⟩, 17) := ⟨⟨by decide +kernel, by decide +kernel⟩, List.mem_of_getElem? (i := 712) (by decide +kernel), List.mem_of_getElem? (i := 1111) (by decide +kernel), List.mem_of_getElem? (i := 1112) (by decide +kernel)⟩
theorem lw_p68 : lw_okq (⟨"TortoiseShelvesModel", "cellHere", "()V"⟩, 17) := ⟨⟨by decide +kernel, by decide +kernel⟩, List.mem_of_getElem? (i := 712) (by decide +kernel), List.mem_of_getElem? (i := 1116) (by decide +kernel), List.mem_of_getElem? (i := 1117) (by decide +kernel)⟩
theorem lw_p69 : lw_okq (⟨"TortoiseShelvesModel", "number", "(II)V"⟩, 17) := ⟨⟨by decide +kernel, by decide +kernel⟩, List.mem_of_getElem? (i := 712) (by decide +kernel), List.mem_of_getElem? (i := 1120) (by decide +kernel), List.mem_of_getElem? (i := 1121) (by decide +kernel)⟩
theorem lw_p70 : lw_okq (⟨"TortoiseShelvesModel", "fenceItem", "(I)V"⟩, 17) := ⟨⟨by decide +kernel, by decide +kernel⟩, List.mem_of_getElem? (i := 712) (by decide +kernel), List.mem_of_getElem? (i := 1126) (by decide +kernel), List.mem_of_getElem? (i := 1127) (by decide +kernel)⟩
theorem lw_p71 : lw_okq (⟨"TortoiseShelvesModel", "rainItem", "()V"⟩, 17) := ⟨⟨by decide +kernel, by decide +kernel⟩, List.mem_of_getElem? (i := 712) (by decide +kernel), List.mem_of_getElem? (i := 1131) (by decide +kernel), List.mem_of_getElem? (i := 1132) (by decide +kernel)⟩
theorem lw_p72 : lw_okq (⟨"TortoiseShelvesModel", "placeHere", "()I"⟩, 17) := ⟨⟨by decide +kernel, by decide +kernel⟩, List.mem_of_getElem? (i := 712) (by decide +kernel), List.mem_of_getElem? (i := 1136) (by decide +kernel), List.mem_of_getElem? (i := 1137) (by decide +kernel)⟩
theorem lw_p73 : lw_okq (⟨"TortoiseShelvesModel", "placeItem", "(I)V"⟩, 17) := ⟨⟨by decide +kernel, by decide +kernel⟩, List.mem_of_getElem? (i := 712) (by decide +kernel), List.mem_of_getElem? (i := 1143) (by decide +kernel), List.mem_of_getElem? (i := 1144) (by decide +kernel)⟩
theorem lw_p74 : lw_okq (⟨"TortoiseShelvesModel", "putsBack", "()V"⟩, 17) := ⟨⟨by decide +kernel, by decide +kernel⟩, List.mem_of_getElem? (i := 712) (by decide +kernel), List.mem_of_getElem? (i := 1147) (by decide +kernel), List.mem_of_getElem? (i := 1148) (by decide +kernel)⟩
theorem lw_p75 : lw_okq (⟨"TortoiseShelvesModel", "wrong", "(I)I"⟩, 17) := ⟨⟨by decide +kernel, by decide +kernel⟩, List.mem_of_getElem? (i := 712) (by decide +kernel), List.mem_of_getElem? (i := 1164) (by decide +kernel), List.mem_of_getElem? (i := 1165) (by decide +kernel)⟩
theorem lw_p76 : lw_okq (⟨"TortoiseShelvesModel", "wrongBook", "(II)I"⟩, 17) := ⟨⟨by decide +kernel, by decide +kernel⟩, List.mem_of_getElem? (i := 712) (by decide +kernel), List.mem_of_getElem? (i := 1184) (by decide +kernel), List.mem_of_getElem? (i := 1185) (by decide +kernel)⟩
theorem lw_p77 : lw_okq (⟨"TortoiseShelvesModel", "isSo", "(II)I"⟩, 17) := ⟨⟨by decide +kernel, by decide +kernel⟩, List.mem_of_getElem? (i := 712) (by decide +kernel), List.mem_of_getElem? (i := 1192) (by decide +kernel), List.mem_of_getElem? (i := 1193) (by decide +kernel)⟩
theorem lw_p78 : lw_okq (⟨"TortoiseShelvesModel", "tipped", "()I"⟩, 17) := ⟨⟨by decide +kernel, by decide +kernel⟩, List.mem_of_getElem? (i := 712) (by decide +kernel), List.mem_of_getElem? (i := 1212) (by decide +kernel), List.mem_of_getElem? (i := 1213) (by decide +kernel)⟩
def lw_privs_5 : List (MethodName × Nat) := [(⟨"TortoiseShelvesModel", "kindHere", "()I"⟩, 17), (⟨"TortoiseShelvesModel", "word", "()J"⟩, 17), (⟨"TortoiseShelvesModel", "tortoiseItem", "(I)V"⟩, 17), (⟨"TortoiseShelvesModel", "wants", "(Z)V"⟩, 17), (⟨"TortoiseShelvesModel", "cellHere", "()V"⟩, 17), (⟨"TortoiseShelvesModel", "number", "(II)V"⟩, 17), (⟨"TortoiseShelvesModel", "fenceItem", "(I)V"⟩, 17), (⟨"TortoiseShelvesModel", "rainItem", "()V"⟩, 17), (⟨"TortoiseShelvesModel", "placeHere", "()I"⟩, 17), (⟨"TortoiseShelvesModel", "placeItem", "(I)V"⟩, 17), (⟨"TortoiseShelvesModel", "putsBack", "()V"⟩, 17), (⟨"TortoiseShelvesModel", "wrong", "(I)I"⟩, 17), (⟨"TortoiseShelvesModel", "wrongBook", "(II)I"⟩, 17), (⟨"TortoiseShelvesModel", "isSo", "(II)I"⟩, 17), (⟨"TortoiseShelvesModel", "tipped", "()I"⟩, 17)]
theorem lw_r5 : ∀ q ∈ lw_privs_5, lw_okq q := List.forall_mem_cons.mpr ⟨lw_p64, List.forall_mem_cons.mpr ⟨lw_p65, List.forall_mem_cons.mpr ⟨lw_p66, List.forall_mem_cons.mpr ⟨lw_p67, List.forall_mem_cons.mpr ⟨lw_p68, List.forall_mem_cons.mpr ⟨lw_p69, List.forall_mem_cons.mpr ⟨lw_p70, List.forall_mem_cons.mpr ⟨lw_p71, List.forall_mem_cons.mpr ⟨lw_p72, List.forall_mem_cons.mpr ⟨lw_p73, List.forall_mem_cons.mpr ⟨lw_p74, List.forall_mem_cons.mpr ⟨lw_p75, List.forall_mem_cons.mpr ⟨lw_p76, List.forall_mem_cons.mpr ⟨lw_p77, List.forall_mem_cons.mpr ⟨lw_p78, fun _ h => absurd h List.not_mem_nil⟩⟩⟩⟩⟩⟩⟩⟩⟩⟩⟩⟩⟩⟩⟩
def lw_privs : List (MethodName × Nat) := lw_privs_1 ++ (lw_privs_2 ++ (lw_privs_3 ++ (lw_privs_4 ++ (lw_privs_5))))
def lw_tbl : List Cond := k2_sels lw_privs ++ tables_1
theorem lw_privs_ok : ∀ q ∈ lw_privs, lw_okq q := by
  show ∀ q ∈ lw_privs_1 ++ (lw_privs_2 ++ (lw_privs_3 ++ (lw_privs_4 ++ (lw_privs_5)))), lw_okq q
  exact List.forall_mem_append.mpr ⟨lw_r1, List.forall_mem_append.mpr ⟨lw_r2, List.forall_mem_append.mpr ⟨lw_r3, List.forall_mem_append.mpr ⟨lw_r4, lw_r5⟩⟩⟩⟩
end
section
def RX0 : String := "TortoiseShelves$Island"
def TX0 : u_T := fun k => match k with
  | 0 => ("TortoiseShelves$Island", "fencedCells", "I", false)
  | 1 => ("TortoiseShelves$Island", "wetClocks", "I", false)
  | 2 => ("TortoiseShelves$Island", "hour", "I", false)
  | 3 => ("TortoiseShelves$Island", "size", "I", false)
  | 4 => ("TortoiseShelves$Island", "spots", "[I", true)
  | 5 => ("TortoiseShelves$Island", "kinds", "[I", true)
  | 6 => ("TortoiseShelves$Island", "cells", "[I", true)
  | 7 => ("TortoiseShelves$Island", "books", "[I", true)
  | _ => ("TortoiseShelves$Island", "tipped", "[Z", true)
def tyX0 : Nat → FieldType := fun k => match k with
  | 0 => .int
  | 1 => .int
  | 2 => .int
  | 3 => .int
  | 4 => .array .int
  | 5 => .array .int
  | 6 => .array .int
  | 7 => .array .int
  | _ => .array .boolean
theorem nmX0 : ∀ a, a < 9 → ∀ b, b < 9 → a ≠ b → (TX0 a).2.1 ≠ (TX0 b).2.1 := by decide +kernel
theorem tyX0_ok : ∀ k, k < 9 → parseFieldDescriptor (TX0 k).2.2.1 = some (tyX0 k) := by decide +kernel
abbrev cX0_init : ByteArray := prog_2_method_1_code
def yX0_init : MethodName := ⟨RX0, "<init>", "()V"⟩
abbrev cX0_becomes : ByteArray := prog_2_method_2_code
def yX0_becomes : MethodName := ⟨RX0, "becomes", "(LTortoiseShelves$Island;)V"⟩
abbrev cX0_has : ByteArray := prog_2_method_3_code
def yX0_has : MethodName := ⟨RX0, "has", "(I)Z"⟩
abbrev cX0_isFull : ByteArray := prog_2_method_4_code
def yX0_isFull : MethodName := ⟨RX0, "isFull", "()Z"⟩
abbrev cX0_comes : ByteArray := prog_2_method_5_code
def yX0_comes : MethodName := ⟨RX0, "comes", "(III)I"⟩
abbrev cX0_isFenced : ByteArray := prog_2_method_6_code
def yX0_isFenced : MethodName := ⟨RX0, "isFenced", "(I)Z"⟩
abbrev cX0_fences : ByteArray := prog_2_method_7_code
def yX0_fences : MethodName := ⟨RX0, "fences", "(IZ)V"⟩
abbrev cX0_clock : ByteArray := prog_2_method_8_code
def yX0_clock : MethodName := ⟨RX0, "clock", "()I"⟩
abbrev cX0_rainsAt : ByteArray := prog_2_method_9_code
def yX0_rainsAt : MethodName := ⟨RX0, "rainsAt", "(I)Z"⟩
abbrev cX0_allTortoises : ByteArray := prog_2_method_10_code
def yX0_allTortoises : MethodName := ⟨RX0, "allTortoises", "()I"⟩
abbrev cX0_tortoisesIn : ByteArray := prog_2_method_11_code
def yX0_tortoisesIn : MethodName := ⟨RX0, "tortoisesIn", "(I)I"⟩
abbrev cX0_tortoisesWith : ByteArray := prog_2_method_12_code
def yX0_tortoisesWith : MethodName := ⟨RX0, "tortoisesWith", "(I)I"⟩
abbrev cX0_cellsOf : ByteArray := prog_2_method_13_code
def yX0_cellsOf : MethodName := ⟨RX0, "cellsOf", "(I)I"⟩
abbrev cX0_subjectsIn : ByteArray := prog_2_method_14_code
def yX0_subjectsIn : MethodName := ⟨RX0, "subjectsIn", "(I)I"⟩
abbrev cX0_booksOfAll : ByteArray := prog_2_method_15_code
def yX0_booksOfAll : MethodName := ⟨RX0, "booksOfAll", "()I"⟩
abbrev cX0_tippedOnes : ByteArray := prog_2_method_16_code
def yX0_tippedOnes : MethodName := ⟨RX0, "tippedOnes", "()I"⟩
abbrev cX0_aimOf : ByteArray := prog_2_method_17_code
def yX0_aimOf : MethodName := ⟨RX0, "aimOf", "(I)I"⟩
abbrev cX0_aimOfLaw : ByteArray := prog_2_method_18_code
def yX0_aimOfLaw : MethodName := ⟨RX0, "aimOfLaw", "(I)I"⟩
abbrev cX0_paceOf : ByteArray := prog_2_method_19_code
def yX0_paceOf : MethodName := ⟨RX0, "paceOf", "(I)I"⟩
abbrev cX0_goHours : ByteArray := prog_2_method_20_code
def yX0_goHours : MethodName := ⟨RX0, "goHours", "(I)V"⟩
abbrev cX0_goAnHour : ByteArray := prog_2_method_21_code
def yX0_goAnHour : MethodName := ⟨RX0, "goAnHour", "()V"⟩
abbrev cX0_goAlone : ByteArray := prog_2_method_22_code
def yX0_goAlone : MethodName := ⟨RX0, "goAlone", "(I)V"⟩
abbrev cX0_walk : ByteArray := prog_2_method_23_code
def yX0_walk : MethodName := ⟨RX0, "walk", "(I)V"⟩
abbrev cX0_stepFrom : ByteArray := prog_2_method_24_code
def yX0_stepFrom : MethodName := ⟨RX0, "stepFrom", "(II)I"⟩
abbrev cX0_meetAll : ByteArray := prog_2_method_25_code
def yX0_meetAll : MethodName := ⟨RX0, "meetAll", "()V"⟩
abbrev cX0_meetTwo : ByteArray := prog_2_method_26_code
def yX0_meetTwo : MethodName := ⟨RX0, "meetTwo", "(II)V"⟩
abbrev cX0_handsOver : ByteArray := prog_2_method_27_code
def yX0_handsOver : MethodName := ⟨RX0, "handsOver", "(III)V"⟩
abbrev cX0_hoursTill : ByteArray := prog_2_method_28_code
def yX0_hoursTill : MethodName := ⟨RX0, "hoursTill", "(III)I"⟩
abbrev cX0_hoursTillTogether : ByteArray := prog_2_method_29_code
def yX0_hoursTillTogether : MethodName := ⟨RX0, "hoursTillTogether", "(III)I"⟩
abbrev cX0_goesAsIn : ByteArray := prog_2_method_30_code
def yX0_goesAsIn : MethodName := ⟨RX0, "goesAsIn", "(LTortoiseShelves$Sheet;I)Z"⟩
def RX1 : String := "TortoiseShelves$Reader"
def TX1 : u_T := fun k => match k with
  | 0 => ("TortoiseShelves$Reader", "isle", "LTortoiseShelves$Island;", true)
  | 1 => ("TortoiseShelves$Reader", "reach", "I", false)
  | 2 => ("TortoiseShelves$Reader", "readsIn", "I", false)
  | _ => ("TortoiseShelves$Reader", "stays", "Z", false)
def tyX1 : Nat → FieldType := fun k => match k with
  | 0 => .object "TortoiseShelves$Island"
  | 1 => .int
  | 2 => .int
  | _ => .boolean
theorem nmX1 : ∀ a, a < 4 → ∀ b, b < 4 → a ≠ b → (TX1 a).2.1 ≠ (TX1 b).2.1 := by decide +kernel
theorem tyX1_ok : ∀ k, k < 4 → parseFieldDescriptor (TX1 k).2.2.1 = some (tyX1 k) := by decide +kernel
abbrev cX1_init : ByteArray := prog_3_method_1_code
def yX1_init : MethodName := ⟨RX1, "<init>", "()V"⟩
abbrev cX1_goesFrom : ByteArray := prog_3_method_2_code
def yX1_goesFrom : MethodName := ⟨RX1, "goesFrom", "(ILTortoiseShelves$Island;)V"⟩
abbrev cX1_staysInOneOf : ByteArray := prog_3_method_3_code
def yX1_staysInOneOf : MethodName := ⟨RX1, "staysInOneOf", "(ILTortoiseShelves$Island;)V"⟩
abbrev cX1_seek : ByteArray := prog_3_method_4_code
def yX1_seek : MethodName := ⟨RX1, "seek", "(II)I"⟩
abbrev cX1_seekTwo : ByteArray := prog_3_method_5_code
def yX1_seekTwo : MethodName := ⟨RX1, "seekTwo", "(III)I"⟩
abbrev cX1_subjectsWithin : ByteArray := prog_3_method_6_code
def yX1_subjectsWithin : MethodName := ⟨RX1, "subjectsWithin", "(I)I"⟩
abbrev cX1_cellsWith : ByteArray := prog_3_method_7_code
def yX1_cellsWith : MethodName := ⟨RX1, "cellsWith", "(I)I"⟩
abbrev cX1_onwards : ByteArray := prog_3_method_8_code
def yX1_onwards : MethodName := ⟨RX1, "onwards", "(I)I"⟩
def RX2 : String := "TortoiseShelves$Sheet"
def TX2 : u_T := fun k => match k with
  | 0 => ("TortoiseShelves$Sheet", "numbers", "[J", true)
  | 1 => ("TortoiseShelves$Sheet", "bits", "I", false)
  | _ => ("TortoiseShelves$Sheet", "length", "I", false)
def tyX2 : Nat → FieldType := fun k => match k with
  | 0 => .array .long
  | 1 => .int
  | _ => .int
theorem nmX2 : ∀ a, a < 3 → ∀ b, b < 3 → a ≠ b → (TX2 a).2.1 ≠ (TX2 b).2.1 := by decide +kernel
theorem tyX2_ok : ∀ k, k < 3 → parseFieldDescriptor (TX2 k).2.2.1 = some (tyX2 k) := by decide +kernel
abbrev cX2_init : ByteArray := prog_4_method_1_code
def yX2_init : MethodName := ⟨RX2, "<init>", "()V"⟩
abbrev cX2_isMissing : ByteArray := prog_4_method_2_code
def yX2_isMissing : MethodName := ⟨RX2, "isMissing", "()Z"⟩
abbrev cX2_becomesBlank : ByteArray := prog_4_method_3_code
def yX2_becomesBlank : MethodName := ⟨RX2, "becomesBlank", "(II)V"⟩
abbrev cX2_lowestBits : ByteArray := prog_4_method_4_code
def yX2_lowestBits : MethodName := ⟨RX2, "lowestBits", "(J)J"⟩
abbrev cX2_hasFrom : ByteArray := prog_4_method_5_code
def yX2_hasFrom : MethodName := ⟨RX2, "hasFrom", "(II)Z"⟩
def RX3 : String := "TortoiseShelves$Tape"
def TX3 : u_T := fun k => match k with
  | 0 => ("TortoiseShelves$Tape", "bytes", "[I", true)
  | 1 => ("TortoiseShelves$Tape", "length", "I", false)
  | 2 => ("TortoiseShelves$Tape", "token", "I", false)
  | 3 => ("TortoiseShelves$Tape", "tokenAt", "I", false)
  | 4 => ("TortoiseShelves$Tape", "tokenEnd", "I", false)
  | 5 => ("TortoiseShelves$Tape", "number", "I", false)
  | _ => ("TortoiseShelves$Tape", "taken", "I", false)
def tyX3 : Nat → FieldType := fun k => match k with
  | 0 => .array .int
  | 1 => .int
  | 2 => .int
  | 3 => .int
  | 4 => .int
  | 5 => .int
  | _ => .int
theorem nmX3 : ∀ a, a < 7 → ∀ b, b < 7 → a ≠ b → (TX3 a).2.1 ≠ (TX3 b).2.1 := by decide +kernel
theorem tyX3_ok : ∀ k, k < 7 → parseFieldDescriptor (TX3 k).2.2.1 = some (tyX3 k) := by decide +kernel
abbrev cX3_init : ByteArray := prog_5_method_1_code
def yX3_init : MethodName := ⟨RX3, "<init>", "()V"⟩
abbrev cX3_takes : ByteArray := prog_5_method_2_code
def yX3_takes : MethodName := ⟨RX3, "takes", "(II)V"⟩
abbrev cX3_tellsTo : ByteArray := prog_5_method_3_code
def yX3_tellsTo : MethodName := ⟨RX3, "tellsTo", "(LTortoiseShelves$Island;)I"⟩
abbrev cX3_tellsItem : ByteArray := prog_5_method_4_code
def yX3_tellsItem : MethodName := ⟨RX3, "tellsItem", "(LTortoiseShelves$Island;)Z"⟩
abbrev cX3_kindTold : ByteArray := prog_5_method_5_code
def yX3_kindTold : MethodName := ⟨RX3, "kindTold", "()I"⟩
abbrev cX3_nameOf : ByteArray := prog_5_method_6_code
def yX3_nameOf : MethodName := ⟨RX3, "nameOf", "(I)Ljava/lang/String;"⟩
abbrev cX3_tellsTortoise : ByteArray := prog_5_method_7_code
def yX3_tellsTortoise : MethodName := ⟨RX3, "tellsTortoise", "(LTortoiseShelves$Island;I)Z"⟩
abbrev cX3_tellsFence : ByteArray := prog_5_method_8_code
def yX3_tellsFence : MethodName := ⟨RX3, "tellsFence", "(LTortoiseShelves$Island;Z)Z"⟩
abbrev cX3_tellsRain : ByteArray := prog_5_method_9_code
def yX3_tellsRain : MethodName := ⟨RX3, "tellsRain", "(LTortoiseShelves$Island;)Z"⟩
abbrev cX3_tellsSpot : ByteArray := prog_5_method_10_code
def yX3_tellsSpot : MethodName := ⟨RX3, "tellsSpot", "(LTortoiseShelves$Island;I)Z"⟩
abbrev cX3_takesNumber : ByteArray := prog_5_method_11_code
def yX3_takesNumber : MethodName := ⟨RX3, "takesNumber", "(II)Z"⟩
abbrev cX3_isWord : ByteArray := prog_5_method_12_code
def yX3_isWord : MethodName := ⟨RX3, "isWord", "(Ljava/lang/String;)Z"⟩
abbrev cX3_nextToken : ByteArray := prog_5_method_13_code
def yX3_nextToken : MethodName := ⟨RX3, "nextToken", "()V"⟩
abbrev cX3_isLetter : ByteArray := prog_5_method_14_code
def yX3_isLetter : MethodName := ⟨RX3, "isLetter", "(I)Z"⟩
abbrev cX3_isDigit : ByteArray := prog_5_method_15_code
def yX3_isDigit : MethodName := ⟨RX3, "isDigit", "(I)Z"⟩
def RX4 : String := "TortoiseShelves"
def TX4 : u_T := fun k => match k with
  | 0 => ("TortoiseShelves", "isle", "LTortoiseShelves$Island;", true)
  | 1 => ("TortoiseShelves", "ahead", "LTortoiseShelves$Island;", true)
  | 2 => ("TortoiseShelves", "kept", "LTortoiseShelves$Island;", true)
  | 3 => ("TortoiseShelves", "reader", "LTortoiseShelves$Reader;", true)
  | 4 => ("TortoiseShelves", "tape", "LTortoiseShelves$Tape;", true)
  | 5 => ("TortoiseShelves", "sheets", "[LTortoiseShelves$Sheet;", true)
  | 6 => ("TortoiseShelves", "found", "[I", true)
  | _ => ("TortoiseShelves", "keeps", "Z", false)
def tyX4 : Nat → FieldType := fun k => match k with
  | 0 => .object "TortoiseShelves$Island"
  | 1 => .object "TortoiseShelves$Island"
  | 2 => .object "TortoiseShelves$Island"
  | 3 => .object "TortoiseShelves$Reader"
  | 4 => .object "TortoiseShelves$Tape"
  | 5 => .array (.object "TortoiseShelves$Sheet")
  | 6 => .array .int
  | _ => .boolean
theorem nmX4 : ∀ a, a < 8 → ∀ b, b < 8 → a ≠ b → (TX4 a).2.1 ≠ (TX4 b).2.1 := by decide +kernel
theorem tyX4_ok : ∀ k, k < 8 → parseFieldDescriptor (TX4 k).2.2.1 = some (tyX4 k) := by decide +kernel
abbrev cX4_init : ByteArray := prog_1_method_1_code
def yX4_init : MethodName := ⟨RX4, "<init>", "()V"⟩
abbrev cX4_fence : ByteArray := prog_1_method_2_code
def yX4_fence : MethodName := ⟨RX4, "fence", "(II)I"⟩
abbrev cX4_spot : ByteArray := prog_1_method_3_code
def yX4_spot : MethodName := ⟨RX4, "spot", "(II)I"⟩
abbrev cX4_rain : ByteArray := prog_1_method_4_code
def yX4_rain : MethodName := ⟨RX4, "rain", "(I)I"⟩
abbrev cX4_cell : ByteArray := prog_1_method_5_code
def yX4_cell : MethodName := ⟨RX4, "cell", "(II)I"⟩
abbrev cX4_tortoise : ByteArray := prog_1_method_6_code
def yX4_tortoise : MethodName := ⟨RX4, "tortoise", "(III)I"⟩
abbrev cX4_of : ByteArray := prog_1_method_7_code
def yX4_of : MethodName := ⟨RX4, "of", "(II)I"⟩
abbrev cX4_set : ByteArray := prog_1_method_8_code
def yX4_set : MethodName := ⟨RX4, "set", "(III)I"⟩
abbrev cX4_turn : ByteArray := prog_1_method_9_code
def yX4_turn : MethodName := ⟨RX4, "turn", "(II)I"⟩
abbrev cX4_as : ByteArray := prog_1_method_10_code
def yX4_as : MethodName := ⟨RX4, "as", "(II)I"⟩
abbrev cX4_lend : ByteArray := prog_1_method_11_code
def yX4_lend : MethodName := ⟨RX4, "lend", "(III)I"⟩
abbrev cX4_hours : ByteArray := prog_1_method_12_code
def yX4_hours : MethodName := ⟨RX4, "hours", "(I)I"⟩
abbrev cX4_now : ByteArray := prog_1_method_13_code
def yX4_now : MethodName := ⟨RX4, "now", "(I)I"⟩
abbrev cX4_on : ByteArray := prog_1_method_14_code
def yX4_on : MethodName := ⟨RX4, "on", "(III)I"⟩
abbrev cX4_when : ByteArray := prog_1_method_15_code
def yX4_when : MethodName := ⟨RX4, "when", "(II)I"⟩
abbrev cX4_meet : ByteArray := prog_1_method_16_code
def yX4_meet : MethodName := ⟨RX4, "meet", "(II)I"⟩
abbrev cX4_carries : ByteArray := prog_1_method_17_code
def yX4_carries : MethodName := ⟨RX4, "carries", "(II)I"⟩
abbrev cX4_soonest : ByteArray := prog_1_method_18_code
def yX4_soonest : MethodName := ⟨RX4, "soonest", "(II)I"⟩
abbrev cX4_where : ByteArray := prog_1_method_19_code
def yX4_where : MethodName := ⟨RX4, "where", "(II)I"⟩
abbrev cX4_waits : ByteArray := prog_1_method_20_code
def yX4_waits : MethodName := ⟨RX4, "waits", "(II)I"⟩
abbrev cX4_waterhole : ByteArray := prog_1_method_21_code
def yX4_waterhole : MethodName := ⟨RX4, "waterhole", "(I)I"⟩
abbrev cX4_many : ByteArray := prog_1_method_22_code
def yX4_many : MethodName := ⟨RX4, "many", "(II)I"⟩
abbrev cX4_both : ByteArray := prog_1_method_23_code
def yX4_both : MethodName := ⟨RX4, "both", "(III)I"⟩
abbrev cX4_censors : ByteArray := prog_1_method_24_code
def yX4_censors : MethodName := ⟨RX4, "censors", "(III)I"⟩
abbrev cX4_tips : ByteArray := prog_1_method_25_code
def yX4_tips : MethodName := ⟨RX4, "tips", "(II)I"⟩
abbrev cX4_spring : ByteArray := prog_1_method_26_code
def yX4_spring : MethodName := ⟨RX4, "spring", "(II)I"⟩
abbrev cX4_kind : ByteArray := prog_1_method_27_code
def yX4_kind : MethodName := ⟨RX4, "kind", "(II)I"⟩
abbrev cX4_feed : ByteArray := prog_1_method_28_code
def yX4_feed : MethodName := ⟨RX4, "feed", "(II)I"⟩
abbrev cX4_wipe : ByteArray := prog_1_method_29_code
def yX4_wipe : MethodName := ⟨RX4, "wipe", "()I"⟩
abbrev cX4_island : ByteArray := prog_1_method_30_code
def yX4_island : MethodName := ⟨RX4, "island", "()I"⟩
abbrev cX4_sheet : ByteArray := prog_1_method_31_code
def yX4_sheet : MethodName := ⟨RX4, "sheet", "(III)I"⟩
abbrev cX4_write : ByteArray := prog_1_method_32_code
def yX4_write : MethodName := ⟨RX4, "write", "(IIJ)J"⟩
abbrev cX4_copy : ByteArray := prog_1_method_33_code
def yX4_copy : MethodName := ⟨RX4, "copy", "(IIIII)I"⟩
abbrev cX4_lays : ByteArray := prog_1_method_34_code
def yX4_lays : MethodName := ⟨RX4, "lays", "(I)I"⟩
abbrev cX4_book : ByteArray := prog_1_method_35_code
def yX4_book : MethodName := ⟨RX4, "book", "(II)I"⟩
abbrev cX4_read : ByteArray := prog_1_method_36_code
def yX4_read : MethodName := ⟨RX4, "read", "(II)I"⟩
abbrev cX4_image : ByteArray := prog_1_method_37_code
def yX4_image : MethodName := ⟨RX4, "image", "()I"⟩
abbrev cX4_undo : ByteArray := prog_1_method_38_code
def yX4_undo : MethodName := ⟨RX4, "undo", "()I"⟩
abbrev cX4_tear : ByteArray := prog_1_method_39_code
def yX4_tear : MethodName := ⟨RX4, "tear", "()I"⟩
abbrev cX4_count : ByteArray := prog_1_method_40_code
def yX4_count : MethodName := ⟨RX4, "count", "(I)I"⟩
abbrev cX4_status : ByteArray := prog_1_method_41_code
def yX4_status : MethodName := ⟨RX4, "status", "(I)I"⟩
abbrev cX4_finding : ByteArray := prog_1_method_42_code
def yX4_finding : MethodName := ⟨RX4, "finding", "(I)I"⟩
abbrev cX4_askOfReader : ByteArray := prog_1_method_43_code
def yX4_askOfReader : MethodName := ⟨RX4, "askOfReader", "(II)I"⟩
abbrev cX4_askOfSheet : ByteArray := prog_1_method_44_code
def yX4_askOfSheet : MethodName := ⟨RX4, "askOfSheet", "(I)I"⟩
abbrev cX4_hoursOrNone : ByteArray := prog_1_method_45_code
def yX4_hoursOrNone : MethodName := ⟨RX4, "hoursOrNone", "(I)I"⟩
abbrev cX4_placeOrNone : ByteArray := prog_1_method_46_code
def yX4_placeOrNone : MethodName := ⟨RX4, "placeOrNone", "(I)I"⟩
abbrev cX4_areTwo : ByteArray := prog_1_method_47_code
def yX4_areTwo : MethodName := ⟨RX4, "areTwo", "(II)Z"⟩
abbrev cX4_bestTipped : ByteArray := prog_1_method_48_code
def yX4_bestTipped : MethodName := ⟨RX4, "bestTipped", "(II)I"⟩
abbrev cX4_bestSpring : ByteArray := prog_1_method_49_code
def yX4_bestSpring : MethodName := ⟨RX4, "bestSpring", "(II)I"⟩
abbrev cX4_bestKind : ByteArray := prog_1_method_50_code
def yX4_bestKind : MethodName := ⟨RX4, "bestKind", "(II)I"⟩
abbrev cX4_laysBooks : ByteArray := prog_1_method_51_code
def yX4_laysBooks : MethodName := ⟨RX4, "laysBooks", "(LTortoiseShelves$Sheet;)I"⟩
abbrev cX4_isBelow : ByteArray := prog_1_method_52_code
def yX4_isBelow : MethodName := ⟨RX4, "isBelow", "(II)Z"⟩
abbrev cX4_isCell : ByteArray := prog_1_method_53_code
def yX4_isCell : MethodName := ⟨RX4, "isCell", "(I)Z"⟩
abbrev cX4_isSubject : ByteArray := prog_1_method_54_code
def yX4_isSubject : MethodName := ⟨RX4, "isSubject", "(I)Z"⟩
abbrev cX4_isKind : ByteArray := prog_1_method_55_code
def yX4_isKind : MethodName := ⟨RX4, "isKind", "(I)Z"⟩
abbrev cX4_isFlag : ByteArray := prog_1_method_56_code
def yX4_isFlag : MethodName := ⟨RX4, "isFlag", "(I)Z"⟩
abbrev cX4_isForeseen : ByteArray := prog_1_method_57_code
def yX4_isForeseen : MethodName := ⟨RX4, "isForeseen", "(I)Z"⟩
abbrev cX4_isSetOf : ByteArray := prog_1_method_58_code
def yX4_isSetOf : MethodName := ⟨RX4, "isSetOf", "(II)Z"⟩
abbrev cX4_isUnder : ByteArray := prog_1_method_59_code
def yX4_isUnder : MethodName := ⟨RX4, "isUnder", "(II)Z"⟩
abbrev cX4_least : ByteArray := prog_1_method_60_code
def yX4_least : MethodName := ⟨RX4, "least", "(I)I"⟩
def RX5 : String := "TortoiseShelvesModel"
def TX5 : u_T := fun k => match k with
  | 0 => ("TortoiseShelvesModel", "s", "[I", true)
  | 1 => ("TortoiseShelvesModel", "keptS", "[I", true)
  | 2 => ("TortoiseShelvesModel", "other", "[I", true)
  | 3 => ("TortoiseShelvesModel", "aside", "[I", true)
  | 4 => ("TortoiseShelvesModel", "statuses", "[I", true)
  | 5 => ("TortoiseShelvesModel", "isKept", "Z", false)
  | 6 => ("TortoiseShelvesModel", "readIn", "I", false)
  | 7 => ("TortoiseShelvesModel", "tape", "[I", true)
  | 8 => ("TortoiseShelvesModel", "taped", "I", false)
  | 9 => ("TortoiseShelvesModel", "from", "I", false)
  | 10 => ("TortoiseShelvesModel", "to", "I", false)
  | 11 => ("TortoiseShelvesModel", "value", "I", false)
  | 12 => ("TortoiseShelvesModel", "isWrong", "Z", false)
  | 13 => ("TortoiseShelvesModel", "bitsOf", "[I", true)
  | 14 => ("TortoiseShelvesModel", "sizeOf", "[I", true)
  | 15 => ("TortoiseShelvesModel", "numbers", "[J", true)
  | _ => ("TortoiseShelvesModel", "moved", "[J", true)
def tyX5 : Nat → FieldType := fun k => match k with
  | 0 => .array .int
  | 1 => .array .int
  | 2 => .array .int
  | 3 => .array .int
  | 4 => .array .int
  | 5 => .boolean
  | 6 => .int
  | 7 => .array .int
  | 8 => .int
  | 9 => .int
  | 10 => .int
  | 11 => .int
  | 12 => .boolean
  | 13 => .array .int
  | 14 => .array .int
  | 15 => .array .long
  | _ => .array .long
theorem nmX5 : ∀ a, a < 17 → ∀ b, b < 17 → a ≠ b → (TX5 a).2.1 ≠ (TX5 b).2.1 := by decide +kernel
theorem tyX5_ok : ∀ k, k < 17 → parseFieldDescriptor (TX5 k).2.2.1 = some (tyX5 k) := by decide +kernel
abbrev cX5_init : ByteArray := prog_7_method_1_code
def yX5_init : MethodName := ⟨RX5, "<init>", "()V"⟩
abbrev cX5_in : ByteArray := prog_7_method_2_code
def yX5_in : MethodName := ⟨RX5, "in", "(JJJ)Z"⟩
abbrev cX5_finds : ByteArray := prog_7_method_3_code
def yX5_finds : MethodName := ⟨RX5, "finds", "(I)I"⟩
abbrev cX5_saves : ByteArray := prog_7_method_4_code
def yX5_saves : MethodName := ⟨RX5, "saves", "()V"⟩
abbrev cX5_putsBack : ByteArray := prog_7_method_5_code
def yX5_putsBack : MethodName := ⟨RX5, "putsBack", "()V"⟩
abbrev cX5_laysAside : ByteArray := prog_7_method_6_code
def yX5_laysAside : MethodName := ⟨RX5, "laysAside", "()V"⟩
abbrev cX5_takesBack : ByteArray := prog_7_method_7_code
def yX5_takesBack : MethodName := ⟨RX5, "takesBack", "(I)I"⟩
abbrev cX5_becomes : ByteArray := prog_7_method_8_code
def yX5_becomes : MethodName := ⟨RX5, "becomes", "(II)I"⟩
abbrev cX5_isCell : ByteArray := prog_7_method_9_code
def yX5_isCell : MethodName := ⟨RX5, "isCell", "(I)Z"⟩
abbrev cX5_isKind : ByteArray := prog_7_method_10_code
def yX5_isKind : MethodName := ⟨RX5, "isKind", "(I)Z"⟩
abbrev cX5_isSubject : ByteArray := prog_7_method_11_code
def yX5_isSubject : MethodName := ⟨RX5, "isSubject", "(I)Z"⟩
abbrev cX5_isSet : ByteArray := prog_7_method_12_code
def yX5_isSet : MethodName := ⟨RX5, "isSet", "(J)Z"⟩
abbrev cX5_isOne : ByteArray := prog_7_method_13_code
def yX5_isOne : MethodName := ⟨RX5, "isOne", "(I)Z"⟩
abbrev cX5_areTwo : ByteArray := prog_7_method_14_code
def yX5_areTwo : MethodName := ⟨RX5, "areTwo", "(II)Z"⟩
abbrev cX5_spotOf : ByteArray := prog_7_method_15_code
def yX5_spotOf : MethodName := ⟨RX5, "spotOf", "(II)I"⟩
abbrev cX5_its : ByteArray := prog_7_method_16_code
def yX5_its : MethodName := ⟨RX5, "its", "(II)I"⟩
abbrev cX5_ones : ByteArray := prog_7_method_17_code
def yX5_ones : MethodName := ⟨RX5, "ones", "(I)I"⟩
abbrev cX5_isFenced : ByteArray := prog_7_method_18_code
def yX5_isFenced : MethodName := ⟨RX5, "isFenced", "(I)Z"⟩
abbrev cX5_fences : ByteArray := prog_7_method_19_code
def yX5_fences : MethodName := ⟨RX5, "fences", "(II)V"⟩
abbrev cX5_fence : ByteArray := prog_7_method_20_code
def yX5_fence : MethodName := ⟨RX5, "fence", "(II)I"⟩
abbrev cX5_spot : ByteArray := prog_7_method_21_code
def yX5_spot : MethodName := ⟨RX5, "spot", "(II)I"⟩
abbrev cX5_rain : ByteArray := prog_7_method_22_code
def yX5_rain : MethodName := ⟨RX5, "rain", "(I)I"⟩
abbrev cX5_those : ByteArray := prog_7_method_23_code
def yX5_those : MethodName := ⟨RX5, "those", "(I)I"⟩
abbrev cX5_booksIn : ByteArray := prog_7_method_24_code
def yX5_booksIn : MethodName := ⟨RX5, "booksIn", "(I)I"⟩
abbrev cX5_cell : ByteArray := prog_7_method_25_code
def yX5_cell : MethodName := ⟨RX5, "cell", "(II)I"⟩
abbrev cX5_clock : ByteArray := prog_7_method_26_code
def yX5_clock : MethodName := ⟨RX5, "clock", "()I"⟩
abbrev cX5_rains : ByteArray := prog_7_method_27_code
def yX5_rains : MethodName := ⟨RX5, "rains", "()Z"⟩
abbrev cX5_lawful : ByteArray := prog_7_method_28_code
def yX5_lawful : MethodName := ⟨RX5, "lawful", "()I"⟩
abbrev cX5_aimOf : ByteArray := prog_7_method_29_code
def yX5_aimOf : MethodName := ⟨RX5, "aimOf", "(I)I"⟩
abbrev cX5_paceOf : ByteArray := prog_7_method_30_code
def yX5_paceOf : MethodName := ⟨RX5, "paceOf", "(I)I"⟩
abbrev cX5_adds : ByteArray := prog_7_method_31_code
def yX5_adds : MethodName := ⟨RX5, "adds", "(III)I"⟩
abbrev cX5_tortoise : ByteArray := prog_7_method_32_code
def yX5_tortoise : MethodName := ⟨RX5, "tortoise", "(III)I"⟩
abbrev cX5_of : ByteArray := prog_7_method_33_code
def yX5_of : MethodName := ⟨RX5, "of", "(II)I"⟩
abbrev cX5_set : ByteArray := prog_7_method_34_code
def yX5_set : MethodName := ⟨RX5, "set", "(III)I"⟩
abbrev cX5_turn : ByteArray := prog_7_method_35_code
def yX5_turn : MethodName := ⟨RX5, "turn", "(II)I"⟩
abbrev cX5_above : ByteArray := prog_7_method_36_code
def yX5_above : MethodName := ⟨RX5, "above", "(I)I"⟩
abbrev cX5_as : ByteArray := prog_7_method_37_code
def yX5_as : MethodName := ⟨RX5, "as", "(II)I"⟩
abbrev cX5_lends : ByteArray := prog_7_method_38_code
def yX5_lends : MethodName := ⟨RX5, "lends", "(III)V"⟩
abbrev cX5_lend : ByteArray := prog_7_method_39_code
def yX5_lend : MethodName := ⟨RX5, "lend", "(III)I"⟩
abbrev cX5_nearer : ByteArray := prog_7_method_40_code
def yX5_nearer : MethodName := ⟨RX5, "nearer", "(II)I"⟩
abbrev cX5_goes : ByteArray := prog_7_method_41_code
def yX5_goes : MethodName := ⟨RX5, "goes", "(I)V"⟩
abbrev cX5_meets : ByteArray := prog_7_method_42_code
def yX5_meets : MethodName := ⟨RX5, "meets", "(II)V"⟩
abbrev cX5_hour : ByteArray := prog_7_method_43_code
def yX5_hour : MethodName := ⟨RX5, "hour", "()V"⟩
abbrev cX5_go : ByteArray := prog_7_method_44_code
def yX5_go : MethodName := ⟨RX5, "go", "(I)V"⟩
abbrev cX5_allBooks : ByteArray := prog_7_method_45_code
def yX5_allBooks : MethodName := ⟨RX5, "allBooks", "()I"⟩
abbrev cX5_hours : ByteArray := prog_7_method_46_code
def yX5_hours : MethodName := ⟨RX5, "hours", "(I)I"⟩
abbrev cX5_allSubjects : ByteArray := prog_7_method_47_code
def yX5_allSubjects : MethodName := ⟨RX5, "allSubjects", "()I"⟩
abbrev cX5_allCells : ByteArray := prog_7_method_48_code
def yX5_allCells : MethodName := ⟨RX5, "allCells", "()I"⟩
abbrev cX5_now : ByteArray := prog_7_method_49_code
def yX5_now : MethodName := ⟨RX5, "now", "(I)I"⟩
abbrev cX5_on : ByteArray := prog_7_method_50_code
def yX5_on : MethodName := ⟨RX5, "on", "(III)I"⟩
abbrev cX5_whenOf : ByteArray := prog_7_method_51_code
def yX5_whenOf : MethodName := ⟨RX5, "whenOf", "(II)I"⟩
abbrev cX5_orNone : ByteArray := prog_7_method_52_code
def yX5_orNone : MethodName := ⟨RX5, "orNone", "(II)I"⟩
abbrev cX5_when : ByteArray := prog_7_method_53_code
def yX5_when : MethodName := ⟨RX5, "when", "(II)I"⟩
abbrev cX5_meet : ByteArray := prog_7_method_54_code
def yX5_meet : MethodName := ⟨RX5, "meet", "(II)I"⟩
abbrev cX5_carriers : ByteArray := prog_7_method_55_code
def yX5_carriers : MethodName := ⟨RX5, "carriers", "(I)I"⟩
abbrev cX5_carries : ByteArray := prog_7_method_56_code
def yX5_carries : MethodName := ⟨RX5, "carries", "(II)I"⟩
abbrev cX5_open : ByteArray := prog_7_method_57_code
def yX5_open : MethodName := ⟨RX5, "open", "()I"⟩
abbrev cX5_spread : ByteArray := prog_7_method_58_code
def yX5_spread : MethodName := ⟨RX5, "spread", "(I)I"⟩
abbrev cX5_places : ByteArray := prog_7_method_59_code
def yX5_places : MethodName := ⟨RX5, "places", "(I)I"⟩
abbrev cX5_soonestOf : ByteArray := prog_7_method_60_code
def yX5_soonestOf : MethodName := ⟨RX5, "soonestOf", "(II)I"⟩
abbrev cX5_wrongReader : ByteArray := prog_7_method_61_code
def yX5_wrongReader : MethodName := ⟨RX5, "wrongReader", "(II)I"⟩
abbrev cX5_soonest : ByteArray := prog_7_method_62_code
def yX5_soonest : MethodName := ⟨RX5, "soonest", "(II)I"⟩
abbrev cX5_where : ByteArray := prog_7_method_63_code
def yX5_where : MethodName := ⟨RX5, "where", "(II)I"⟩
abbrev cX5_waits : ByteArray := prog_7_method_64_code
def yX5_waits : MethodName := ⟨RX5, "waits", "(II)I"⟩
abbrev cX5_waterhole : ByteArray := prog_7_method_65_code
def yX5_waterhole : MethodName := ⟨RX5, "waterhole", "(I)I"⟩
abbrev cX5_many : ByteArray := prog_7_method_66_code
def yX5_many : MethodName := ⟨RX5, "many", "(II)I"⟩
abbrev cX5_both : ByteArray := prog_7_method_67_code
def yX5_both : MethodName := ⟨RX5, "both", "(III)I"⟩
abbrev cX5_censors : ByteArray := prog_7_method_68_code
def yX5_censors : MethodName := ⟨RX5, "censors", "(III)I"⟩
abbrev cX5_isSooner : ByteArray := prog_7_method_69_code
def yX5_isSooner : MethodName := ⟨RX5, "isSooner", "(II)Z"⟩
abbrev cX5_tips : ByteArray := prog_7_method_70_code
def yX5_tips : MethodName := ⟨RX5, "tips", "(II)I"⟩
abbrev cX5_spring : ByteArray := prog_7_method_71_code
def yX5_spring : MethodName := ⟨RX5, "spring", "(II)I"⟩
abbrev cX5_kind : ByteArray := prog_7_method_72_code
def yX5_kind : MethodName := ⟨RX5, "kind", "(II)I"⟩
abbrev cX5_feed : ByteArray := prog_7_method_73_code
def yX5_feed : MethodName := ⟨RX5, "feed", "(II)I"⟩
abbrev cX5_wipe : ByteArray := prog_7_method_74_code
def yX5_wipe : MethodName := ⟨RX5, "wipe", "()I"⟩
abbrev cX5_byteAt : ByteArray := prog_7_method_75_code
def yX5_byteAt : MethodName := ⟨RX5, "byteAt", "(I)I"⟩
abbrev cX5_isLetter : ByteArray := prog_7_method_76_code
def yX5_isLetter : MethodName := ⟨RX5, "isLetter", "(I)Z"⟩
abbrev cX5_isDigit : ByteArray := prog_7_method_77_code
def yX5_isDigit : MethodName := ⟨RX5, "isDigit", "(I)Z"⟩
abbrev cX5_token : ByteArray := prog_7_method_78_code
def yX5_token : MethodName := ⟨RX5, "token", "()V"⟩
abbrev cX5_wants : ByteArray := prog_7_method_79_code
def yX5_wants : MethodName := ⟨RX5, "wants", "(Z)V"⟩
abbrev cX5_word : ByteArray := prog_7_method_80_code
def yX5_word : MethodName := ⟨RX5, "word", "()J"⟩
abbrev cX5_number : ByteArray := prog_7_method_81_code
def yX5_number : MethodName := ⟨RX5, "number", "(II)V"⟩
abbrev cX5_kindHere : ByteArray := prog_7_method_82_code
def yX5_kindHere : MethodName := ⟨RX5, "kindHere", "()I"⟩
abbrev cX5_placeHere : ByteArray := prog_7_method_83_code
def yX5_placeHere : MethodName := ⟨RX5, "placeHere", "()I"⟩
abbrev cX5_cellHere : ByteArray := prog_7_method_84_code
def yX5_cellHere : MethodName := ⟨RX5, "cellHere", "()V"⟩
abbrev cX5_tortoiseItem : ByteArray := prog_7_method_85_code
def yX5_tortoiseItem : MethodName := ⟨RX5, "tortoiseItem", "(I)V"⟩
abbrev cX5_fenceItem : ByteArray := prog_7_method_86_code
def yX5_fenceItem : MethodName := ⟨RX5, "fenceItem", "(I)V"⟩
abbrev cX5_rainItem : ByteArray := prog_7_method_87_code
def yX5_rainItem : MethodName := ⟨RX5, "rainItem", "()V"⟩
abbrev cX5_placeItem : ByteArray := prog_7_method_88_code
def yX5_placeItem : MethodName := ⟨RX5, "placeItem", "(I)V"⟩
abbrev cX5_item : ByteArray := prog_7_method_89_code
def yX5_item : MethodName := ⟨RX5, "item", "()V"⟩
abbrev cX5_island : ByteArray := prog_7_method_90_code
def yX5_island : MethodName := ⟨RX5, "island", "()I"⟩
abbrev cX5_isRow : ByteArray := prog_7_method_91_code
def yX5_isRow : MethodName := ⟨RX5, "isRow", "(I)Z"⟩
abbrev cX5_sheet : ByteArray := prog_7_method_92_code
def yX5_sheet : MethodName := ⟨RX5, "sheet", "(III)I"⟩
abbrev cX5_narrowed : ByteArray := prog_7_method_93_code
def yX5_narrowed : MethodName := ⟨RX5, "narrowed", "(IJ)J"⟩
abbrev cX5_wrong : ByteArray := prog_7_method_94_code
def yX5_wrong : MethodName := ⟨RX5, "wrong", "(I)I"⟩
abbrev cX5_write : ByteArray := prog_7_method_95_code
def yX5_write : MethodName := ⟨RX5, "write", "(IIJ)J"⟩
abbrev cX5_copy : ByteArray := prog_7_method_96_code
def yX5_copy : MethodName := ⟨RX5, "copy", "(IIIII)I"⟩
abbrev cX5_lays : ByteArray := prog_7_method_97_code
def yX5_lays : MethodName := ⟨RX5, "lays", "(I)I"⟩
abbrev cX5_wrongBook : ByteArray := prog_7_method_98_code
def yX5_wrongBook : MethodName := ⟨RX5, "wrongBook", "(II)I"⟩
abbrev cX5_book : ByteArray := prog_7_method_99_code
def yX5_book : MethodName := ⟨RX5, "book", "(II)I"⟩
abbrev cX5_isSo : ByteArray := prog_7_method_100_code
def yX5_isSo : MethodName := ⟨RX5, "isSo", "(II)I"⟩
abbrev cX5_read : ByteArray := prog_7_method_101_code
def yX5_read : MethodName := ⟨RX5, "read", "(II)I"⟩
abbrev cX5_image : ByteArray := prog_7_method_102_code
def yX5_image : MethodName := ⟨RX5, "image", "()I"⟩
abbrev cX5_undo : ByteArray := prog_7_method_103_code
def yX5_undo : MethodName := ⟨RX5, "undo", "()I"⟩
abbrev cX5_tear : ByteArray := prog_7_method_104_code
def yX5_tear : MethodName := ⟨RX5, "tear", "()I"⟩
abbrev cX5_tipped : ByteArray := prog_7_method_105_code
def yX5_tipped : MethodName := ⟨RX5, "tipped", "()I"⟩
abbrev cX5_count : ByteArray := prog_7_method_106_code
def yX5_count : MethodName := ⟨RX5, "count", "(I)I"⟩
abbrev cX5_status : ByteArray := prog_7_method_107_code
def yX5_status : MethodName := ⟨RX5, "status", "(I)I"⟩
def RJ6 : String := "java/lang/Integer"
def TJ6 : u_T := fun k => match k with
  | _ => ("", "", "", false)
def tyJ6 : Nat → FieldType := fun k => match k with
  | _ => .int
theorem nmJ6 : ∀ a, a < 0 → ∀ b, b < 0 → a ≠ b → (TJ6 a).2.1 ≠ (TJ6 b).2.1 := by decide +kernel
theorem tyJ6_ok : ∀ k, k < 0 → parseFieldDescriptor (TJ6 k).2.2.1 = some (tyJ6 k) := by decide +kernel
abbrev cJ6_bitCount_0f7a4 : ByteArray := prog_8_method_49_code
def yJ6_bitCount_0f7a4 : MethodName := ⟨RJ6, "bitCount", "(I)I"⟩
def RJ9 : String := "java/lang/Math"
def TJ9 : u_T := fun k => match k with
  | _ => ("", "", "", false)
def tyJ9 : Nat → FieldType := fun k => match k with
  | _ => .int
theorem nmJ9 : ∀ a, a < 0 → ∀ b, b < 0 → a ≠ b → (TJ9 a).2.1 ≠ (TJ9 b).2.1 := by decide +kernel
theorem tyJ9_ok : ∀ k, k < 0 → parseFieldDescriptor (TJ9 k).2.2.1 = some (tyJ9 k) := by decide +kernel
abbrev cJ9_min_7cf53 : ByteArray := prog_9_method_69_code
def yJ9_min_7cf53 : MethodName := ⟨RJ9, "min", "(II)I"⟩
def RJ0 : String := "java/lang/String"
def TJ0 : u_T := fun k => match k with
  | _ => ("", "", "", false)
def tyJ0 : Nat → FieldType := fun k => match k with
  | _ => .int
theorem nmJ0 : ∀ a, a < 0 → ∀ b, b < 0 → a ≠ b → (TJ0 a).2.1 ≠ (TJ0 b).2.1 := by decide +kernel
theorem tyJ0_ok : ∀ k, k < 0 → parseFieldDescriptor (TJ0 k).2.2.1 = some (tyJ0 k) := by decide +kernel
abbrev cJ0_length_8abf5 : ByteArray := prog_10_method_54_code
def yJ0_length_8abf5 : MethodName := ⟨RJ0, "length", "()I"⟩
abbrev cJ0_charAt_5068e : ByteArray := prog_10_method_56_code
def yJ0_charAt_5068e : MethodName := ⟨RJ0, "charAt", "(I)C"⟩
abbrev cJ0_coder_7d493 : ByteArray := prog_10_method_152_code
def yJ0_coder_7d493 : MethodName := ⟨RJ0, "coder", "()B"⟩
abbrev cJ0_isLatin1_aae02 : ByteArray := prog_10_method_154_code
def yJ0_isLatin1_aae02 : MethodName := ⟨RJ0, "isLatin1", "()Z"⟩
abbrev cJ0_checkIndex_df160 : ByteArray := prog_10_method_155_code
def yJ0_checkIndex_df160 : MethodName := ⟨RJ0, "checkIndex", "(II)V"⟩
def RJ1 : String := "java/lang/StringLatin1"
def TJ1 : u_T := fun k => match k with
  | _ => ("", "", "", false)
def tyJ1 : Nat → FieldType := fun k => match k with
  | _ => .int
theorem nmJ1 : ∀ a, a < 0 → ∀ b, b < 0 → a ≠ b → (TJ1 a).2.1 ≠ (TJ1 b).2.1 := by decide +kernel
theorem tyJ1_ok : ∀ k, k < 0 → parseFieldDescriptor (TJ1 k).2.2.1 = some (tyJ1 k) := by decide +kernel
abbrev cJ1_charAt_3b067 : ByteArray := prog_11_method_2_code
def yJ1_charAt_3b067 : MethodName := ⟨RJ1, "charAt", "([BI)C"⟩
def RJ2 : String := "java/lang/StringUTF16"
def TJ2 : u_T := fun k => match k with
  | _ => ("", "", "", false)
def tyJ2 : Nat → FieldType := fun k => match k with
  | _ => .int
theorem nmJ2 : ∀ a, a < 0 → ∀ b, b < 0 → a ≠ b → (TJ2 a).2.1 ≠ (TJ2 b).2.1 := by decide +kernel
theorem tyJ2_ok : ∀ k, k < 0 → parseFieldDescriptor (TJ2 k).2.2.1 = some (tyJ2 k) := by decide +kernel
abbrev cJ2_getChar_3b067 : ByteArray := prog_12_method_5_code
def yJ2_getChar_3b067 : MethodName := ⟨RJ2, "getChar", "([BI)C"⟩
abbrev cJ2_length_9d52b : ByteArray := prog_12_method_6_code
def yJ2_length_9d52b : MethodName := ⟨RJ2, "length", "([B)I"⟩
abbrev cJ2_charAt_3b067 : ByteArray := prog_12_method_83_code
def yJ2_charAt_3b067 : MethodName := ⟨RJ2, "charAt", "([BI)C"⟩
abbrev cJ2_checkIndex_2214a : ByteArray := prog_12_method_91_code
def yJ2_checkIndex_2214a : MethodName := ⟨RJ2, "checkIndex", "(I[B)V"⟩
def RJ10 : String := "java/lang/System"
def TJ10 : u_T := fun k => match k with
  | _ => ("", "", "", false)
def tyJ10 : Nat → FieldType := fun k => match k with
  | _ => .int
theorem nmJ10 : ∀ a, a < 0 → ∀ b, b < 0 → a ≠ b → (TJ10 a).2.1 ≠ (TJ10 b).2.1 := by decide +kernel
theorem tyJ10_ok : ∀ k, k < 0 → parseFieldDescriptor (TJ10 k).2.2.1 = some (tyJ10 k) := by decide +kernel
def RJ3 : String := "jdk/internal/util/Preconditions"
def TJ3 : u_T := fun k => match k with
  | _ => ("", "", "", false)
def tyJ3 : Nat → FieldType := fun k => match k with
  | _ => .int
theorem nmJ3 : ∀ a, a < 0 → ∀ b, b < 0 → a ≠ b → (TJ3 a).2.1 ≠ (TJ3 b).2.1 := by decide +kernel
theorem tyJ3_ok : ∀ k, k < 0 → parseFieldDescriptor (TJ3 k).2.2.1 = some (tyJ3 k) := by decide +kernel
abbrev cJ3_checkIndex_8e157 : ByteArray := prog_14_method_11_code
def yJ3_checkIndex_8e157 : MethodName := ⟨RJ3, "checkIndex", "(IILjava/util/function/BiFunction;)I"⟩
def RL : String := "TortoiseShelvesLaw"
abbrev cL_law : ByteArray := code
def yL_law : MethodName := ⟨RL, "law", "([I)Z"⟩
abbrev vwCl : List vw_C := [(RX0, TX0, 9), (RX1, TX1, 4), (RX2, TX2, 3), (RX3, TX3, 7), (RX4, TX4, 8), (RX5, TX5, 17)]
/-- the words that ride along everywhere: those of the tables that stay as they are -/
noncomputable def base : List Cond := lw_tbl.filter goodWord
theorem base_in {w : Cond} (i : Nat) (h : lw_tbl[i]? = some w) (hg : goodWord w = true) : w ∈ base := List.mem_filter.mpr ⟨List.mem_of_getElem? h, hg⟩
theorem base_good {w : Cond} (h : w ∈ base) : goodWord w = true := (List.mem_filter.mp h).2
theorem goodIn_base : GoodIn base base := fun w h => ⟨h, good_of_word (base_good h)⟩
end
section
abbrev tysC (cy : Nat → ClassId) : List (ClassId × FieldType) := [(cy 0, .int), (cy 1, .long), (cy 2, .boolean), (cy 3, .object "TortoiseShelves$Sheet")]
abbrev nestF : List (String × Nat × String × String × String × String) := [("TortoiseShelves", 104, "TortoiseShelves$Island", "kinds", "[I", "TortoiseShelves"), ("TortoiseShelves", 107, "TortoiseShelves$Island", "cells", "[I", "TortoiseShelves"), ("TortoiseShelves", 110, "TortoiseShelves$Island", "books", "[I", "TortoiseShelves"), ("TortoiseShelves", 113, "TortoiseShelves$Island", "tipped", "[Z", "TortoiseShelves"), ("TortoiseShelves", 136, "TortoiseShelves$Island", "hour", "I", "TortoiseShelves"), ("TortoiseShelves", 196, "TortoiseShelves$Island", "fencedCells", "I", "TortoiseShelves"), ("TortoiseShelves", 210, "TortoiseShelves$Reader", "isle", "LTortoiseShelves$Island;", "TortoiseShelves"), ("TortoiseShelves", 220, "TortoiseShelves$Tape", "length", "I", "TortoiseShelves"), ("TortoiseShelves", 234, "TortoiseShelves$Sheet", "length", "I", "TortoiseShelves"), ("TortoiseShelves", 238, "TortoiseShelves$Sheet", "numbers", "[J", "TortoiseShelves"), ("TortoiseShelves", 249, "TortoiseShelves$Sheet", "bits", "I", "TortoiseShelves"), ("TortoiseShelves", 272, "TortoiseShelves$Island", "size", "I", "TortoiseShelves"), ("TortoiseShelves", 279, "TortoiseShelves$Reader", "readsIn", "I", "TortoiseShelves"), ("TortoiseShelves", 73, "TortoiseShelves$Island", "spots", "[I", "TortoiseShelves"), ("TortoiseShelves", 80, "TortoiseShelves$Island", "wetClocks", "I", "TortoiseShelves"), ("TortoiseShelves$Island", 101, "TortoiseShelves$Sheet", "numbers", "[J", "TortoiseShelves"), ("TortoiseShelves$Island", 96, "TortoiseShelves$Sheet", "length", "I", "TortoiseShelves"), ("TortoiseShelves$Reader", 55, "TortoiseShelves$Island", "fencedCells", "I", "TortoiseShelves"), ("TortoiseShelves$Tape", 110, "TortoiseShelves$Island", "wetClocks", "I", "TortoiseShelves"), ("TortoiseShelves$Tape", 113, "TortoiseShelves$Island", "spots", "[I", "TortoiseShelves")]
abbrev nestM : List (String × Nat × MethodName × String) := [("TortoiseShelves", 11, ⟨"TortoiseShelves$Island", "<init>", "()V"⟩, "TortoiseShelves"), ("TortoiseShelves", 24, ⟨"TortoiseShelves$Reader", "<init>", "()V"⟩, "TortoiseShelves"), ("TortoiseShelves", 31, ⟨"TortoiseShelves$Tape", "<init>", "()V"⟩, "TortoiseShelves"), ("TortoiseShelves", 42, ⟨"TortoiseShelves$Sheet", "<init>", "()V"⟩, "TortoiseShelves"), ("TortoiseShelves$Island", 41, ⟨"TortoiseShelves", "isBelow", "(II)Z"⟩, "TortoiseShelves"), ("TortoiseShelves$Reader", 11, ⟨"TortoiseShelves$Island", "<init>", "()V"⟩, "TortoiseShelves")]
/-! the abstract memory of a world, and the judgement GT: from here the machine ends as the tree t says -/
abbrev Mi : Type := Nat → Nat → Int32
abbrev Ml : Type := Nat → Nat → Int64
def sR {α : Type} (M : Nat → α) (r : Nat) (x : α) : Nat → α := fun q => if q = r then x else M q
theorem sR_same {α : Type} (M : Nat → α) (r : Nat) (x : α) : sR M r x r = x := if_pos rfl
theorem sR_ne {α : Type} (M : Nat → α) {r q : Nat} (x : α) (h : q ≠ r) : sR M r x q = M q := if_neg h
theorem sR_self {α : Type} (M : Nat → α) (r : Nat) : sR M r (M r) = M := by
  funext q
  by_cases h : q = r
  · subst h; exact sR_same _ _ _
  · exact sR_ne _ _ h
theorem sR_sR {α : Type} (M : Nat → α) (r : Nat) (x y : α) : sR (sR M r x) r y = sR M r y := by
  funext q
  by_cases h : q = r
  · subst h; rw [sR_same, sR_same]
  · rw [sR_ne _ _ h, sR_ne _ _ h, sR_ne _ _ h]
/-- a write of an int at a place of a region -/
def wM (M : Mi) (r k : Nat) (v : Int32) : Mi := sR M r (upd (M r) k v)
def wN (N : Ml) (r k : Nat) (v : Int64) : Ml := sR N r (vp_updL (N r) k v)
theorem wM_sR (M : Mi) (r : Nat) (σ : Nat → Int32) (k : Nat) (v : Int32) : wM (sR M r σ) r k v = sR M r (upd σ k v) := by
  unfold wM; rw [sR_same, sR_sR]
theorem sR_at (M : Mi) (r : Nat) (σ : Nat → Int32) (k : Nat) : sR M r σ r k = σ k := by rw [sR_same]
theorem sR_off (M : Mi) {r q : Nat} (σ : Nat → Int32) (k : Nat) (h : q ≠ r) : sR M r σ q k = M q k := by rw [sR_ne _ _ h]
/-- the constants of a world: slots of classes, array classes, addresses, what the cells hold, what else holds -/
abbrev Zt : Type := va_G × (Nat → ClassId) × (Nat → Nat → Nat) × (Nat → (Nat → Int32) → (Nat → Int64) → Nat → Option va_E) × (State → Prop)
abbrev zA (Z : Zt) : Nat → Nat → Nat := Z.2.2.1
abbrev zL (Z : Zt) : Nat → (Nat → Int32) → (Nat → Int64) → Nat → Option va_E := Z.2.2.2.1
abbrev zS (Z : Zt) : State → Prop := Z.2.2.2.2
def InA (Z : Zt) (q : Nat) : Prop := ∃ (g p : Nat) (σ : Nat → Int32) (ν : Nat → Int64) (e : va_E), zL Z g σ ν p = some e ∧ q = zA Z g p
def Rep (Z : Zt) (M : Mi) (N : Ml) (H : Heap) : Prop := ∀ (g p : Nat) (e : va_E), zL Z g (M g) (N g) p = some e → va_at Z.1 vwCl (zA Z g p, e) H
def Apart (Z : Zt) : Prop := ∀ (g p g' p' : Nat) (σ σ' : Nat → Int32) (ν ν' : Nat → Int64) (e e' : va_E), zL Z g σ ν p = some e → zL Z g' σ' ν' p' = some e' → zA Z g p = zA Z g' p' → g = g' ∧ p = p'
def Fr (Z : Zt) (H0 H : Heap) : Prop := H.size = H0.size ∧ ∀ q : Nat, ¬ InA Z q → H[q]? = H0[q]?
theorem Fr.rf {Z : Zt} {H : Heap} : Fr Z H H := ⟨rfl, fun _ _ => rfl⟩
theorem Fr.trans {Z : Zt} {H0 H1 H2 : Heap} (h : Fr Z H0 H1) (k : Fr Z H1 H2) : Fr Z H0 H2 := ⟨k.1.trans h.1, fun q hq => (k.2 q hq).trans (h.2 q hq)⟩
theorem Fr.set {Z : Zt} {H0 H H1 : Heap} {a : Nat} (h : Fr Z H0 H) (ha : InA Z a) (hz : H1.size = H.size) (oq : ∀ q : Nat, q ≠ a → H1[q]? = H[q]?) : Fr Z H0 H1 :=
  ⟨hz.trans h.1, fun q hq => (oq q (fun e => hq (e ▸ ha))).trans (h.2 q hq)⟩
theorem Rep.put {Z : Zt} {M : Mi} {N : Ml} {H H1 : Heap} {g p : Nat} {σ : Nat → Int32} {ν : Nat → Int64} {e0 e1 : va_E} (h : Rep Z M N H) (hA : Apart Z) (h0 : zL Z g (M g) (N g) p = some e0) (h1 : zL Z g σ ν p = some e1) (he : va_at Z.1 vwCl (zA Z g p, e1) H1) (oq : ∀ q : Nat, q ≠ zA Z g p → H1[q]? = H[q]?)
    (ho : ∀ (p' : Nat) (e : va_E), p' ≠ p → zL Z g σ ν p' = some e → zL Z g (M g) (N g) p' = some e) : Rep Z (sR M g σ) (sR N g ν) H1 := by
  intro g' p' e he'
  by_cases hg : g' = g
  · subst hg
    rw [sR_same, sR_same] at he'
    by_cases hp : p' = p
    · subst hp
      rw [h1] at he'
      cases he'
      exact he
    · exact (h g' p' e (ho p' e hp he')).kept (oq _ (fun q => hp (hA _ _ _ _ _ _ _ _ _ _ he' h1 q).2))
  · rw [sR_ne _ _ hg, sR_ne _ _ hg] at he'
    exact (h g' p' e he').kept (oq _ (fun q => hg (hA _ _ _ _ _ _ _ _ _ _ he' h0 q).1))
/-! tables -/
def KN (D : va_G) (cy : Nat → ClassId) (U : State) : Prop :=
  va_K D vwCl (tysC cy) U ∧ (∀ q ∈ nestF, va_Nw (.fieldLinkNest q.1 q.2.1 q.2.2.1 q.2.2.2.1 q.2.2.2.2.1 q.2.2.2.2.2) U) ∧ ∀ q ∈ nestM, va_Nw (.methodLinkNest q.1 q.2.1 q.2.2.1 q.2.2.2) U
theorem KN.warm {D : va_G} {cy : Nat → ClassId} {s U : State} (hW : s.WarmedH U.vm) (h : KN D cy s) : KN D cy U :=
  ⟨va_K.moved hW.alike h.1, fun q hq => va_Nw.warmF hW (h.2.1 q hq), fun q hq => va_Nw.warmM hW (h.2.2 q hq)⟩
theorem KN.same {D : va_G} {cy : Nat → ClassId} {u U : State} (hv : u.vm = U.vm) (h : KN D cy u) : KN D cy U :=
  ⟨va_K.moved (by rw [hv]; exact Vm.Alike.refl _) h.1, fun q hq => va_Nw.same rfl hv (h.2.1 q hq), fun q hq => va_Nw.same rfl hv (h.2.2 q hq)⟩
theorem KN.f {D : va_G} {cy : Nat → ClassId} {s : State} (h : KN D cy s) (i : Nat) {a : String} {k : Nat} {b n d o : String} (hi : nestF[i]? = some (a, k, b, n, d, o)) {args : Array Value} : (Cond.fieldLinkNest a k b n d o).before args s = true :=
  va_Nw.use rfl (h.2.1 (a, k, b, n, d, o) (List.mem_of_getElem? hi))
theorem KN.m {D : va_G} {cy : Nat → ClassId} {s : State} (h : KN D cy s) (i : Nat) {a : String} {k : Nat} {y : MethodName} {o : String} (hi : nestM[i]? = some (a, k, y, o)) : va_Nw (.methodLinkNest a k y o) s :=
  h.2.2 (a, k, y, o) (List.mem_of_getElem? hi)
/-! what the cells of the two worlds hold -/
def layI (A : Nat → Nat → Nat) (cy : Nat → ClassId) (g : Nat) (σ : Nat → Int32) (p : Nat) : Option va_E := match p with
  | 0 => some (.inr (0, [.int (σ 2), .int (σ 6), .int (σ 0), .int (σ 1), .ref (A g 1), .ref (A g 2), .ref (A g 3), .ref (A g 4), .ref (A g 5)]))
  | 1 => some (.inl (cy 0, 3, .inl (fun i => σ (3 + i))))
  | 2 => some (.inl (cy 0, 8, .inl (fun i => σ (7 + 4 * i))))
  | 3 => some (.inl (cy 0, 8, .inl (fun i => σ (8 + 4 * i))))
  | 4 => some (.inl (cy 0, 8, .inl (fun i => σ (9 + 4 * i))))
  | 5 => some (.inl (cy 2, 8, .inl (fun i => σ (10 + 4 * i))))
  | _ => none
def layS (A : Nat → Nat → Nat) (cy : Nat → ClassId) (g : Nat) (σ : Nat → Int32) (ν : Nat → Int64) (p : Nat) : Option va_E := match p with
  | 0 => some (.inr (2, [.ref (A g 1), .int (σ 0), .int (σ 1)]))
  | 1 => some (.inl (cy 1, 40, .inr (.inl ν)))
  | _ => none
def layO (A : Nat → Nat → Nat) (cy : Nat → ClassId) (g : Nat) (σ : Nat → Int32) (p : Nat) : Option va_E := match g, p with
  | 4, 0 => some (.inr (1, [.ref (A 3 0), .int (σ 0), .int (σ 1), .int (σ 2)]))
  | 5, 0 => some (.inr (3, [.ref (A 5 1), .int (σ 0), .int (σ 1), .int (σ 2), .int (σ 3), .int (σ 4), .int (σ 5)]))
  | 5, 1 => some (.inl (cy 0, 120, .inl (fun i => σ (10 + i))))
  | 6, 0 => some (.inl (cy 3, 4, .inr (.inr (.inr (.inr (fun i => some (A (20 + i) 0)))))))
  | 7, 0 => some (.inl (cy 0, 7, .inl σ))
  | 8, 0 => some (.inr (4, [.ref (A 0 0), .ref (A 1 0), .ref (A 2 0), .ref (A 4 0), .ref (A 5 0), .ref (A 6 0), .ref (A 7 0), .int (σ 0)]))
  | _, _ => none
def layX (A : Nat → Nat → Nat) (cy : Nat → ClassId) (g : Nat) (σ : Nat → Int32) (ν : Nat → Int64) (p : Nat) : Option va_E :=
  if g < 4 then layI A cy g σ p else if 20 ≤ g ∧ g < 24 then layS A cy g σ ν p else layO A cy g σ p
def layM (B : Nat → Nat → Nat) (cy : Nat → ClassId) (g : Nat) (σ : Nat → Int32) (ν : Nat → Int64) (p : Nat) : Option va_E := match g, p with
  | 0, 0 => some (.inl (cy 0, 39, .inl σ))
  | 1, 0 => some (.inl (cy 0, 39, .inl σ))
  | 2, 0 => some (.inl (cy 0, 39, .inl σ))
  | 3, 0 => some (.inl (cy 0, 39, .inl σ))
  | 4, 0 => some (.inl (cy 0, 7, .inl σ))
  | 5, 0 => some (.inl (cy 0, 120, .inl σ))
  | 6, 0 => some (.inr (5, [.ref (B 0 0), .ref (B 1 0), .ref (B 2 0), .ref (B 3 0), .ref (B 4 0), .int (σ 0), .int (σ 1), .ref (B 5 0), .int (σ 2), .int (σ 3), .int (σ 4), .int (σ 5), .int (σ 6), .ref (B 7 0), .ref (B 8 0), .ref (B 9 0), .ref (B 10 0)]))
  | 7, 0 => some (.inl (cy 0, 4, .inl σ))
  | 8, 0 => some (.inl (cy 0, 4, .inl σ))
  | 9, 0 => some (.inl (cy 1, 160, .inr (.inl ν)))
  | 10, 0 => some (.inl (cy 1, 40, .inr (.inl ν)))
  | _, _ => none
def Knd (k : Nat) (Z : Zt) : Prop := if k = 1 then zL Z = layX (zA Z) Z.2.1 else zL Z = layM (zA Z) Z.2.1
def StaOk (Z : Zt) : Prop := (∀ s U : State, s.WarmedH U.vm → Fr Z s.heap U.heap → zS Z s → zS Z U) ∧ ∀ u U : State, u.vm = U.vm → u.heap = U.heap → zS Z u → zS Z U
def Zok (k : Nat) (Z : Zt) : Prop := Apart Z ∧ StaOk Z ∧ Knd k Z
theorem Zok.X {Z : Zt} (h : Zok 1 Z) : zL Z = layX (zA Z) Z.2.1 := h.2.2
theorem Zok.M {Z : Zt} (h : Zok 2 Z) : zL Z = layM (zA Z) Z.2.1 := h.2.2
/-! the machine's things in one -/
abbrev Ec : Type := Program × Launch × Env × Room × State × MethodId × Array Value × List Frame × Method × Code
abbrev eL (E : Ec) : Launch := E.2.1
abbrev eS (E : Ec) : State := E.2.2.2.2.1
abbrev eM (E : Ec) : MethodId := E.2.2.2.2.2.1
abbrev Wc (E : Ec) (H : Heap) (locs : List Loc) (Q : State → Prop) (g : JFrame) : Prop := W E.1 E.2.1 E.2.2.1 E.2.2.2.1 E.2.2.2.2.1 E.2.2.2.2.2.1 E.2.2.2.2.2.2.1 E.2.2.2.2.2.2.2.1 E.2.2.2.2.2.2.2.2.1 E.2.2.2.2.2.2.2.2.2 H locs 0 0 Q g
abbrev rmH (h : Nat) : Room := { frames := h, cells := 0, slots := 0, locals := 30 * h }
def qo (Z : Zt) (r : Option Value × Mi × Ml) : Array Value → State → Outcome → State → Prop := fun _ st o t => o = .returned r.1 ∧ Rep Z r.2.1 r.2.2 t.heap ∧ Fr Z st.heap t.heap
def pcZ (k : Nat) (Z : Zt) (av : List Value) (M : Mi) (N : Ml) : Array Value → State → Prop := fun v U => v = av.toArray ∧ Rep Z M N U.heap ∧ KN Z.1 Z.2.1 U ∧ zS Z U ∧ Zok k Z
def Ct (k : Nat) (Z : Zt) (l : Launch) (y : MethodName) (cc : ByteArray) (maxL : Nat) (ret : Option FieldType) (h : Nat) (av : List Value) (M : Mi) (N : Ml) (r : Option Value × Mi × Ml) : Prop :=
  Met l y (Cond.code y cc maxL ret :: base) (rmH h) (pcZ k Z av M N) (qo Z r) 0 0 (InA Z)
def Ok (k : Nat) (Z : Zt) (E : Ec) (cc : ByteArray) (nL : Nat) (own : String) (ret : Option FieldType) (h : Nat) : Prop :=
  E.1.tables.exec = Jvm.exec ∧ E.2.2.2.2.2.2.2.2.2.code = cc ∧ E.2.2.2.2.2.2.2.2.2.maxLocals = nL ∧ (eS E).vm.findClass own = some (eM E).cls ∧ (∀ w ∈ base, w.before E.2.2.2.2.2.2.1 (eS E) = true) ∧ E.2.2.2.2.2.2.2.2.1.sig.returnType = ret ∧ E.2.2.2.2.2.2.2.2.1.locks = false ∧ E.2.2.2.1 = rmH h ∧ KN Z.1 Z.2.1 (eS E) ∧ zS Z (eS E) ∧ Zok k Z
def GT (Z : Zt) (E : Ec) (nL : Nat) {β : Type} (fin : β → Option Value × Mi × Ml) (pc : Nat) (lv : List (Nat × Value)) (st : List Value) (M : Mi) (N : Ml) (t : Option β) : Prop :=
  ∀ b : β, t = some b → ∀ (H : Heap) (locs : List Loc) (ls : Array Slot), Rep Z M N H → Fr Z (eS E).heap H → (∀ q ∈ locs, InA Z q.base) → lv_has ls nL lv →
    Wc E H locs (MQ E.2.2.2.2.2.2.2.1 (qo Z (fin b)) E.2.2.2.2.2.2.1 (eS E) 0 0 (InA Z)) (F0 (eM E) pc ls st)
section OKS
variable {k : Nat} {Z : Zt} {E : Ec} {cc : ByteArray} {nL : Nat} {own : String} {ret : Option FieldType} {h : Nat}
theorem Ok.x (C : Ok k Z E cc nL own ret h) : E.1.tables.exec = Jvm.exec := C.1
theorem Ok.b (C : Ok k Z E cc nL own ret h) : E.2.2.2.2.2.2.2.2.2.code = cc := C.2.1
theorem Ok.ml (C : Ok k Z E cc nL own ret h) : E.2.2.2.2.2.2.2.2.2.maxLocals = nL := C.2.2.1
theorem Ok.ow (C : Ok k Z E cc nL own ret h) : (eS E).vm.findClass own = some (eM E).cls := C.2.2.2.1
theorem Ok.ts (C : Ok k Z E cc nL own ret h) : ∀ w ∈ base, w.before E.2.2.2.2.2.2.1 (eS E) = true := C.2.2.2.2.1
theorem Ok.rt (C : Ok k Z E cc nL own ret h) : E.2.2.2.2.2.2.2.2.1.sig.returnType = ret := C.2.2.2.2.2.1
theorem Ok.lk (C : Ok k Z E cc nL own ret h) : E.2.2.2.2.2.2.2.2.1.locks = false := C.2.2.2.2.2.2.1
theorem Ok.rm (C : Ok k Z E cc nL own ret h) : E.2.2.2.1 = rmH h := C.2.2.2.2.2.2.2.1
theorem Ok.kn (C : Ok k Z E cc nL own ret h) : KN Z.1 Z.2.1 (eS E) := C.2.2.2.2.2.2.2.2.1
theorem Ok.sta (C : Ok k Z E cc nL own ret h) : zS Z (eS E) := C.2.2.2.2.2.2.2.2.2.1
theorem Ok.z (C : Ok k Z E cc nL own ret h) : Zok k Z := C.2.2.2.2.2.2.2.2.2.2
end OKS
theorem metG {k : Nat} {Z : Zt} {l : Launch} {y : MethodName} {cc : ByteArray} {maxL : Nat} {ret : Option FieldType} {h : Nat} {av : List Value} {M : Mi} {N : Ml} {β : Type} {fin : β → Option Value × Mi × Ml} {t : Option β} (hy : plainName y.cls = true) (hlen : (lg_sl av).length ≤ maxL)
    (body : ∀ E : Ec, eL E = l → Ok k Z E cc maxL y.cls ret h → GT Z E maxL fin 0 (lv_args 0 av) [] M N t) {b : β} (ht : t = some b) : Ct k Z l y cc maxL ret h av M N (fin b) := by
  refine Met.ofW (cc := cc) (maxL := maxL) (ret := ret) hy rfl ?_
  intro p e s m args below meth c s₁ B hml hv
  obtain ⟨rfl, hR, hK, hS, hZ⟩ := hv
  rw [lg_entry_eq]
  have hts := atoms_spec (ws := Cond.code y cc maxL ret :: base) B.pre
  exact body (p, l, e, rmH h, s, m, av.toArray, below, meth, c) rfl ⟨B.exec, B.bytes, hml, findClass_of_methodNamed B.named, fun w hw => hts w (List.mem_cons_of_mem _ hw), B.returns, B.notSynchronized, rfl, hK, hS, hZ⟩ b ht s.heap [] _ hR Fr.rf (fun _ h => by cases h) (lv_entry av hlen)
section ROWS
variable {wk : Nat} {Z : Zt} {E : Ec} {cc : ByteArray} {nL : Nat} {own : String} {ret : Option FieldType} {h : Nat} {β : Type} {fin : β → Option Value × Mi × Ml} {pc : Nat} {lv lv' : List (Nat × Value)} {st rest : List Value} {M M' : Mi} {N N' : Ml} {t t1 t2 : Option β}
theorem r_bind {α : Type} {o : Option α} {kk : α → Option β} (k : ∀ a, o = some a → GT Z E nL fin pc lv st M N (kk a)) : GT Z E nL fin pc lv st M N (o.bind kk) := by
  intro b hb
  cases o with
  | none => cases hb
  | some a => exact k a rfl b hb
theorem r_guard {P : Prop} [Decidable P] (k : P → GT Z E nL fin pc lv st M N t) : GT Z E nL fin pc lv st M N (if P then t else none) := by
  intro b hb
  by_cases hp : P
  · rw [if_pos hp] at hb; exact k hp b hb
  · rw [if_neg hp] at hb; cases hb
theorem r_ite {P : Prop} [Decidable P] (k1 : P → GT Z E nL fin pc lv st M N t1) (k2 : ¬ P → GT Z E nL fin pc lv st M N t2) : GT Z E nL fin pc lv st M N (if P then t1 else t2) := by
  by_cases hp : P
  · rw [if_pos hp]; exact k1 hp
  · rw [if_neg hp]; exact k2 hp
theorem r_none : GT Z E nL fin pc lv st M N none := fun _ h => by cases h
theorem r_st {P : Prop} [Decidable P] {a b : β} (k : GT Z E nL fin pc lv st M N (if P then some a else some b)) : GT Z E nL fin pc lv st M N (some (if P then a else b)) := by
  by_cases hp : P
  · rw [if_pos hp] at k ⊢; exact k
  · rw [if_neg hp] at k ⊢; exact k
theorem r_lv (ks : List Nat) (hl : lv_pick lv ks = lv') (k : GT Z E nL fin pc lv' st M N t) : GT Z E nL fin pc lv st M N t :=
  fun b hb H locs ls h1 h2 h3 h4 => k b hb H locs ls h1 h2 h3 (lv_sub h4 ks hl)
theorem r_iret {b : β} {v : Int32} (C : Ok wk Z E cc nL own (some .int) h) (hd : decode cc pc = .ok (.ireturn, 1)) (hf : fin b = (some (.int v), M, N)) : GT Z E nL fin pc lv [.int v] M N (some b) := by
  intro b' hb' H locs ls h1 h2 h3 h4
  cases hb'
  exact W.iret C.x C.b C.rt (fun t ht _ => ⟨by rw [hf], by rw [hf, ht]; exact h1, by rw [ht]; exact h2⟩) h3 hd C.lk
theorem r_lret {b : β} {v : Int64} (C : Ok wk Z E cc nL own (some .long) h) (hd : decode cc pc = .ok (.lreturn, 1)) (hf : fin b = (some (.long v), M, N)) : GT Z E nL fin pc lv [.long v] M N (some b) := by
  intro b' hb' H locs ls h1 h2 h3 h4
  cases hb'
  exact W.lret C.x C.b C.rt (fun t ht _ => ⟨by rw [hf], by rw [hf, ht]; exact h1, by rw [ht]; exact h2⟩) h3 hd C.lk
theorem r_vret {b : β} (C : Ok wk Z E cc nL own none h) (hd : decode cc pc = .ok (.return_, 1)) (hf : fin b = (none, M, N)) : GT Z E nL fin pc lv [] M N (some b) := by
  intro b' hb' H locs ls h1 h2 h3 h4
  cases hb'
  exact W.vret C.x C.b C.rt (fun t ht _ => ⟨by rw [hf], by rw [hf, ht]; exact h1, by rw [ht]; exact h2⟩) h3 hd C.lk
theorem r_aret {b : β} {a : Nat} {cn : String} (C : Ok wk Z E cc nL own (some (.object cn)) h) (hd : decode cc pc = .ok (.areturn, 1)) (hf : fin b = (some (.ref a), M, N)) : GT Z E nL fin pc lv [.ref a] M N (some b) := by
  intro b' hb' H locs ls h1 h2 h3 h4
  cases hb'
  exact W.aret C.x C.b C.rt (Or.inl ⟨_, rfl⟩) (Or.inr ⟨_, rfl⟩) (fun t ht _ => ⟨by rw [hf], by rw [hf, ht]; exact h1, by rw [ht]; exact h2⟩) h3 hd C.lk
/-- what a boolean method answers of an int -/
def zn (v : Int32) : Int32 := v &&& 1
theorem zn_zn (v : Int32) : zn v &&& 1 = zn v := by unfold zn; rw [Int32.and_assoc]; rfl
end ROWS

section ROWS2
variable {wk : Nat} {Z : Zt} {E : Ec} {cc : ByteArray} {nL : Nat} {own : String} {ret : Option FieldType} {h : Nat} {β : Type} {fin : β → Option Value × Mi × Ml} {pc : Nat} {lv lv' : List (Nat × Value)} {st rest : List Value} {M M' : Mi} {N N' : Ml} {t t1 t2 : Option β}
theorem r_iconst {n : Int} {v : Int32} (C : Ok wk Z E cc nL own ret h) (hd : decode cc pc = .ok (.iconst n, 1)) (hv : Int32.ofInt n = v) (k : GT Z E nL fin (pc + 1) lv (.int v :: rest) M N t) : GT Z E nL fin pc lv (rest) M N t :=
  fun b hb H locs ls h1 h2 h3 h4 => lv_iconst C.x C.b hd hv (k b hb H locs ls h1 h2 h3 h4)
theorem r_bipush {n : Int} {v : Int32} (C : Ok wk Z E cc nL own ret h) (hd : decode cc pc = .ok (.bipush n, 2)) (hv : (Int8.ofInt n).toInt32 = v) (k : GT Z E nL fin (pc + 2) lv (.int v :: rest) M N t) : GT Z E nL fin pc lv (rest) M N t :=
  fun b hb H locs ls h1 h2 h3 h4 => lv_bipush C.x C.b hd hv (k b hb H locs ls h1 h2 h3 h4)
theorem r_sipush {n : Int} {v : Int32} (C : Ok wk Z E cc nL own ret h) (hd : decode cc pc = .ok (.sipush n, 3)) (hv : (Int16.ofInt n).toInt32 = v) (k : GT Z E nL fin (pc + 3) lv (.int v :: rest) M N t) : GT Z E nL fin pc lv (rest) M N t :=
  fun b hb H locs ls h1 h2 h3 h4 => lv_sipush C.x C.b hd hv (k b hb H locs ls h1 h2 h3 h4)
theorem r_lconst {n : Fin 2} {v : Int64} (C : Ok wk Z E cc nL own ret h) (hd : decode cc pc = .ok (.lconst n, 1)) (hv : Int64.ofNat (n : Nat) = v) (k : GT Z E nL fin (pc + 1) lv (.long v :: rest) M N t) : GT Z E nL fin pc lv (rest) M N t :=
  fun b hb H locs ls h1 h2 h3 h4 => lv_lconst C.x C.b hd hv (k b hb H locs ls h1 h2 h3 h4)
theorem r_iload_n {q : Fin 4} {x : Int32} (C : Ok wk Z E cc nL own ret h) (hd : decode cc pc = .ok (.iload_n q, 1)) (i j : Nat) (hi : (q : Nat) = i) (hl : lv[j]? = some (i, .int x)) (k : GT Z E nL fin (pc + 1) lv (.int x :: rest) M N t) : GT Z E nL fin pc lv (rest) M N t :=
  fun b hb H locs ls h1 h2 h3 h4 => lv_iload_n C.x C.b hd hi (lv_at h4 j hl) (k b hb H locs ls h1 h2 h3 h4)
theorem r_iload {i : Nat} {x : Int32} (C : Ok wk Z E cc nL own ret h) (hd : decode cc pc = .ok (.iload i, 2)) (j : Nat) (hl : lv[j]? = some (i, .int x)) (k : GT Z E nL fin (pc + 2) lv (.int x :: rest) M N t) : GT Z E nL fin pc lv (rest) M N t :=
  fun b hb H locs ls h1 h2 h3 h4 => lv_iload C.x C.b hd (lv_at h4 j hl) (k b hb H locs ls h1 h2 h3 h4)
theorem r_lload_n {q : Fin 4} {x : Int64} (C : Ok wk Z E cc nL own ret h) (hd : decode cc pc = .ok (.lload_n q, 1)) (i j : Nat) (hi : (q : Nat) = i) (hl : lv[j]? = some (i, .long x)) (k : GT Z E nL fin (pc + 1) lv (.long x :: rest) M N t) : GT Z E nL fin pc lv (rest) M N t :=
  fun b hb H locs ls h1 h2 h3 h4 => lv_lload_n C.x C.b hd hi (lv_at h4 j hl) (k b hb H locs ls h1 h2 h3 h4)
theorem r_lload {i : Nat} {x : Int64} (C : Ok wk Z E cc nL own ret h) (hd : decode cc pc = .ok (.lload i, 2)) (j : Nat) (hl : lv[j]? = some (i, .long x)) (k : GT Z E nL fin (pc + 2) lv (.long x :: rest) M N t) : GT Z E nL fin pc lv (rest) M N t :=
  fun b hb H locs ls h1 h2 h3 h4 => lv_lload C.x C.b hd (lv_at h4 j hl) (k b hb H locs ls h1 h2 h3 h4)
theorem r_aload_n {q : Fin 4} {x : Nat} (C : Ok wk Z E cc nL own ret h) (hd : decode cc pc = .ok (.aload_n q, 1)) (i j : Nat) (hi : (q : Nat) = i) (hl : lv[j]? = some (i, .ref x)) (k : GT Z E nL fin (pc + 1) lv (.ref x :: rest) M N t) : GT Z E nL fin pc lv (rest) M N t :=
  fun b hb H locs ls h1 h2 h3 h4 => lv_aload_n C.x C.b hd hi (lv_at h4 j hl) (k b hb H locs ls h1 h2 h3 h4)
theorem r_aload {i : Nat} {x : Nat} (C : Ok wk Z E cc nL own ret h) (hd : decode cc pc = .ok (.aload i, 2)) (j : Nat) (hl : lv[j]? = some (i, .ref x)) (k : GT Z E nL fin (pc + 2) lv (.ref x :: rest) M N t) : GT Z E nL fin pc lv (rest) M N t :=
  fun b hb H locs ls h1 h2 h3 h4 => lv_aload C.x C.b hd (lv_at h4 j hl) (k b hb H locs ls h1 h2 h3 h4)
theorem r_istore_n {q : Fin 4} {x : Int32} (C : Ok wk Z E cc nL own ret h) (hd : decode cc pc = .ok (.istore_n q, 1)) (i : Nat) (hi : (q : Nat) = i) (hn : i < nL) (hl : (i, Value.int x) :: lv.filter (fun q => !(q.1 == i) && !(q.1 + 1 == i && q.2.category == 2)) = lv') (k : GT Z E nL fin (pc + 1) lv' (rest) M N t) : GT Z E nL fin pc lv (.int x :: rest) M N t :=
  fun b hb H locs ls h1 h2 h3 h4 => lv_istore_n C.x C.b hd hi h4 hn hl (fun ls2 h5 => k b hb H locs ls2 h1 h2 h3 h5)
theorem r_istore {i : Nat} {x : Int32} (C : Ok wk Z E cc nL own ret h) (hd : decode cc pc = .ok (.istore i, 2)) (hn : i < nL) (hl : (i, Value.int x) :: lv.filter (fun q => !(q.1 == i) && !(q.1 + 1 == i && q.2.category == 2)) = lv') (k : GT Z E nL fin (pc + 2) lv' (rest) M N t) : GT Z E nL fin pc lv (.int x :: rest) M N t :=
  fun b hb H locs ls h1 h2 h3 h4 => lv_istore C.x C.b hd h4 hn hl (fun ls2 h5 => k b hb H locs ls2 h1 h2 h3 h5)
theorem r_lstore_n {q : Fin 4} {x : Int64} (C : Ok wk Z E cc nL own ret h) (hd : decode cc pc = .ok (.lstore_n q, 1)) (i : Nat) (hi : (q : Nat) = i) (hn : i + 1 < nL) (hl : (i, Value.long x) :: lv.filter (fun q => !(q.1 == i) && (!(q.1 == i + 1) && !(q.1 + 1 == i && q.2.category == 2))) = lv') (k : GT Z E nL fin (pc + 1) lv' (rest) M N t) : GT Z E nL fin pc lv (.long x :: rest) M N t :=
  fun b hb H locs ls h1 h2 h3 h4 => lv_lstore_n C.x C.b hd hi h4 hn hl (fun ls2 h5 => k b hb H locs ls2 h1 h2 h3 h5)
theorem r_lstore {i : Nat} {x : Int64} (C : Ok wk Z E cc nL own ret h) (hd : decode cc pc = .ok (.lstore i, 2)) (hn : i + 1 < nL) (hl : (i, Value.long x) :: lv.filter (fun q => !(q.1 == i) && (!(q.1 == i + 1) && !(q.1 + 1 == i && q.2.category == 2))) = lv') (k : GT Z E nL fin (pc + 2) lv' (rest) M N t) : GT Z E nL fin pc lv (.long x :: rest) M N t :=
  fun b hb H locs ls h1 h2 h3 h4 => lv_lstore C.x C.b hd h4 hn hl (fun ls2 h5 => k b hb H locs ls2 h1 h2 h3 h5)
theorem r_astore_n {q : Fin 4} {x : Nat} (C : Ok wk Z E cc nL own ret h) (hd : decode cc pc = .ok (.astore_n q, 1)) (i : Nat) (hi : (q : Nat) = i) (hn : i < nL) (hl : (i, Value.ref x) :: lv.filter (fun q => !(q.1 == i) && !(q.1 + 1 == i && q.2.category == 2)) = lv') (k : GT Z E nL fin (pc + 1) lv' (rest) M N t) : GT Z E nL fin pc lv (.ref x :: rest) M N t :=
  fun b hb H locs ls h1 h2 h3 h4 => lv_astore_n C.x C.b hd hi h4 hn hl (fun ls2 h5 => k b hb H locs ls2 h1 h2 h3 h5)
theorem r_astore {i : Nat} {x : Nat} (C : Ok wk Z E cc nL own ret h) (hd : decode cc pc = .ok (.astore i, 2)) (hn : i < nL) (hl : (i, Value.ref x) :: lv.filter (fun q => !(q.1 == i) && !(q.1 + 1 == i && q.2.category == 2)) = lv') (k : GT Z E nL fin (pc + 2) lv' (rest) M N t) : GT Z E nL fin pc lv (.ref x :: rest) M N t :=
  fun b hb H locs ls h1 h2 h3 h4 => lv_astore C.x C.b hd h4 hn hl (fun ls2 h5 => k b hb H locs ls2 h1 h2 h3 h5)
theorem r_iinc {i : Nat} {n : Int} {x v : Int32} (C : Ok wk Z E cc nL own ret h) (hd : decode cc pc = .ok (.iinc i n, 3)) (j : Nat) (hj : lv[j]? = some (i, .int x)) (hv : x + Int32.ofInt n = v) (hn : i < nL) (hl : (i, Value.int v) :: lv.filter (fun q => !(q.1 == i) && !(q.1 + 1 == i && q.2.category == 2)) = lv') (k : GT Z E nL fin (pc + 3) lv' (rest) M N t) : GT Z E nL fin pc lv (rest) M N t :=
  fun b hb H locs ls h1 h2 h3 h4 => lv_iinc C.x C.b hd h4 hj hv hn hl (fun ls2 h5 => k b hb H locs ls2 h1 h2 h3 h5)
theorem r_iadd {x y : Int32} (C : Ok wk Z E cc nL own ret h) (hd : decode cc pc = .ok (.iadd, 1))  (k : GT Z E nL fin (pc + 1) lv (.int (x + y) :: rest) M N t) : GT Z E nL fin pc lv (.int y :: .int x :: rest) M N t :=
  fun b hb H locs ls h1 h2 h3 h4 => lv_iadd C.x C.b hd (k b hb H locs ls h1 h2 h3 h4)
theorem r_isub {x y : Int32} (C : Ok wk Z E cc nL own ret h) (hd : decode cc pc = .ok (.isub, 1))  (k : GT Z E nL fin (pc + 1) lv (.int (x - y) :: rest) M N t) : GT Z E nL fin pc lv (.int y :: .int x :: rest) M N t :=
  fun b hb H locs ls h1 h2 h3 h4 => lv_isub C.x C.b hd (k b hb H locs ls h1 h2 h3 h4)
theorem r_imul {x y : Int32} (C : Ok wk Z E cc nL own ret h) (hd : decode cc pc = .ok (.imul, 1))  (k : GT Z E nL fin (pc + 1) lv (.int (x * y) :: rest) M N t) : GT Z E nL fin pc lv (.int y :: .int x :: rest) M N t :=
  fun b hb H locs ls h1 h2 h3 h4 => lv_imul C.x C.b hd (k b hb H locs ls h1 h2 h3 h4)
theorem r_iand {x y : Int32} (C : Ok wk Z E cc nL own ret h) (hd : decode cc pc = .ok (.iand, 1))  (k : GT Z E nL fin (pc + 1) lv (.int (x &&& y) :: rest) M N t) : GT Z E nL fin pc lv (.int y :: .int x :: rest) M N t :=
  fun b hb H locs ls h1 h2 h3 h4 => lv_iand C.x C.b hd (k b hb H locs ls h1 h2 h3 h4)
theorem r_ior {x y : Int32} (C : Ok wk Z E cc nL own ret h) (hd : decode cc pc = .ok (.ior, 1))  (k : GT Z E nL fin (pc + 1) lv (.int (x ||| y) :: rest) M N t) : GT Z E nL fin pc lv (.int y :: .int x :: rest) M N t :=
  fun b hb H locs ls h1 h2 h3 h4 => lv_ior C.x C.b hd (k b hb H locs ls h1 h2 h3 h4)
theorem r_ixor {x y : Int32} (C : Ok wk Z E cc nL own ret h) (hd : decode cc pc = .ok (.ixor, 1))  (k : GT Z E nL fin (pc + 1) lv (.int (x ^^^ y) :: rest) M N t) : GT Z E nL fin pc lv (.int y :: .int x :: rest) M N t :=
  fun b hb H locs ls h1 h2 h3 h4 => lv_ixor C.x C.b hd (k b hb H locs ls h1 h2 h3 h4)
theorem r_ishl {x y : Int32} (C : Ok wk Z E cc nL own ret h) (hd : decode cc pc = .ok (.ishl, 1))  (k : GT Z E nL fin (pc + 1) lv (.int (x <<< (y &&& 31)) :: rest) M N t) : GT Z E nL fin pc lv (.int y :: .int x :: rest) M N t :=
  fun b hb H locs ls h1 h2 h3 h4 => lv_ishl C.x C.b hd (k b hb H locs ls h1 h2 h3 h4)
theorem r_ishr {x y : Int32} (C : Ok wk Z E cc nL own ret h) (hd : decode cc pc = .ok (.ishr, 1))  (k : GT Z E nL fin (pc + 1) lv (.int (x >>> (y &&& 31)) :: rest) M N t) : GT Z E nL fin pc lv (.int y :: .int x :: rest) M N t :=
  fun b hb H locs ls h1 h2 h3 h4 => lv_ishr C.x C.b hd (k b hb H locs ls h1 h2 h3 h4)
theorem r_idiv {x y : Int32} (C : Ok wk Z E cc nL own ret h) (hd : decode cc pc = .ok (.idiv, 1)) (hne : ¬ y = 0) (k : GT Z E nL fin (pc + 1) lv (.int (x / y) :: rest) M N t) : GT Z E nL fin pc lv (.int y :: .int x :: rest) M N t :=
  fun b hb H locs ls h1 h2 h3 h4 => lv_idiv C.x C.b hd hne (k b hb H locs ls h1 h2 h3 h4)
theorem r_irem {x y : Int32} (C : Ok wk Z E cc nL own ret h) (hd : decode cc pc = .ok (.irem, 1)) (hne : ¬ y = 0) (k : GT Z E nL fin (pc + 1) lv (.int (x - x / y * y) :: rest) M N t) : GT Z E nL fin pc lv (.int y :: .int x :: rest) M N t :=
  fun b hb H locs ls h1 h2 h3 h4 => lv_irem C.x C.b hd hne (k b hb H locs ls h1 h2 h3 h4)
theorem r_iushr {x y v : Int32} (C : Ok wk Z E cc nL own ret h) (hd : decode cc pc = .ok (.iushr, 1)) (hv : (x.toUInt32 >>> (y.toUInt32 &&& Int32.toUInt32 31)).toInt32 = v) (k : GT Z E nL fin (pc + 1) lv (.int v :: rest) M N t) : GT Z E nL fin pc lv (.int y :: .int x :: rest) M N t :=
  fun b hb H locs ls h1 h2 h3 h4 => lv_iushr C.x C.b hd hv (k b hb H locs ls h1 h2 h3 h4)
theorem r_ineg {x : Int32} (C : Ok wk Z E cc nL own ret h) (hd : decode cc pc = .ok (.ineg, 1))  (k : GT Z E nL fin (pc + 1) lv (.int (-x) :: rest) M N t) : GT Z E nL fin pc lv (.int x :: rest) M N t :=
  fun b hb H locs ls h1 h2 h3 h4 => lv_ineg C.x C.b hd (k b hb H locs ls h1 h2 h3 h4)
theorem r_ladd {x y : Int64} (C : Ok wk Z E cc nL own ret h) (hd : decode cc pc = .ok (.ladd, 1))  (k : GT Z E nL fin (pc + 1) lv (.long (x + y) :: rest) M N t) : GT Z E nL fin pc lv (.long y :: .long x :: rest) M N t :=
  fun b hb H locs ls h1 h2 h3 h4 => lv_ladd C.x C.b hd (k b hb H locs ls h1 h2 h3 h4)
theorem r_lmul {x y : Int64} (C : Ok wk Z E cc nL own ret h) (hd : decode cc pc = .ok (.lmul, 1))  (k : GT Z E nL fin (pc + 1) lv (.long (x * y) :: rest) M N t) : GT Z E nL fin pc lv (.long y :: .long x :: rest) M N t :=
  fun b hb H locs ls h1 h2 h3 h4 => lv_lmul C.x C.b hd (k b hb H locs ls h1 h2 h3 h4)
theorem r_i2l {x : Int32} (C : Ok wk Z E cc nL own ret h) (hd : decode cc pc = .ok (.i2l, 1))  (k : GT Z E nL fin (pc + 1) lv (.long x.toInt64 :: rest) M N t) : GT Z E nL fin pc lv (.int x :: rest) M N t :=
  fun b hb H locs ls h1 h2 h3 h4 => lv_i2l C.x C.b hd rfl (k b hb H locs ls h1 h2 h3 h4)
theorem r_l2i {x : Int64} (C : Ok wk Z E cc nL own ret h) (hd : decode cc pc = .ok (.l2i, 1))  (k : GT Z E nL fin (pc + 1) lv (.int x.toInt32 :: rest) M N t) : GT Z E nL fin pc lv (.long x :: rest) M N t :=
  fun b hb H locs ls h1 h2 h3 h4 => lv_l2i C.x C.b hd rfl (k b hb H locs ls h1 h2 h3 h4)
theorem r_i2b {x : Int32} (C : Ok wk Z E cc nL own ret h) (hd : decode cc pc = .ok (.i2b, 1))  (k : GT Z E nL fin (pc + 1) lv (.int x.toInt8.toInt32 :: rest) M N t) : GT Z E nL fin pc lv (.int x :: rest) M N t :=
  fun b hb H locs ls h1 h2 h3 h4 => lv_i2b C.x C.b hd rfl (k b hb H locs ls h1 h2 h3 h4)
theorem r_i2s {x : Int32} (C : Ok wk Z E cc nL own ret h) (hd : decode cc pc = .ok (.i2s, 1))  (k : GT Z E nL fin (pc + 1) lv (.int x.toInt16.toInt32 :: rest) M N t) : GT Z E nL fin pc lv (.int x :: rest) M N t :=
  fun b hb H locs ls h1 h2 h3 h4 => lv_i2s C.x C.b hd rfl (k b hb H locs ls h1 h2 h3 h4)
theorem r_dup {v : Value} (C : Ok wk Z E cc nL own ret h) (hd : decode cc pc = .ok (.dup, 1)) (hc : v.category = 1) (k : GT Z E nL fin (pc + 1) lv (v :: v :: rest) M N t) : GT Z E nL fin pc lv (v :: rest) M N t :=
  fun b hb H locs ls h1 h2 h3 h4 => lv_dup C.x C.b hd hc (k b hb H locs ls h1 h2 h3 h4)
theorem r_pop {v : Value} (C : Ok wk Z E cc nL own ret h) (hd : decode cc pc = .ok (.pop, 1)) (hc : v.category = 1) (k : GT Z E nL fin (pc + 1) lv (rest) M N t) : GT Z E nL fin pc lv (v :: rest) M N t :=
  fun b hb H locs ls h1 h2 h3 h4 => lv_pop C.x C.b hd hc (k b hb H locs ls h1 h2 h3 h4)
theorem r_dup2 {v w : Value} (C : Ok wk Z E cc nL own ret h) (hd : decode cc pc = .ok (.dup2, 1)) (hc : v.category = 1) (hc2 : w.category = 1) (k : GT Z E nL fin (pc + 1) lv (v :: w :: v :: w :: rest) M N t) : GT Z E nL fin pc lv (v :: w :: rest) M N t :=
  fun b hb H locs ls h1 h2 h3 h4 => lv_dup2_11 C.x C.b hd hc hc2 (k b hb H locs ls h1 h2 h3 h4)
theorem r_ldc {i : Nat} {v : Int32} (C : Ok wk Z E cc nL own ret h) (hd : decode cc pc = .ok (.ldc i, 2)) (hw : Cond.constant own i v ∈ base) (k : GT Z E nL fin (pc + 2) lv (.int v :: rest) M N t) : GT Z E nL fin pc lv (rest) M N t :=
  fun b hb H locs ls h1 h2 h3 h4 => lv_ldc C.x C.b C.ow (C.ts _ hw) hd (k b hb H locs ls h1 h2 h3 h4)
theorem r_ldcw {i : Nat} {v : Int32} (C : Ok wk Z E cc nL own ret h) (hd : decode cc pc = .ok (.ldc_w i, 3)) (hw : Cond.constant own i v ∈ base) (k : GT Z E nL fin (pc + 3) lv (.int v :: rest) M N t) : GT Z E nL fin pc lv (rest) M N t :=
  fun b hb H locs ls h1 h2 h3 h4 => lv_ldcw C.x C.b C.ow (C.ts _ hw) hd (k b hb H locs ls h1 h2 h3 h4)
theorem r_ldc2 {i : Nat} {v : Int64} (C : Ok wk Z E cc nL own ret h) (hd : decode cc pc = .ok (.ldc2_w i, 3)) (hw : Cond.constantLong own i v ∈ base) (k : GT Z E nL fin (pc + 3) lv (.long v :: rest) M N t) : GT Z E nL fin pc lv (rest) M N t :=
  fun b hb H locs ls h1 h2 h3 h4 => lv_ldc2 C.x C.b C.ow (C.ts _ hw) hd (k b hb H locs ls h1 h2 h3 h4)
theorem r_goto {off : Int} {tgt : Nat} (C : Ok wk Z E cc nL own ret h) (hd : decode cc pc = .ok (.goto off, 3)) (ht : (pc : Int) + off = (tgt : Int)) (k : GT Z E nL fin tgt lv (st) M N t) : GT Z E nL fin pc lv (st) M N t :=
  fun b hb H locs ls h1 h2 h3 h4 => lv_goto C.x C.b hd ht (k b hb H locs ls h1 h2 h3 h4)
theorem r_if_eq {x : Int32} {off : Int} {tgt : Nat} (C : Ok wk Z E cc nL own ret h) (hd : decode cc pc = .ok (.ifCond .eq off, 3)) (ht : (pc : Int) + off = (tgt : Int)) (kt : x = 0 → GT Z E nL fin tgt lv (rest) M N t1) (kf : ¬ x = 0 → GT Z E nL fin (pc + 3) lv (rest) M N t2) : GT Z E nL fin pc lv (.int x :: rest) M N (if x = 0 then t1 else t2) := by
  intro b hb H locs ls h1 h2 h3 h4
  by_cases hc : x = 0
  · rw [if_pos hc] at hb; exact lv_if_eq C.x C.b hd ht (fun _ => kt hc b hb H locs ls h1 h2 h3 h4) (fun z => absurd hc z)
  · rw [if_neg hc] at hb; exact lv_if_eq C.x C.b hd ht (fun z => absurd z hc) (fun _ => kf hc b hb H locs ls h1 h2 h3 h4)
theorem r_ic_eq {x y : Int32} {off : Int} {tgt : Nat} (C : Ok wk Z E cc nL own ret h) (hd : decode cc pc = .ok (.if_icmp .eq off, 3)) (ht : (pc : Int) + off = (tgt : Int)) (kt : x = y → GT Z E nL fin tgt lv (rest) M N t1) (kf : ¬ x = y → GT Z E nL fin (pc + 3) lv (rest) M N t2) : GT Z E nL fin pc lv (.int y :: .int x :: rest) M N (if x = y then t1 else t2) := by
  intro b hb H locs ls h1 h2 h3 h4
  by_cases hc : x = y
  · rw [if_pos hc] at hb; exact lv_icmp_eq C.x C.b hd ht (fun _ => kt hc b hb H locs ls h1 h2 h3 h4) (fun z => absurd hc z)
  · rw [if_neg hc] at hb; exact lv_icmp_eq C.x C.b hd ht (fun z => absurd z hc) (fun _ => kf hc b hb H locs ls h1 h2 h3 h4)
theorem r_if_ne {x : Int32} {off : Int} {tgt : Nat} (C : Ok wk Z E cc nL own ret h) (hd : decode cc pc = .ok (.ifCond .ne off, 3)) (ht : (pc : Int) + off = (tgt : Int)) (kt : ¬ x = 0 → GT Z E nL fin tgt lv (rest) M N t2) (kf : x = 0 → GT Z E nL fin (pc + 3) lv (rest) M N t1) : GT Z E nL fin pc lv (.int x :: rest) M N (if x = 0 then t1 else t2) := by
  intro b hb H locs ls h1 h2 h3 h4
  by_cases hc : x = 0
  · rw [if_pos hc] at hb; exact lv_if_ne C.x C.b hd ht (fun z => absurd hc z) (fun _ => kf hc b hb H locs ls h1 h2 h3 h4)
  · rw [if_neg hc] at hb; exact lv_if_ne C.x C.b hd ht (fun _ => kt hc b hb H locs ls h1 h2 h3 h4) (fun z => absurd z hc)
theorem r_ic_ne {x y : Int32} {off : Int} {tgt : Nat} (C : Ok wk Z E cc nL own ret h) (hd : decode cc pc = .ok (.if_icmp .ne off, 3)) (ht : (pc : Int) + off = (tgt : Int)) (kt : ¬ x = y → GT Z E nL fin tgt lv (rest) M N t2) (kf : x = y → GT Z E nL fin (pc + 3) lv (rest) M N t1) : GT Z E nL fin pc lv (.int y :: .int x :: rest) M N (if x = y then t1 else t2) := by
  intro b hb H locs ls h1 h2 h3 h4
  by_cases hc : x = y
  · rw [if_pos hc] at hb; exact lv_icmp_ne C.x C.b hd ht (fun z => absurd hc z) (fun _ => kf hc b hb H locs ls h1 h2 h3 h4)
  · rw [if_neg hc] at hb; exact lv_icmp_ne C.x C.b hd ht (fun _ => kt hc b hb H locs ls h1 h2 h3 h4) (fun z => absurd z hc)
theorem r_if_lt {x : Int32} {off : Int} {tgt : Nat} (C : Ok wk Z E cc nL own ret h) (hd : decode cc pc = .ok (.ifCond .lt off, 3)) (ht : (pc : Int) + off = (tgt : Int)) (kt : x < 0 → GT Z E nL fin tgt lv (rest) M N t1) (kf : ¬ x < 0 → GT Z E nL fin (pc + 3) lv (rest) M N t2) : GT Z E nL fin pc lv (.int x :: rest) M N (if x < 0 then t1 else t2) := by
  intro b hb H locs ls h1 h2 h3 h4
  by_cases hc : x < 0
  · rw [if_pos hc] at hb; exact lv_if_lt C.x C.b hd ht (fun _ => kt hc b hb H locs ls h1 h2 h3 h4) (fun z => absurd hc z)
  · rw [if_neg hc] at hb; exact lv_if_lt C.x C.b hd ht (fun z => absurd z hc) (fun _ => kf hc b hb H locs ls h1 h2 h3 h4)
theorem r_ic_lt {x y : Int32} {off : Int} {tgt : Nat} (C : Ok wk Z E cc nL own ret h) (hd : decode cc pc = .ok (.if_icmp .lt off, 3)) (ht : (pc : Int) + off = (tgt : Int)) (kt : x < y → GT Z E nL fin tgt lv (rest) M N t1) (kf : ¬ x < y → GT Z E nL fin (pc + 3) lv (rest) M N t2) : GT Z E nL fin pc lv (.int y :: .int x :: rest) M N (if x < y then t1 else t2) := by
  intro b hb H locs ls h1 h2 h3 h4
  by_cases hc : x < y
  · rw [if_pos hc] at hb; exact lv_icmp_lt C.x C.b hd ht (fun _ => kt hc b hb H locs ls h1 h2 h3 h4) (fun z => absurd hc z)
  · rw [if_neg hc] at hb; exact lv_icmp_lt C.x C.b hd ht (fun z => absurd z hc) (fun _ => kf hc b hb H locs ls h1 h2 h3 h4)
theorem r_if_ge {x : Int32} {off : Int} {tgt : Nat} (C : Ok wk Z E cc nL own ret h) (hd : decode cc pc = .ok (.ifCond .ge off, 3)) (ht : (pc : Int) + off = (tgt : Int)) (kt : 0 ≤ x → GT Z E nL fin tgt lv (rest) M N t1) (kf : ¬ 0 ≤ x → GT Z E nL fin (pc + 3) lv (rest) M N t2) : GT Z E nL fin pc lv (.int x :: rest) M N (if 0 ≤ x then t1 else t2) := by
  intro b hb H locs ls h1 h2 h3 h4
  by_cases hc : 0 ≤ x
  · rw [if_pos hc] at hb; exact lv_if_ge C.x C.b hd ht (fun _ => kt hc b hb H locs ls h1 h2 h3 h4) (fun z => absurd hc z)
  · rw [if_neg hc] at hb; exact lv_if_ge C.x C.b hd ht (fun z => absurd z hc) (fun _ => kf hc b hb H locs ls h1 h2 h3 h4)
theorem r_ic_ge {x y : Int32} {off : Int} {tgt : Nat} (C : Ok wk Z E cc nL own ret h) (hd : decode cc pc = .ok (.if_icmp .ge off, 3)) (ht : (pc : Int) + off = (tgt : Int)) (kt : y ≤ x → GT Z E nL fin tgt lv (rest) M N t1) (kf : ¬ y ≤ x → GT Z E nL fin (pc + 3) lv (rest) M N t2) : GT Z E nL fin pc lv (.int y :: .int x :: rest) M N (if y ≤ x then t1 else t2) := by
  intro b hb H locs ls h1 h2 h3 h4
  by_cases hc : y ≤ x
  · rw [if_pos hc] at hb; exact lv_icmp_ge C.x C.b hd ht (fun _ => kt hc b hb H locs ls h1 h2 h3 h4) (fun z => absurd hc z)
  · rw [if_neg hc] at hb; exact lv_icmp_ge C.x C.b hd ht (fun z => absurd z hc) (fun _ => kf hc b hb H locs ls h1 h2 h3 h4)
theorem r_if_gt {x : Int32} {off : Int} {tgt : Nat} (C : Ok wk Z E cc nL own ret h) (hd : decode cc pc = .ok (.ifCond .gt off, 3)) (ht : (pc : Int) + off = (tgt : Int)) (kt : 0 < x → GT Z E nL fin tgt lv (rest) M N t1) (kf : ¬ 0 < x → GT Z E nL fin (pc + 3) lv (rest) M N t2) : GT Z E nL fin pc lv (.int x :: rest) M N (if 0 < x then t1 else t2) := by
  intro b hb H locs ls h1 h2 h3 h4
  by_cases hc : 0 < x
  · rw [if_pos hc] at hb; exact lv_if_gt C.x C.b hd ht (fun _ => kt hc b hb H locs ls h1 h2 h3 h4) (fun z => absurd hc z)
  · rw [if_neg hc] at hb; exact lv_if_gt C.x C.b hd ht (fun z => absurd z hc) (fun _ => kf hc b hb H locs ls h1 h2 h3 h4)
theorem r_ic_gt {x y : Int32} {off : Int} {tgt : Nat} (C : Ok wk Z E cc nL own ret h) (hd : decode cc pc = .ok (.if_icmp .gt off, 3)) (ht : (pc : Int) + off = (tgt : Int)) (kt : y < x → GT Z E nL fin tgt lv (rest) M N t1) (kf : ¬ y < x → GT Z E nL fin (pc + 3) lv (rest) M N t2) : GT Z E nL fin pc lv (.int y :: .int x :: rest) M N (if y < x then t1 else t2) := by
  intro b hb H locs ls h1 h2 h3 h4
  by_cases hc : y < x
  · rw [if_pos hc] at hb; exact lv_icmp_gt C.x C.b hd ht (fun _ => kt hc b hb H locs ls h1 h2 h3 h4) (fun z => absurd hc z)
  · rw [if_neg hc] at hb; exact lv_icmp_gt C.x C.b hd ht (fun z => absurd z hc) (fun _ => kf hc b hb H locs ls h1 h2 h3 h4)
theorem r_if_le {x : Int32} {off : Int} {tgt : Nat} (C : Ok wk Z E cc nL own ret h) (hd : decode cc pc = .ok (.ifCond .le off, 3)) (ht : (pc : Int) + off = (tgt : Int)) (kt : x ≤ 0 → GT Z E nL fin tgt lv (rest) M N t1) (kf : ¬ x ≤ 0 → GT Z E nL fin (pc + 3) lv (rest) M N t2) : GT Z E nL fin pc lv (.int x :: rest) M N (if x ≤ 0 then t1 else t2) := by
  intro b hb H locs ls h1 h2 h3 h4
  by_cases hc : x ≤ 0
  · rw [if_pos hc] at hb; exact lv_if_le C.x C.b hd ht (fun _ => kt hc b hb H locs ls h1 h2 h3 h4) (fun z => absurd hc z)
  · rw [if_neg hc] at hb; exact lv_if_le C.x C.b hd ht (fun z => absurd z hc) (fun _ => kf hc b hb H locs ls h1 h2 h3 h4)
theorem r_ic_le {x y : Int32} {off : Int} {tgt : Nat} (C : Ok wk Z E cc nL own ret h) (hd : decode cc pc = .ok (.if_icmp .le off, 3)) (ht : (pc : Int) + off = (tgt : Int)) (kt : x ≤ y → GT Z E nL fin tgt lv (rest) M N t1) (kf : ¬ x ≤ y → GT Z E nL fin (pc + 3) lv (rest) M N t2) : GT Z E nL fin pc lv (.int y :: .int x :: rest) M N (if x ≤ y then t1 else t2) := by
  intro b hb H locs ls h1 h2 h3 h4
  by_cases hc : x ≤ y
  · rw [if_pos hc] at hb; exact lv_icmp_le C.x C.b hd ht (fun _ => kt hc b hb H locs ls h1 h2 h3 h4) (fun z => absurd hc z)
  · rw [if_neg hc] at hb; exact lv_icmp_le C.x C.b hd ht (fun z => absurd z hc) (fun _ => kf hc b hb H locs ls h1 h2 h3 h4)
end ROWS2
section XROWS
variable {p : Program} {l : Launch} {e : Env} {R : Room} {s : State} {m : MethodId} {args : Array Value} {below : List Frame} {meth : Method} {c : Code} {H : Heap} {locs : List Loc} {cells slots : Nat} {Q : State → Prop}
variable {cc : ByteArray} {pc : Nat} {ls : Array Slot} {rest : List Value} {D : va_G} {cl : List vw_C} {a : Nat} {tys : List (ClassId × FieldType)}
/-- a field written, by its cell alone -/
theorem x_put (hexec : p.tables.exec = Jvm.exec) (hb : c.code = cc) {own C : String} {T : u_T} {N ci index : Nat} {Ts : List Cond} (hts : ∀ w ∈ Ts, w.before args s = true) (hin : ∀ w ∈ u_ws C T N, w ∈ Ts) (ty0 : Nat → FieldType) (hty : ∀ k, k < N → parseFieldDescriptor (T k).2.2.1 = some (ty0 k)) (hnm : ∀ a, a < N → ∀ b, b < N → a ≠ b → (T a).2.1 ≠ (T b).2.1) (hown : s.vm.findClass own = some m.cls) (hK : va_K D cl tys s) {fs : List Value} (he : va_at D cl (a, .inr (ci, fs)) H) (hc : cl[ci]? = some (C, T, N)) (k : Nat) (hk : k < N) (hlink : (Cond.fieldLink own index (T k).1 (T k).2.1 (T k).2.2.1).before args s = true) (hfin : (T k).2.2.2 = false) {ty : FieldType} {v : Value} (hd : parseFieldDescriptor (T k).2.2.1 = some ty) (hn : narrow ty v = v) (hfit : fits ty v = true) (hl : k < fs.length)
    (hdg : decode cc pc = .ok (.putfield index, 3)) (kk : ∀ (H1 : Heap) (j : Nat), va_at D cl (a, .inr (ci, fs.set k v)) H1 → H1.size = H.size → (∀ q : Nat, q ≠ a → H1[q]? = H[q]?) → W p l e R s m args below meth c H1 (locs ++ [⟨a, j⟩]) cells slots Q (F0 m (pc + 3) ls rest)) : W p l e R s m args below meth c H locs cells slots Q (F0 m pc ls (v :: .ref a :: rest)) := by
  have hap := va_apart (own := own) hts hin ty0 hty hnm hK hc
  obtain ⟨r, h1, cell, q1, q2, q3, q4⟩ := he
  have hr : r = (C, T, N) := Option.some.inj (h1.symm.trans hc)
  subst hr
  obtain ⟨hS, hfc, kC, hkC, hkind⟩ := hK.1 ci _ hc
  obtain ⟨cf, kf, fi, f, hi, hsl⟩ := hS k hk
  have hlay := hts _ (hin _ (u_in_lay hk))
  unfold u_lay at hlay
  rw [if_neg (by rw [hfin]; decide)] at hlay
  have hst := (u_facts hfc hkC (u_lays hts hin hk) hi).1
  have h6 := u_store hfc hkC hkind hlay hi hd hn hfit
  refine W.putK hexec hb (f := f) ⟨hown, hlink, ⟨_, _, _, hi⟩, hst⟩ (by rw [q2]; exact h6) q1 q3 (by rw [hsl]; exact k2_hasslot (q4 k hk)) rfl rfl hdg fun H' e1 e2 e3 => ?_
  rw [hsl] at e1 ⊢
  exact kk H' _ ⟨_, hc, t_OB.to (V := updV (vp_V fs) k v) ⟨_, e1, q2, q3, t_set q4 hap hk v⟩ (fun j _ => vp_updV_set hl v j)⟩ e2 e3
theorem x_putN (hexec : p.tables.exec = Jvm.exec) (hb : c.code = cc) {own C host : String} {T : u_T} {N ci index : Nat} {Ts : List Cond} (hts : ∀ w ∈ Ts, w.before args s = true) (hin : ∀ w ∈ u_ws C T N, w ∈ Ts) (ty0 : Nat → FieldType) (hty : ∀ k, k < N → parseFieldDescriptor (T k).2.2.1 = some (ty0 k)) (hnm : ∀ a, a < N → ∀ b, b < N → a ≠ b → (T a).2.1 ≠ (T b).2.1) (hown : s.vm.findClass own = some m.cls) (hK : va_K D cl tys s) {fs : List Value} (he : va_at D cl (a, .inr (ci, fs)) H) (hc : cl[ci]? = some (C, T, N)) (k : Nat) (hk : k < N) (hlink : (Cond.fieldLinkNest own index (T k).1 (T k).2.1 (T k).2.2.1 host).before args s = true) (hfin : (T k).2.2.2 = false) {ty : FieldType} {v : Value} (hd : parseFieldDescriptor (T k).2.2.1 = some ty) (hn : narrow ty v = v) (hfit : fits ty v = true) (hl : k < fs.length)
    (hdg : decode cc pc = .ok (.putfield index, 3)) (kk : ∀ (H1 : Heap) (j : Nat), va_at D cl (a, .inr (ci, fs.set k v)) H1 → H1.size = H.size → (∀ q : Nat, q ≠ a → H1[q]? = H[q]?) → W p l e R s m args below meth c H1 (locs ++ [⟨a, j⟩]) cells slots Q (F0 m (pc + 3) ls rest)) : W p l e R s m args below meth c H locs cells slots Q (F0 m pc ls (v :: .ref a :: rest)) := by
  have hap := va_apart (own := own) hts hin ty0 hty hnm hK hc
  obtain ⟨r, h1, cell, q1, q2, q3, q4⟩ := he
  have hr : r = (C, T, N) := Option.some.inj (h1.symm.trans hc)
  subst hr
  obtain ⟨hS, hfc, kC, hkC, hkind⟩ := hK.1 ci _ hc
  obtain ⟨cf, kf, fi, f, hi, hsl⟩ := hS k hk
  have hlay := hts _ (hin _ (u_in_lay hk))
  unfold u_lay at hlay
  rw [if_neg (by rw [hfin]; decide)] at hlay
  have hst := (u_facts hfc hkC (u_lays hts hin hk) hi).1
  have h6 := u_store hfc hkC hkind hlay hi hd hn hfit
  refine va_WputK hexec hb (f := f) hown hlink hi hst (by rw [q2]; exact h6) q1 q3 (by rw [hsl]; exact k2_hasslot (q4 k hk)) rfl rfl hdg fun H' e1 e2 e3 => ?_
  rw [hsl] at e1 ⊢
  exact kk H' _ ⟨_, hc, t_OB.to (V := updV (vp_V fs) k v) ⟨_, e1, q2, q3, t_set q4 hap hk v⟩ (fun j _ => vp_updV_set hl v j)⟩ e2 e3
theorem x_iast (hexec : p.tables.exec = Jvm.exec) (hb : c.code = cc) (hK : va_K D cl tys s) (t0 : Nat) {cA : ClassId} {n : Nat} {f : Nat → Int32} (ha : va_at D cl (a, .inl (cA, n, .inl f)) H) (ht : tys[t0]? = some (cA, .int)) {i : Int32} {x : Int32} (hin : vp_in i n) (hdg : decode cc pc = .ok (.iastore, 1))
    (kk : ∀ H1 : Heap, va_at D cl (a, .inl (cA, n, .inl (upd f i.toNatClampNeg x))) H1 → H1.size = H.size → (∀ q : Nat, q ≠ a → H1[q]? = H[q]?) → W p l e R s m args below meth c H1 (locs ++ [⟨a, i.toNatClampNeg⟩]) cells slots Q (F0 m (pc + 1) ls rest)) : W p l e R s m args below meth c H locs cells slots Q (F0 m pc ls (.int x :: .int i :: .ref a :: rest)) := by
  refine W.iast hexec hb ha ((hK.2 t0 _ ht).1 n (fun j => .int (f j))) (fun q => by cases q) (by show ¬ (i < 0 ∨ (arrV _ _ _).slots.size ≤ _); rw [arrV_size]; exact hin) rfl rfl hdg fun H1 e z oq => ?_
  refine kk H1 ?_ z oq
  show H1[a]? = some (vp_cell _ _)
  rw [e, vp_cell_i, vp_cell_i, arrV_store]
  congr 2
  funext q
  by_cases hq : q = i.toNatClampNeg
  · subst hq
    simp [updV, upd]
  · simp [updV, upd, hq]
theorem x_zast (hexec : p.tables.exec = Jvm.exec) (hb : c.code = cc) (hK : va_K D cl tys s) (t0 : Nat) {cA : ClassId} {n : Nat} {f : Nat → Int32} (ha : va_at D cl (a, .inl (cA, n, .inl f)) H) (ht : tys[t0]? = some (cA, .boolean)) {i : Int32} {x : Int32} (hin : vp_in i n) (hdg : decode cc pc = .ok (.bastore, 1))
    (kk : ∀ H1 : Heap, va_at D cl (a, .inl (cA, n, .inl (upd f i.toNatClampNeg (zn x)))) H1 → H1.size = H.size → (∀ q : Nat, q ≠ a → H1[q]? = H[q]?) → W p l e R s m args below meth c H1 (locs ++ [⟨a, i.toNatClampNeg⟩]) cells slots Q (F0 m (pc + 1) ls rest)) : W p l e R s m args below meth c H locs cells slots Q (F0 m pc ls (.int x :: .int i :: .ref a :: rest)) := by
  refine W.zast hexec hb ha ((hK.2 t0 _ ht).1 n (fun j => .int (f j))) (fun q => by cases q) (by show ¬ (i < 0 ∨ (arrV _ _ _).slots.size ≤ _); rw [arrV_size]; exact hin) rfl rfl hdg fun H1 e z oq => ?_
  refine kk H1 ?_ z oq
  show H1[a]? = some (vp_cell _ _)
  rw [e, vp_cell_i, vp_cell_i, arrV_store]
  congr 2
  funext q
  by_cases hq : q = i.toNatClampNeg
  · subst hq
    simp [updV, upd, narrow, zn]
  · simp [updV, upd, hq]
theorem x_last (hexec : p.tables.exec = Jvm.exec) (hb : c.code = cc) (hK : va_K D cl tys s) (t0 : Nat) {cA : ClassId} {n : Nat} {f : Nat → Int64} (ha : va_at D cl (a, .inl (cA, n, .inr (.inl f))) H) (ht : tys[t0]? = some (cA, .long)) {i : Int32} {x : Int64} (hin : vp_in i n) (hdg : decode cc pc = .ok (.lastore, 1))
    (kk : ∀ H1 : Heap, va_at D cl (a, .inl (cA, n, .inr (.inl (vp_updL f i.toNatClampNeg x)))) H1 → H1.size = H.size → (∀ q : Nat, q ≠ a → H1[q]? = H[q]?) → W p l e R s m args below meth c H1 (locs ++ [⟨a, i.toNatClampNeg⟩]) cells slots Q (F0 m (pc + 1) ls rest)) : W p l e R s m args below meth c H locs cells slots Q (F0 m pc ls (.long x :: .int i :: .ref a :: rest)) := by
  refine W.last hexec hb ha ((hK.2 t0 _ ht).1 n (fun j => .long (f j))) (fun q => by cases q) (by show ¬ (i < 0 ∨ (arrV _ _ _).slots.size ≤ _); rw [arrV_size]; exact hin) rfl rfl hdg fun H1 e z oq => ?_
  refine kk H1 ?_ z oq
  show H1[a]? = some (vp_cell _ _)
  rw [e, vp_cell_l, vp_cell_l, arrV_store]
  congr 2
  funext q
  by_cases hq : q = i.toNatClampNeg
  · subst hq
    simp [updV, vp_updL]
  · simp [updV, vp_updL, hq]
end XROWS
theorem sing {D : va_G} {cl : List vw_C} {q : Nat × va_E} {H : Heap} (h : va_at D cl q H) : va_P D cl [q] H := fun k x hk => by
  match k, hk with
  | 0, hk => cases hk; exact h
section MROWS
variable {wk : Nat} {Z : Zt} {E : Ec} {cc : ByteArray} {nL : Nat} {own : String} {ret : Option FieldType} {h : Nat} {β : Type} {fin : β → Option Value × Mi × Ml} {pc : Nat} {lv lv' : List (Nat × Value)} {st rest : List Value} {M M' : Mi} {N N' : Ml} {t t1 t2 : Option β}
theorem locs_put {locs : List Loc} {g p j : Nat} {σ : Nat → Int32} {ν : Nat → Int64} {e : va_E} (h3 : ∀ q ∈ locs, InA Z q.base) (he : zL Z g σ ν p = some e) : ∀ q ∈ locs ++ [(⟨zA Z g p, j⟩ : Loc)], InA Z q.base := fun q hq => by
  rcases List.mem_append.mp hq with h1 | h1
  · exact h3 q h1
  · rw [List.mem_singleton.mp h1]
    exact ⟨g, p, σ, ν, e, he, rfl⟩
theorem r_get (C : Ok wk Z E cc nL own ret h) {Cn : String} {T : u_T} {n ci index g p : Nat} {fs : List Value} {v : Value} (hin : ∀ w ∈ u_ws Cn T n, w ∈ base) (hc : vwCl[ci]? = some (Cn, T, n)) (k : Nat) (hk : k < n) (hw : Cond.fieldLink own index (T k).1 (T k).2.1 (T k).2.2.1 ∈ base) (hlay : zL Z g (M g) (N g) p = some (.inr (ci, fs))) (hv : fs[k]? = some v) (hd : decode cc pc = .ok (.getfield index, 3))
    (kk : GT Z E nL fin (pc + 3) lv (v :: rest) M N t) : GT Z E nL fin pc lv (.ref (zA Z g p) :: rest) M N t :=
  fun b hb H locs ls h1 h2 h3 h4 => va_get C.x C.b C.ts hin C.ow C.kn.1 (sing (h1 g p _ hlay)) 0 rfl hc k hk (C.ts _ hw) (fun _ q => q) hv hd (kk b hb H locs ls h1 h2 h3 h4)
theorem r_getN (C : Ok wk Z E cc nL own ret h) {Cn host : String} {T : u_T} {n ci index g p : Nat} {fs : List Value} {v : Value} (hin : ∀ w ∈ u_ws Cn T n, w ∈ base) (hc : vwCl[ci]? = some (Cn, T, n)) (k : Nat) (hk : k < n) (i : Nat) (hw : nestF[i]? = some (own, index, (T k).1, (T k).2.1, (T k).2.2.1, host)) (hlay : zL Z g (M g) (N g) p = some (.inr (ci, fs))) (hv : fs[k]? = some v) (hd : decode cc pc = .ok (.getfield index, 3))
    (kk : GT Z E nL fin (pc + 3) lv (v :: rest) M N t) : GT Z E nL fin pc lv (.ref (zA Z g p) :: rest) M N t :=
  fun b hb H locs ls h1 h2 h3 h4 => va_getN C.x C.b C.ts hin C.ow C.kn.1 (sing (h1 g p _ hlay)) 0 rfl hc k hk (C.kn.f i hw) (fun _ q => q) hv hd (kk b hb H locs ls h1 h2 h3 h4)
theorem r_put (C : Ok wk Z E cc nL own ret h) {Cn : String} {T : u_T} {n ci index g p : Nat} {fs : List Value} {v : Value} {σ : Nat → Int32} {ty : FieldType} (hin : ∀ w ∈ u_ws Cn T n, w ∈ base) (ty0 : Nat → FieldType) (hty : ∀ k, k < n → parseFieldDescriptor (T k).2.2.1 = some (ty0 k)) (hnm : ∀ a, a < n → ∀ b, b < n → a ≠ b → (T a).2.1 ≠ (T b).2.1) (hc : vwCl[ci]? = some (Cn, T, n)) (k : Nat) (hk : k < n) (hw : Cond.fieldLink own index (T k).1 (T k).2.1 (T k).2.2.1 ∈ base) (hfin : (T k).2.2.2 = false) (hdd : parseFieldDescriptor (T k).2.2.1 = some ty) (hn : narrow ty v = v) (hfit : fits ty v = true) (hl : k < fs.length)
    (hlay : zL Z g (M g) (N g) p = some (.inr (ci, fs))) (hlay1 : zL Z g σ (N g) p = some (.inr (ci, fs.set k v))) (ho : ∀ (p' : Nat) (e : va_E), p' ≠ p → zL Z g σ (N g) p' = some e → zL Z g (M g) (N g) p' = some e) (hM : sR M g σ = M') (hd : decode cc pc = .ok (.putfield index, 3))
    (kk : GT Z E nL fin (pc + 3) lv rest M' N t) : GT Z E nL fin pc lv (v :: .ref (zA Z g p) :: rest) M N t := by
  intro b hb H locs ls h1 h2 h3 h4
  refine x_put C.x C.b C.ts hin ty0 hty hnm C.ow C.kn.1 (h1 g p _ hlay) hc k hk (C.ts _ hw) hfin hdd hn hfit hl hd (fun H1 j he hz oq => ?_)
  have hR := h1.put C.z.1 hlay hlay1 he oq ho
  rw [sR_self, hM] at hR
  exact kk b hb H1 _ ls hR (h2.set ⟨g, p, _, _, _, hlay, rfl⟩ hz oq) (locs_put h3 hlay) h4
theorem r_putN (C : Ok wk Z E cc nL own ret h) {Cn host : String} {T : u_T} {n ci index g p : Nat} {fs : List Value} {v : Value} {σ : Nat → Int32} {ty : FieldType} (hin : ∀ w ∈ u_ws Cn T n, w ∈ base) (ty0 : Nat → FieldType) (hty : ∀ k, k < n → parseFieldDescriptor (T k).2.2.1 = some (ty0 k)) (hnm : ∀ a, a < n → ∀ b, b < n → a ≠ b → (T a).2.1 ≠ (T b).2.1) (hc : vwCl[ci]? = some (Cn, T, n)) (k : Nat) (hk : k < n) (i : Nat) (hw : nestF[i]? = some (own, index, (T k).1, (T k).2.1, (T k).2.2.1, host)) (hfin : (T k).2.2.2 = false) (hdd : parseFieldDescriptor (T k).2.2.1 = some ty) (hn : narrow ty v = v) (hfit : fits ty v = true) (hl : k < fs.length)
    (hlay : zL Z g (M g) (N g) p = some (.inr (ci, fs))) (hlay1 : zL Z g σ (N g) p = some (.inr (ci, fs.set k v))) (ho : ∀ (p' : Nat) (e : va_E), p' ≠ p → zL Z g σ (N g) p' = some e → zL Z g (M g) (N g) p' = some e) (hM : sR M g σ = M') (hd : decode cc pc = .ok (.putfield index, 3))
    (kk : GT Z E nL fin (pc + 3) lv rest M' N t) : GT Z E nL fin pc lv (v :: .ref (zA Z g p) :: rest) M N t := by
  intro b hb H locs ls h1 h2 h3 h4
  refine x_putN C.x C.b C.ts hin ty0 hty hnm C.ow C.kn.1 (h1 g p _ hlay) hc k hk (C.kn.f i hw) hfin hdd hn hfit hl hd (fun H1 j he hz oq => ?_)
  have hR := h1.put C.z.1 hlay hlay1 he oq ho
  rw [sR_self, hM] at hR
  exact kk b hb H1 _ ls hR (h2.set ⟨g, p, _, _, _, hlay, rfl⟩ hz oq) (locs_put h3 hlay) h4
theorem r_iald (C : Ok wk Z E cc nL own ret h) {g p n : Nat} {f : Nat → Int32} {i v : Int32} (hlay : zL Z g (M g) (N g) p = some (.inl (Z.2.1 0, n, .inl f))) (hin : vp_in i n) (hv : f i.toNatClampNeg = v) (hd : decode cc pc = .ok (.iaload, 1))
    (kk : GT Z E nL fin (pc + 1) lv (.int v :: rest) M N t) : GT Z E nL fin pc lv (.int i :: .ref (zA Z g p) :: rest) M N t :=
  fun b hb H locs ls h1 h2 h3 h4 => va_iald C.x C.b C.kn.1 (sing (h1 g p _ hlay)) 0 0 rfl rfl hin hd (hv ▸ kk b hb H locs ls h1 h2 h3 h4)
theorem r_zald (C : Ok wk Z E cc nL own ret h) {g p n : Nat} {f : Nat → Int32} {i v : Int32} (hlay : zL Z g (M g) (N g) p = some (.inl (Z.2.1 2, n, .inl f))) (hin : vp_in i n) (hv : f i.toNatClampNeg = v) (hd : decode cc pc = .ok (.baload, 1))
    (kk : GT Z E nL fin (pc + 1) lv (.int v :: rest) M N t) : GT Z E nL fin pc lv (.int i :: .ref (zA Z g p) :: rest) M N t :=
  fun b hb H locs ls h1 h2 h3 h4 => va_zald C.x C.b C.kn.1 (sing (h1 g p _ hlay)) 0 2 rfl rfl hin hd (hv ▸ kk b hb H locs ls h1 h2 h3 h4)
theorem r_lald (C : Ok wk Z E cc nL own ret h) {g p n : Nat} {f : Nat → Int64} {i : Int32} {v : Int64} (hlay : zL Z g (M g) (N g) p = some (.inl (Z.2.1 1, n, .inr (.inl f)))) (hin : vp_in i n) (hv : f i.toNatClampNeg = v) (hd : decode cc pc = .ok (.laload, 1))
    (kk : GT Z E nL fin (pc + 1) lv (.long v :: rest) M N t) : GT Z E nL fin pc lv (.int i :: .ref (zA Z g p) :: rest) M N t :=
  fun b hb H locs ls h1 h2 h3 h4 => va_lald C.x C.b C.kn.1 (sing (h1 g p _ hlay)) 0 1 rfl rfl hin hd (hv ▸ kk b hb H locs ls h1 h2 h3 h4)
theorem r_iast (C : Ok wk Z E cc nL own ret h) {g p n : Nat} {f : Nat → Int32} {σ : Nat → Int32} {i x : Int32} (hlay : zL Z g (M g) (N g) p = some (.inl (Z.2.1 0, n, .inl f))) (hlay1 : zL Z g σ (N g) p = some (.inl (Z.2.1 0, n, .inl (upd f i.toNatClampNeg x)))) (ho : ∀ (p' : Nat) (e : va_E), p' ≠ p → zL Z g σ (N g) p' = some e → zL Z g (M g) (N g) p' = some e) (hM : sR M g σ = M') (hin : vp_in i n) (hd : decode cc pc = .ok (.iastore, 1))
    (kk : GT Z E nL fin (pc + 1) lv rest M' N t) : GT Z E nL fin pc lv (.int x :: .int i :: .ref (zA Z g p) :: rest) M N t := by
  intro b hb H locs ls h1 h2 h3 h4
  refine x_iast C.x C.b C.kn.1 0 (h1 g p _ hlay) rfl hin hd (fun H1 he hz oq => ?_)
  have hR := h1.put C.z.1 hlay hlay1 he oq ho
  rw [sR_self, hM] at hR
  exact kk b hb H1 _ ls hR (h2.set ⟨g, p, _, _, _, hlay, rfl⟩ hz oq) (locs_put h3 hlay) h4
theorem r_zast (C : Ok wk Z E cc nL own ret h) {g p n : Nat} {f : Nat → Int32} {σ : Nat → Int32} {i x : Int32} (hlay : zL Z g (M g) (N g) p = some (.inl (Z.2.1 2, n, .inl f))) (hlay1 : zL Z g σ (N g) p = some (.inl (Z.2.1 2, n, .inl (upd f i.toNatClampNeg (zn x))))) (ho : ∀ (p' : Nat) (e : va_E), p' ≠ p → zL Z g σ (N g) p' = some e → zL Z g (M g) (N g) p' = some e) (hM : sR M g σ = M') (hin : vp_in i n) (hd : decode cc pc = .ok (.bastore, 1))
    (kk : GT Z E nL fin (pc + 1) lv rest M' N t) : GT Z E nL fin pc lv (.int x :: .int i :: .ref (zA Z g p) :: rest) M N t := by
  intro b hb H locs ls h1 h2 h3 h4
  refine x_zast C.x C.b C.kn.1 2 (h1 g p _ hlay) rfl hin hd (fun H1 he hz oq => ?_)
  have hR := h1.put C.z.1 hlay hlay1 he oq ho
  rw [sR_self, hM] at hR
  exact kk b hb H1 _ ls hR (h2.set ⟨g, p, _, _, _, hlay, rfl⟩ hz oq) (locs_put h3 hlay) h4
theorem r_last (C : Ok wk Z E cc nL own ret h) {g p n : Nat} {f : Nat → Int64} {ν : Nat → Int64} {i : Int32} {x : Int64} (hlay : zL Z g (M g) (N g) p = some (.inl (Z.2.1 1, n, .inr (.inl f)))) (hlay1 : zL Z g (M g) ν p = some (.inl (Z.2.1 1, n, .inr (.inl (vp_updL f i.toNatClampNeg x))))) (ho : ∀ (p' : Nat) (e : va_E), p' ≠ p → zL Z g (M g) ν p' = some e → zL Z g (M g) (N g) p' = some e) (hM : sR N g ν = N') (hin : vp_in i n) (hd : decode cc pc = .ok (.lastore, 1))
    (kk : GT Z E nL fin (pc + 1) lv rest M N' t) : GT Z E nL fin pc lv (.long x :: .int i :: .ref (zA Z g p) :: rest) M N t := by
  intro b hb H locs ls h1 h2 h3 h4
  refine x_last C.x C.b C.kn.1 1 (h1 g p _ hlay) rfl hin hd (fun H1 he hz oq => ?_)
  have hR := h1.put C.z.1 hlay hlay1 he oq ho
  rw [sR_self, hM] at hR
  exact kk b hb H1 _ ls hR (h2.set ⟨g, p, _, _, _, hlay, rfl⟩ hz oq) (locs_put h3 hlay) h4
theorem r_aald (C : Ok wk Z E cc nL own ret h) {g p n : Nat} {f : Nat → Nat} {i : Int32} {a : Nat} (hlay : zL Z g (M g) (N g) p = some (.inl (Z.2.1 3, n, .inr (.inr (.inr (.inr (fun i => some (f i)))))))) (hin : vp_in i n) (hv : f i.toNatClampNeg = a) (hd : decode cc pc = .ok (.aaload, 1))
    (kk : GT Z E nL fin (pc + 1) lv (.ref a :: rest) M N t) : GT Z E nL fin pc lv (.int i :: .ref (zA Z g p) :: rest) M N t :=
  fun b hb H locs ls h1 h2 h3 h4 => va_aldq C.x C.b C.kn.1 (sing (h1 g p _ hlay)) 0 3 rfl rfl hin hd (by subst hv; exact kk b hb H locs ls h1 h2 h3 h4)
/-- a long comparison and its branch -/
theorem r_lc_eq {x y : Int64} {off : Int} {tgt : Nat} (C : Ok wk Z E cc nL own ret h) (hl : decode cc pc = .ok (.lcmp, 1)) (hd : decode cc (pc + 1) = .ok (.ifCond .eq off, 3)) (ht : ((pc + 1 : Nat) : Int) + off = (tgt : Int)) (kt : x = y → GT Z E nL fin tgt lv rest M N t1) (kf : ¬ x = y → GT Z E nL fin (pc + 1 + 3) lv rest M N t2) : GT Z E nL fin pc lv (.long y :: .long x :: rest) M N (if x = y then t1 else t2) := by
  intro b hb H locs ls h1 h2 h3 h4
  refine W.lcmp C.x C.b hl ?_
  by_cases hc : x = y
  · rw [if_pos hc] at hb; exact lv_if_eq C.x C.b hd ht (fun _ => kt hc b hb H locs ls h1 h2 h3 h4) (fun z => absurd ((lg_cmp_eq x y).mpr hc) z)
  · rw [if_neg hc] at hb; exact lv_if_eq C.x C.b hd ht (fun z => absurd ((lg_cmp_eq x y).mp z) hc) (fun _ => kf hc b hb H locs ls h1 h2 h3 h4)
theorem r_lc_ne {x y : Int64} {off : Int} {tgt : Nat} (C : Ok wk Z E cc nL own ret h) (hl : decode cc pc = .ok (.lcmp, 1)) (hd : decode cc (pc + 1) = .ok (.ifCond .ne off, 3)) (ht : ((pc + 1 : Nat) : Int) + off = (tgt : Int)) (kt : ¬ x = y → GT Z E nL fin tgt lv rest M N t2) (kf : x = y → GT Z E nL fin (pc + 1 + 3) lv rest M N t1) : GT Z E nL fin pc lv (.long y :: .long x :: rest) M N (if x = y then t1 else t2) := by
  intro b hb H locs ls h1 h2 h3 h4
  refine W.lcmp C.x C.b hl ?_
  by_cases hc : x = y
  · rw [if_pos hc] at hb; exact lv_if_ne C.x C.b hd ht (fun z => absurd ((lg_cmp_eq x y).mpr hc) z) (fun _ => kf hc b hb H locs ls h1 h2 h3 h4)
  · rw [if_neg hc] at hb; exact lv_if_ne C.x C.b hd ht (fun _ => kt hc b hb H locs ls h1 h2 h3 h4) (fun z => absurd ((lg_cmp_eq x y).mp z) hc)
theorem r_lc_lt {x y : Int64} {off : Int} {tgt : Nat} (C : Ok wk Z E cc nL own ret h) (hl : decode cc pc = .ok (.lcmp, 1)) (hd : decode cc (pc + 1) = .ok (.ifCond .lt off, 3)) (ht : ((pc + 1 : Nat) : Int) + off = (tgt : Int)) (kt : x < y → GT Z E nL fin tgt lv rest M N t1) (kf : ¬ x < y → GT Z E nL fin (pc + 1 + 3) lv rest M N t2) : GT Z E nL fin pc lv (.long y :: .long x :: rest) M N (if x < y then t1 else t2) := by
  intro b hb H locs ls h1 h2 h3 h4
  refine W.lcmp C.x C.b hl ?_
  by_cases hc : x < y
  · rw [if_pos hc] at hb; exact lv_if_lt C.x C.b hd ht (fun _ => kt hc b hb H locs ls h1 h2 h3 h4) (fun z => absurd ((lg_cmp_lt x y).mpr hc) z)
  · rw [if_neg hc] at hb; exact lv_if_lt C.x C.b hd ht (fun z => absurd ((lg_cmp_lt x y).mp z) hc) (fun _ => kf hc b hb H locs ls h1 h2 h3 h4)
theorem r_lc_ge {x y : Int64} {off : Int} {tgt : Nat} (C : Ok wk Z E cc nL own ret h) (hl : decode cc pc = .ok (.lcmp, 1)) (hd : decode cc (pc + 1) = .ok (.ifCond .ge off, 3)) (ht : ((pc + 1 : Nat) : Int) + off = (tgt : Int)) (kt : y ≤ x → GT Z E nL fin tgt lv rest M N t1) (kf : ¬ y ≤ x → GT Z E nL fin (pc + 1 + 3) lv rest M N t2) : GT Z E nL fin pc lv (.long y :: .long x :: rest) M N (if y ≤ x then t1 else t2) := by
  intro b hb H locs ls h1 h2 h3 h4
  refine W.lcmp C.x C.b hl ?_
  by_cases hc : y ≤ x
  · rw [if_pos hc] at hb; exact lv_if_ge C.x C.b hd ht (fun _ => kt hc b hb H locs ls h1 h2 h3 h4) (fun z => absurd ((lg_cmp_ge x y).mpr hc) z)
  · rw [if_neg hc] at hb; exact lv_if_ge C.x C.b hd ht (fun z => absurd ((lg_cmp_ge x y).mp z) hc) (fun _ => kf hc b hb H locs ls h1 h2 h3 h4)
theorem r_lc_gt {x y : Int64} {off : Int} {tgt : Nat} (C : Ok wk Z E cc nL own ret h) (hl : decode cc pc = .ok (.lcmp, 1)) (hd : decode cc (pc + 1) = .ok (.ifCond .gt off, 3)) (ht : ((pc + 1 : Nat) : Int) + off = (tgt : Int)) (kt : y < x → GT Z E nL fin tgt lv rest M N t1) (kf : ¬ y < x → GT Z E nL fin (pc + 1 + 3) lv rest M N t2) : GT Z E nL fin pc lv (.long y :: .long x :: rest) M N (if y < x then t1 else t2) := by
  intro b hb H locs ls h1 h2 h3 h4
  refine W.lcmp C.x C.b hl ?_
  by_cases hc : y < x
  · rw [if_pos hc] at hb; exact lv_if_gt C.x C.b hd ht (fun _ => kt hc b hb H locs ls h1 h2 h3 h4) (fun z => absurd ((lg_cmp_gt x y).mpr hc) z)
  · rw [if_neg hc] at hb; exact lv_if_gt C.x C.b hd ht (fun z => absurd ((lg_cmp_gt x y).mp z) hc) (fun _ => kf hc b hb H locs ls h1 h2 h3 h4)
theorem r_lc_le {x y : Int64} {off : Int} {tgt : Nat} (C : Ok wk Z E cc nL own ret h) (hl : decode cc pc = .ok (.lcmp, 1)) (hd : decode cc (pc + 1) = .ok (.ifCond .le off, 3)) (ht : ((pc + 1 : Nat) : Int) + off = (tgt : Int)) (kt : x ≤ y → GT Z E nL fin tgt lv rest M N t1) (kf : ¬ x ≤ y → GT Z E nL fin (pc + 1 + 3) lv rest M N t2) : GT Z E nL fin pc lv (.long y :: .long x :: rest) M N (if x ≤ y then t1 else t2) := by
  intro b hb H locs ls h1 h2 h3 h4
  refine W.lcmp C.x C.b hl ?_
  by_cases hc : x ≤ y
  · rw [if_pos hc] at hb; exact lv_if_le C.x C.b hd ht (fun _ => kt hc b hb H locs ls h1 h2 h3 h4) (fun z => absurd ((lg_cmp_le x y).mpr hc) z)
  · rw [if_neg hc] at hb; exact lv_if_le C.x C.b hd ht (fun z => absurd ((lg_cmp_le x y).mp z) hc) (fun _ => kf hc b hb H locs ls h1 h2 h3 h4)
/-- a case of a switch -/
theorem r_tsw {dflt lo hi : Int} {offs : Array Int} {len : Nat} {x k : Int32} {off : Int} {tgt : Nat} (C : Ok wk Z E cc nL own ret h) (hd : decode cc pc = .ok (.tableswitch dflt lo hi offs, len)) (hk1 : ¬ k.toInt < lo) (hk2 : ¬ hi < k.toInt) (ho : offs[(k.toInt - lo).toNat]? = some off) (ht : (pc : Int) + off = (tgt : Int))
    (kt : x = k → GT Z E nL fin tgt lv rest M N t1) (kf : ¬ x = k → GT Z E nL fin pc lv (.int x :: rest) M N t2) : GT Z E nL fin pc lv (.int x :: rest) M N (if x = k then t1 else t2) := by
  intro b hb H locs ls h1 h2 h3 h4
  by_cases hc : x = k
  · rw [if_pos hc] at hb
    subst hc
    exact lv_tableIn C.x C.b hd hk1 hk2 ho ht (kt rfl b hb H locs ls h1 h2 h3 h4)
  · rw [if_neg hc] at hb
    exact kf hc b hb H locs ls h1 h2 h3 h4
theorem r_tswd {dflt lo hi : Int} {offs : Array Int} {len : Nat} {x : Int32} {tgt : Nat} (C : Ok wk Z E cc nL own ret h) (hd : decode cc pc = .ok (.tableswitch dflt lo hi offs, len)) (hx : x.toInt < lo ∨ hi < x.toInt) (ht : (pc : Int) + dflt = (tgt : Int))
    (kt : GT Z E nL fin tgt lv rest M N t) : GT Z E nL fin pc lv (.int x :: rest) M N t :=
  fun b hb H locs ls h1 h2 h3 h4 => lv_tableOut C.x C.b hd hx ht (kt b hb H locs ls h1 h2 h3 h4)
theorem r_zret {b : β} {v : Int32} (C : Ok wk Z E cc nL own (some .boolean) h) (hd : decode cc pc = .ok (.ireturn, 1)) (hz : v = 0 ∨ v = 1) (hf : fin b = (some (.int v), M, N)) : GT Z E nL fin pc lv [.int v] M N (some b) := by
  intro b' hb' H locs ls h1 h2 h3 h4
  cases hb'
  exact W.zret C.x C.b C.rt (by rcases hz with rfl | rfl <;> rfl) (fun t ht _ => ⟨by rw [hf], by rw [hf, ht]; exact h1, by rw [ht]; exact h2⟩) h3 hd C.lk
/-! calls -/
theorem pcZ_blind {av : List Value} : FrameBlind (pcZ wk Z av M N) := fun a U g mk q => ⟨q.1, q.2.1, KN.same (u := U) rfl q.2.2.1, q.2.2.2.2.2.1.2 U (U.calling g mk a) rfl rfl q.2.2.2.1, q.2.2.2.2⟩
theorem pcZ_pre {av : List Value} {H : Heap} (C : Ok wk Z E cc nL own ret h) (h1 : Rep Z M N H) (h2 : Fr Z (eS E).heap H) : ∀ U : State, U.heap = H → (eS E).WarmedH U.vm → pcZ wk Z av M N av.toArray U := fun U hU hW => ⟨rfl, by rw [hU]; exact h1, C.kn.warm hW, C.z.2.1.1 _ _ hW (by rw [hU]; exact h2) C.sta, C.z⟩
theorem locs_app {locs L : List Loc} (h3 : ∀ q ∈ locs, InA Z q.base) (h4 : ∀ q ∈ L, InA Z q.base) : ∀ q ∈ locs ++ L, InA Z q.base := fun q hq => (List.mem_append.mp hq).elim (h3 q) (h4 q)
theorem run_GT {g0 : JFrame} {r : Option Value × Mi × Ml} {a0 : Array Value} {H : Heap} {locs : List Loc} {Q : State → Prop} {ls : Array Slot} {s0 : List Value} (hg : g0 = F0 (eM E) pc ls s0) (hr : va_Run E.1 E.2.1 E.2.2.1 E.2.2.2.1 E.2.2.2.2.1 E.2.2.2.2.2.1 E.2.2.2.2.2.2.1 E.2.2.2.2.2.2.2.1 E.2.2.2.2.2.2.2.2.1 E.2.2.2.2.2.2.2.2.2 H locs 0 0 0 0 g0 rest (qo Z r a0) (InA Z))
    (h2 : Fr Z (eS E).heap H) (h3 : ∀ q ∈ locs, InA Z q.base)
    (kk : ∀ (H1 : Heap) (locs1 : List Loc), Rep Z r.2.1 r.2.2 H1 → Fr Z (eS E).heap H1 → (∀ q ∈ locs1, InA Z q.base) → Wc E H1 locs1 Q (F0 (eM E) (pc + 3) ls (r.1.toList ++ rest))) : Wc E H locs Q g0 := by
  intro T hT X
  obtain ⟨v, st₀, t, T', L, h0, X', hL, e1, e2, ⟨hv, hR, hF⟩, st⟩ := hr T hT X
  cases hv
  obtain ⟨t2, a1, b1⟩ := kk t.heap (locs ++ L) hR (h2.trans (by rw [← h0]; exact hF)) (locs_app h3 hL) T' e1 X'
  subst hg
  exact ⟨t2, st t2 a1, b1⟩
/-- what a link needs: static, virtual, of a nest mate -/
def LkS (own : String) (idx : Nat) (y : MethodName) (bytes : ByteArray) (maxL : Nat) (rt : Option FieldType) (n : Nat) : Prop :=
  (∀ w ∈ va_wsS own idx y [Cond.code y bytes maxL rt], w ∈ base) ∧ (y.cls ≠ "java/lang/invoke/MethodHandle" ∧ y.cls ≠ "java/lang/invoke/VarHandle" ∧ (parseMethodDescriptor y.desc).map (fun d => d.parameters.length) = some n) ∧ maxL ≤ 11
def LkV (own : String) (idx : Nat) (y : MethodName) (bytes : ByteArray) (maxL : Nat) (rt : Option FieldType) (n : Nat) : Prop :=
  (∀ w ∈ wsV own idx y.cls y [Cond.code y bytes maxL rt], w ∈ base) ∧ (y.cls ≠ "java/lang/invoke/MethodHandle" ∧ y.cls ≠ "java/lang/invoke/VarHandle" ∧ (parseMethodDescriptor y.desc).map (fun d => d.parameters.length) = some n) ∧ maxL ≤ 11
theorem good_base {ws : List Cond} {w0 : Cond} (pre : List Cond) (hm : ∀ w ∈ pre ++ [w0], w ∈ base) : GoodIn base (pre ++ (w0 :: base)) := fun w hw => by
  rcases List.mem_append.mp hw with h1 | h1
  · exact goodIn_base w (hm w (List.mem_append_left _ h1))
  · rcases List.mem_cons.mp h1 with rfl | h1
    · exact goodIn_base _ (hm _ (List.mem_append_right _ (List.mem_singleton.mpr rfl)))
    · exact goodIn_base w h1
theorem room_ok {h' maxL : Nat} (C : Ok wk Z E cc nL own ret h) (hm : maxL ≤ 11) (hh : h' < h) : (rmH h').frames + 1 ≤ E.2.2.2.1.frames ∧ 8 + (maxL + 11) + (rmH h').locals ≤ E.2.2.2.1.locals := by
  rw [C.rm]
  exact ⟨hh, by show 8 + (maxL + 11) + 30 * h' ≤ 30 * h; omega⟩
theorem cells_ok {n : Nat} : 0 + 0 ≤ n := Nat.zero_le _
theorem r_callS {y : MethodName} {bytes : ByteArray} {maxL h' idx n : Nat} {rt : Option FieldType} {av : List Value} {r : Option Value × Mi × Ml} (C : Ok wk Z E cc nL own ret h) (hM : Ct wk Z (eL E) y bytes maxL rt h' av M N r) (hk : LkS own idx y bytes maxL rt n) (hh : h' < h) (hn : av.length = n) (hst : st = av.reverse ++ rest) (hW : (rest.map fun v => v.category).sum ≤ 8) (hd : decode cc pc = .ok (.invokestatic idx, 3)) {st2 : List Value} (hr2 : r.1.toList ++ rest = st2)
    (kk : GT Z E nL fin (pc + 3) lv st2 r.2.1 r.2.2 t) : GT Z E nL fin pc lv st M N t := by
  intro b hb H locs ls h1 h2 h3 h4
  subst hst; subst hr2
  exact run_GT rfl (va_runS (As := av) (rest := rest) (n := n) ⟨C.x, C.b, C.ml, C.ow, C.ts⟩ hM (va_cwS n C.ts (good_base (ws := []) _ hk.1) rfl rfl rfl hk.2.1 (room_ok C hk.2.2 hh)) ⟨pcZ_blind, pcZ_pre C h1 h2⟩ rfl hn h4.1 rfl (lv_room hW) hd ⟨cells_ok, cells_ok⟩) h2 h3 (fun H1 locs1 g1 g2 g3 => kk b hb H1 locs1 ls g1 g2 g3 h4)
theorem recvZ {ci g p : Nat} {fs : List Value} {Cn : String} {T : u_T} {n : Nat} {H : Heap} (C : Ok wk Z E cc nL own ret h) (h1 : Rep Z M N H) (hc : vwCl[ci]? = some (Cn, T, n)) (hlay : zL Z g (M g) (N g) p = some (.inr (ci, fs))) : ∃ cell : Cell, H[zA Z g p]? = some cell ∧ cell.vm.isStatics = false ∧ (eS E).vm.findClass Cn = some cell.cls :=
  va_recv (q0 := 0) C.kn.1 (sing (h1 g p _ hlay)) hc rfl
def RcV (Z : Zt) (M : Mi) (N : Ml) (a : Nat) (Cn : String) : Prop := ∃ (ci g p : Nat) (fs : List Value) (T : u_T) (n : Nat), a = zA Z g p ∧ vwCl[ci]? = some (Cn, T, n) ∧ zL Z g (M g) (N g) p = some (.inr (ci, fs))
theorem r_callV {y : MethodName} {bytes : ByteArray} {maxL h' idx n a : Nat} {rt : Option FieldType} {As : List Value} {r : Option Value × Mi × Ml} (C : Ok wk Z E cc nL own ret h) (hM : Ct wk Z (eL E) y bytes maxL rt h' (.ref a :: As) M N r) (hk : LkV own idx y bytes maxL rt n) (hv : RcV Z M N a y.cls) (hh : h' < h) (hn : As.length = n) (hst : st = As.reverse ++ .ref a :: rest) (hW : (rest.map fun v => v.category).sum ≤ 8) (hd : decode cc pc = .ok (.invokevirtual idx, 3)) {st2 : List Value} (hr2 : r.1.toList ++ rest = st2)
    (kk : GT Z E nL fin (pc + 3) lv st2 r.2.1 r.2.2 t) : GT Z E nL fin pc lv st M N t := by
  intro b hb H locs ls h1 h2 h3 h4
  obtain ⟨ci, g, p, fs, T, nn, rfl, hc, hlay⟩ := hv
  subst hst; subst hr2
  exact run_GT rfl (va_runV (As := As) (rest := rest) (n := n) ⟨C.x, C.b, C.ml, C.ow, C.ts⟩ hM (cwV n C.ts (good_base (ws := []) _ hk.1) rfl rfl rfl ⟨rfl, hk.2.1⟩ (room_ok C hk.2.2 hh)) ⟨pcZ_blind, recvZ C h1 hc hlay, pcZ_pre C h1 h2⟩ rfl hn h4.1 rfl (lv_room hW) hd ⟨cells_ok, cells_ok⟩) h2 h3 (fun H1 locs1 g1 g2 g3 => kk b hb H1 locs1 ls g1 g2 g3 h4)
/-- a static method of a nest mate -/
theorem r_callSN {y : MethodName} {host : String} {bytes : ByteArray} {maxL h' idx n : Nat} {rt : Option FieldType} {av : List Value} {r : Option Value × Mi × Ml} (C : Ok wk Z E cc nL own ret h) (hM : Ct wk Z (eL E) y bytes maxL rt h' av M N r) (i : Nat) (hi : nestM[i]? = some (own, idx, y, host)) (hw : Cond.code y bytes maxL rt ∈ base) (hini : Cond.initialized y.cls ∈ base) (hstat : Cond.static y ∈ base) (hdd : y.cls ≠ "java/lang/invoke/MethodHandle" ∧ y.cls ≠ "java/lang/invoke/VarHandle" ∧ (parseMethodDescriptor y.desc).map (fun d => d.parameters.length) = some n) (hm : maxL ≤ 11) (hh : h' < h) (hn : av.length = n) (hst : st = av.reverse ++ rest) (hW : (rest.map fun v => v.category).sum ≤ 8) (hd : decode cc pc = .ok (.invokestatic idx, 3)) {st2 : List Value} (hr2 : r.1.toList ++ rest = st2)
    (kk : GT Z E nL fin (pc + 3) lv st2 r.2.1 r.2.2 t) : GT Z E nL fin pc lv st M N t := by
  intro b hb H locs ls h1 h2 h3 h4
  subst hst; subst hr2
  exact run_GT rfl (va_runSN (As := av) (rest := rest) (n := n) ⟨C.x, C.b, C.ml, C.ow, C.ts⟩ hM ⟨va_cnB n C.ts (fun w q => by rcases List.mem_cons.mp q with rfl | q; exact goodIn_base _ hw; exact goodIn_base w q) rfl rfl rfl (C.kn.m i hi) (C.ts _ hini) hdd (room_ok C hm hh), C.ts _ hstat, trivial⟩ ⟨pcZ_blind, pcZ_pre C h1 h2⟩ rfl hn h4.1 rfl (lv_room hW) hd ⟨cells_ok, cells_ok⟩) h2 h3 (fun H1 locs1 g1 g2 g3 => kk b hb H1 locs1 ls g1 g2 g3 h4)
end MROWS
end
