section
-- ===== PART A: goes FIRST, ahead of the names: the tables' words, and 'selects' of the private methods out of them =====
/-- a private method of a class that the tables say can be made, by its rows of tables_1 -/
def lw_okq (q : MethodName × Nat) : Prop := (q.1.cls ≠ "java/lang/invoke/MethodHandle" ∧ q.1.cls ≠ "java/lang/invoke/VarHandle") ∧ Cond.instantiable q.1.cls q.2 ∈ tables_1 ∧ Cond.privateMethod q.1 ∈ tables_1 ∧ Cond.instanceMethod q.1 ∈ tables_1
theorem lw_p0 : lw_okq (⟨"TortoiseShelves", "finding", "(I)I"⟩, 8) := ⟨⟨by decide +kernel, by decide +kernel⟩, List.mem_of_getElem? (i := 15) (by decide +kernel), List.mem_of_getElem? (i := 184) (by decide +kernel), List.mem_of_getElem? (i := 185) (by decide +kernel)⟩
theorem lw_p1 : lw_okq (⟨"TortoiseShelves$Island", "aimOfLaw", "(I)I"⟩, 9) := ⟨⟨by decide +kernel, by decide +kernel⟩, List.mem_of_getElem? (i := 23) (by decide +kernel), List.mem_of_getElem? (i := 253) (by decide +kernel), List.mem_of_getElem? (i := 254) (by decide +kernel)⟩
theorem lw_p2 : lw_okq (⟨"TortoiseShelves", "areTwo", "(II)Z"⟩, 8) := ⟨⟨by decide +kernel, by decide +kernel⟩, List.mem_of_getElem? (i := 15) (by decide +kernel), List.mem_of_getElem? (i := 286) (by decide +kernel), List.mem_of_getElem? (i := 287) (by decide +kernel)⟩
theorem lw_p3 : lw_okq (⟨"TortoiseShelves$Island", "walk", "(I)V"⟩, 9) := ⟨⟨by decide +kernel, by decide +kernel⟩, List.mem_of_getElem? (i := 23) (by decide +kernel), List.mem_of_getElem? (i := 309) (by decide +kernel), List.mem_of_getElem? (i := 310) (by decide +kernel)⟩
theorem lw_p4 : lw_okq (⟨"TortoiseShelves$Island", "stepFrom", "(II)I"⟩, 9) := ⟨⟨by decide +kernel, by decide +kernel⟩, List.mem_of_getElem? (i := 23) (by decide +kernel), List.mem_of_getElem? (i := 315) (by decide +kernel), List.mem_of_getElem? (i := 316) (by decide +kernel)⟩
theorem lw_p5 : lw_okq (⟨"TortoiseShelves$Island", "meetAll", "()V"⟩, 9) := ⟨⟨by decide +kernel, by decide +kernel⟩, List.mem_of_getElem? (i := 23) (by decide +kernel), List.mem_of_getElem? (i := 320) (by decide +kernel), List.mem_of_getElem? (i := 321) (by decide +kernel)⟩
theorem lw_p6 : lw_okq (⟨"TortoiseShelves$Island", "meetTwo", "(II)V"⟩, 9) := ⟨⟨by decide +kernel, by decide +kernel⟩, List.mem_of_getElem? (i := 23) (by decide +kernel), List.mem_of_getElem? (i := 324) (by decide +kernel), List.mem_of_getElem? (i := 325) (by decide +kernel)⟩
theorem lw_p7 : lw_okq (⟨"TortoiseShelves", "hoursOrNone", "(I)I"⟩, 8) := ⟨⟨by decide +kernel, by decide +kernel⟩, List.mem_of_getElem? (i := 15) (by decide +kernel), List.mem_of_getElem? (i := 377) (by decide +kernel), List.mem_of_getElem? (i := 378) (by decide +kernel)⟩
theorem lw_p8 : lw_okq (⟨"TortoiseShelves", "askOfReader", "(II)I"⟩, 8) := ⟨⟨by decide +kernel, by decide +kernel⟩, List.mem_of_getElem? (i := 15) (by decide +kernel), List.mem_of_getElem? (i := 401) (by decide +kernel), List.mem_of_getElem? (i := 402) (by decide +kernel)⟩
theorem lw_p9 : lw_okq (⟨"TortoiseShelves$Reader", "cellsWith", "(I)I"⟩, 4) := ⟨⟨by decide +kernel, by decide +kernel⟩, List.mem_of_getElem? (i := 71) (by decide +kernel), List.mem_of_getElem? (i := 414) (by decide +kernel), List.mem_of_getElem? (i := 415) (by decide +kernel)⟩
theorem lw_p10 : lw_okq (⟨"TortoiseShelves$Reader", "onwards", "(I)I"⟩, 4) := ⟨⟨by decide +kernel, by decide +kernel⟩, List.mem_of_getElem? (i := 71) (by decide +kernel), List.mem_of_getElem? (i := 421) (by decide +kernel), List.mem_of_getElem? (i := 422) (by decide +kernel)⟩
theorem lw_p11 : lw_okq (⟨"TortoiseShelves", "placeOrNone", "(I)I"⟩, 8) := ⟨⟨by decide +kernel, by decide +kernel⟩, List.mem_of_getElem? (i := 15) (by decide +kernel), List.mem_of_getElem? (i := 432) (by decide +kernel), List.mem_of_getElem? (i := 433) (by decide +kernel)⟩
theorem lw_p12 : lw_okq (⟨"TortoiseShelves", "bestTipped", "(II)I"⟩, 8) := ⟨⟨by decide +kernel, by decide +kernel⟩, List.mem_of_getElem? (i := 15) (by decide +kernel), List.mem_of_getElem? (i := 477) (by decide +kernel), List.mem_of_getElem? (i := 478) (by decide +kernel)⟩
theorem lw_p13 : lw_okq (⟨"TortoiseShelves", "bestSpring", "(II)I"⟩, 8) := ⟨⟨by decide +kernel, by decide +kernel⟩, List.mem_of_getElem? (i := 15) (by decide +kernel), List.mem_of_getElem? (i := 485) (by decide +kernel), List.mem_of_getElem? (i := 486) (by decide +kernel)⟩
theorem lw_p14 : lw_okq (⟨"TortoiseShelves", "bestKind", "(II)I"⟩, 8) := ⟨⟨by decide +kernel, by decide +kernel⟩, List.mem_of_getElem? (i := 15) (by decide +kernel), List.mem_of_getElem? (i := 493) (by decide +kernel), List.mem_of_getElem? (i := 494) (by decide +kernel)⟩
theorem lw_p15 : lw_okq (⟨"TortoiseShelves$Tape", "nextToken", "()V"⟩, 7) := ⟨⟨by decide +kernel, by decide +kernel⟩, List.mem_of_getElem? (i := 94) (by decide +kernel), List.mem_of_getElem? (i := 517) (by decide +kernel), List.mem_of_getElem? (i := 518) (by decide +kernel)⟩
def lw_privs_1 : List (MethodName × Nat) := [(⟨"TortoiseShelves", "finding", "(I)I"⟩, 8), (⟨"TortoiseShelves$Island", "aimOfLaw", "(I)I"⟩, 9), (⟨"TortoiseShelves", "areTwo", "(II)Z"⟩, 8), (⟨"TortoiseShelves$Island", "walk", "(I)V"⟩, 9), (⟨"TortoiseShelves$Island", "stepFrom", "(II)I"⟩, 9), (⟨"TortoiseShelves$Island", "meetAll", "()V"⟩, 9), (⟨"TortoiseShelves$Island", "meetTwo", "(II)V"⟩, 9), (⟨"TortoiseShelves", "hoursOrNone", "(I)I"⟩, 8), (⟨"TortoiseShelves", "askOfReader", "(II)I"⟩, 8), (⟨"TortoiseShelves$Reader", "cellsWith", "(I)I"⟩, 4), (⟨"TortoiseShelves$Reader", "onwards", "(I)I"⟩, 4), (⟨"TortoiseShelves", "placeOrNone", "(I)I"⟩, 8), (⟨"TortoiseShelves", "bestTipped", "(II)I"⟩, 8), (⟨"TortoiseShelves", "bestSpring", "(II)I"⟩, 8), (⟨"TortoiseShelves", "bestKind", "(II)I"⟩, 8), (⟨"TortoiseShelves$Tape", "nextToken", "()V"⟩, 7)]
theorem lw_r1 : ∀ q ∈ lw_privs_1, lw_okq q := List.forall_mem_cons.mpr ⟨lw_p0, List.forall_mem_cons.mpr ⟨lw_p1, List.forall_mem_cons.mpr ⟨lw_p2, List.forall_mem_cons.mpr ⟨lw_p3, List.forall_mem_cons.mpr ⟨lw_p4, List.forall_mem_cons.mpr ⟨lw_p5, List.forall_mem_cons.mpr ⟨lw_p6, List.forall_mem_cons.mpr ⟨lw_p7, List.forall_mem_cons.mpr ⟨lw_p8, List.forall_mem_cons.mpr ⟨lw_p9, List.forall_mem_cons.mpr ⟨lw_p10, List.forall_mem_cons.mpr ⟨lw_p11, List.forall_mem_cons.mpr ⟨lw_p12, List.forall_mem_cons.mpr ⟨lw_p13, List.forall_mem_cons.mpr ⟨lw_p14, List.forall_mem_cons.mpr ⟨lw_p15, fun _ h => absurd h List.not_mem_nil⟩⟩⟩⟩⟩⟩⟩⟩⟩⟩⟩⟩⟩⟩⟩⟩
theorem lw_p16 : lw_okq (⟨"TortoiseShelves$Tape", "tellsItem", "(LTortoiseShelves$Island;)Z"⟩, 7) := ⟨⟨by decide +kernel, by decide +kernel⟩, List.mem_of_getElem? (i := 94) (by decide +kernel), List.mem_of_getElem? (i := 530) (by decide +kernel), List.mem_of_getElem? (i := 531) (by decide +kernel)⟩
theorem lw_p17 : lw_okq (⟨"TortoiseShelves$Tape", "kindTold", "()I"⟩, 7) := ⟨⟨by decide +kernel, by decide +kernel⟩, List.mem_of_getElem? (i := 94) (by decide +kernel), List.mem_of_getElem? (i := 534) (by decide +kernel), List.mem_of_getElem? (i := 535) (by decide +kernel)⟩
theorem lw_p18 : lw_okq (⟨"TortoiseShelves$Tape", "isWord", "(Ljava/lang/String;)Z"⟩, 7) := ⟨⟨by decide +kernel, by decide +kernel⟩, List.mem_of_getElem? (i := 94) (by decide +kernel), List.mem_of_getElem? (i := 547) (by decide +kernel), List.mem_of_getElem? (i := 548) (by decide +kernel)⟩
theorem lw_p19 : lw_okq (⟨"TortoiseShelves$Tape", "tellsTortoise", "(LTortoiseShelves$Island;I)Z"⟩, 7) := ⟨⟨by decide +kernel, by decide +kernel⟩, List.mem_of_getElem? (i := 94) (by decide +kernel), List.mem_of_getElem? (i := 599) (by decide +kernel), List.mem_of_getElem? (i := 600) (by decide +kernel)⟩
theorem lw_p20 : lw_okq (⟨"TortoiseShelves$Tape", "takesNumber", "(II)Z"⟩, 7) := ⟨⟨by decide +kernel, by decide +kernel⟩, List.mem_of_getElem? (i := 94) (by decide +kernel), List.mem_of_getElem? (i := 605) (by decide +kernel), List.mem_of_getElem? (i := 606) (by decide +kernel)⟩
theorem lw_p21 : lw_okq (⟨"TortoiseShelves$Tape", "tellsFence", "(LTortoiseShelves$Island;Z)Z"⟩, 7) := ⟨⟨by decide +kernel, by decide +kernel⟩, List.mem_of_getElem? (i := 94) (by decide +kernel), List.mem_of_getElem? (i := 611) (by decide +kernel), List.mem_of_getElem? (i := 612) (by decide +kernel)⟩
theorem lw_p22 : lw_okq (⟨"TortoiseShelves$Tape", "tellsRain", "(LTortoiseShelves$Island;)Z"⟩, 7) := ⟨⟨by decide +kernel, by decide +kernel⟩, List.mem_of_getElem? (i := 94) (by decide +kernel), List.mem_of_getElem? (i := 618) (by decide +kernel), List.mem_of_getElem? (i := 619) (by decide +kernel)⟩
theorem lw_p23 : lw_okq (⟨"TortoiseShelves$Tape", "tellsSpot", "(LTortoiseShelves$Island;I)Z"⟩, 7) := ⟨⟨by decide +kernel, by decide +kernel⟩, List.mem_of_getElem? (i := 94) (by decide +kernel), List.mem_of_getElem? (i := 624) (by decide +kernel), List.mem_of_getElem? (i := 625) (by decide +kernel)⟩
theorem lw_p24 : lw_okq (⟨"TortoiseShelves", "askOfSheet", "(I)I"⟩, 8) := ⟨⟨by decide +kernel, by decide +kernel⟩, List.mem_of_getElem? (i := 15) (by decide +kernel), List.mem_of_getElem? (i := 643) (by decide +kernel), List.mem_of_getElem? (i := 644) (by decide +kernel)⟩
theorem lw_p25 : lw_okq (⟨"TortoiseShelves", "laysBooks", "(LTortoiseShelves$Sheet;)I"⟩, 8) := ⟨⟨by decide +kernel, by decide +kernel⟩, List.mem_of_getElem? (i := 15) (by decide +kernel), List.mem_of_getElem? (i := 670) (by decide +kernel), List.mem_of_getElem? (i := 671) (by decide +kernel)⟩
theorem lw_p26 : lw_okq (⟨"TortoiseShelvesModel", "finds", "(I)I"⟩, 17) := ⟨⟨by decide +kernel, by decide +kernel⟩, List.mem_of_getElem? (i := 712) (by decide +kernel), List.mem_of_getElem? (i := 782) (by decide +kernel), List.mem_of_getElem? (i := 783) (by decide +kernel)⟩
theorem lw_p27 : lw_okq (⟨"TortoiseShelvesModel", "isFenced", "(I)Z"⟩, 17) := ⟨⟨by decide +kernel, by decide +kernel⟩, List.mem_of_getElem? (i := 712) (by decide +kernel), List.mem_of_getElem? (i := 786) (by decide +kernel), List.mem_of_getElem? (i := 787) (by decide +kernel)⟩
theorem lw_p28 : lw_okq (⟨"TortoiseShelvesModel", "fences", "(II)V"⟩, 17) := ⟨⟨by decide +kernel, by decide +kernel⟩, List.mem_of_getElem? (i := 712) (by decide +kernel), List.mem_of_getElem? (i := 790) (by decide +kernel), List.mem_of_getElem? (i := 791) (by decide +kernel)⟩
theorem lw_p29 : lw_okq (⟨"TortoiseShelvesModel", "becomes", "(II)I"⟩, 17) := ⟨⟨by decide +kernel, by decide +kernel⟩, List.mem_of_getElem? (i := 712) (by decide +kernel), List.mem_of_getElem? (i := 799) (by decide +kernel), List.mem_of_getElem? (i := 800) (by decide +kernel)⟩
theorem lw_p30 : lw_okq (⟨"TortoiseShelvesModel", "those", "(I)I"⟩, 17) := ⟨⟨by decide +kernel, by decide +kernel⟩, List.mem_of_getElem? (i := 712) (by decide +kernel), List.mem_of_getElem? (i := 812) (by decide +kernel), List.mem_of_getElem? (i := 813) (by decide +kernel)⟩
theorem lw_p31 : lw_okq (⟨"TortoiseShelvesModel", "its", "(II)I"⟩, 17) := ⟨⟨by decide +kernel, by decide +kernel⟩, List.mem_of_getElem? (i := 712) (by decide +kernel), List.mem_of_getElem? (i := 816) (by decide +kernel), List.mem_of_getElem? (i := 817) (by decide +kernel)⟩
def lw_privs_2 : List (MethodName × Nat) := [(⟨"TortoiseShelves$Tape", "tellsItem", "(LTortoiseShelves$Island;)Z"⟩, 7), (⟨"TortoiseShelves$Tape", "kindTold", "()I"⟩, 7), (⟨"TortoiseShelves$Tape", "isWord", "(Ljava/lang/String;)Z"⟩, 7), (⟨"TortoiseShelves$Tape", "tellsTortoise", "(LTortoiseShelves$Island;I)Z"⟩, 7), (⟨"TortoiseShelves$Tape", "takesNumber", "(II)Z"⟩, 7), (⟨"TortoiseShelves$Tape", "tellsFence", "(LTortoiseShelves$Island;Z)Z"⟩, 7), (⟨"TortoiseShelves$Tape", "tellsRain", "(LTortoiseShelves$Island;)Z"⟩, 7), (⟨"TortoiseShelves$Tape", "tellsSpot", "(LTortoiseShelves$Island;I)Z"⟩, 7), (⟨"TortoiseShelves", "askOfSheet", "(I)I"⟩, 8), (⟨"TortoiseShelves", "laysBooks", "(LTortoiseShelves$Sheet;)I"⟩, 8), (⟨"TortoiseShelvesModel", "finds", "(I)I"⟩, 17), (⟨"TortoiseShelvesModel", "isFenced", "(I)Z"⟩, 17), (⟨"TortoiseShelvesModel", "fences", "(II)V"⟩, 17), (⟨"TortoiseShelvesModel", "becomes", "(II)I"⟩, 17), (⟨"TortoiseShelvesModel", "those", "(I)I"⟩, 17), (⟨"TortoiseShelvesModel", "its", "(II)I"⟩, 17)]
theorem lw_r2 : ∀ q ∈ lw_privs_2, lw_okq q := List.forall_mem_cons.mpr ⟨lw_p16, List.forall_mem_cons.mpr ⟨lw_p17, List.forall_mem_cons.mpr ⟨lw_p18, List.forall_mem_cons.mpr ⟨lw_p19, List.forall_mem_cons.mpr ⟨lw_p20, List.forall_mem_cons.mpr ⟨lw_p21, List.forall_mem_cons.mpr ⟨lw_p22, List.forall_mem_cons.mpr ⟨lw_p23, List.forall_mem_cons.mpr ⟨lw_p24, List.forall_mem_cons.mpr ⟨lw_p25, List.forall_mem_cons.mpr ⟨lw_p26, List.forall_mem_cons.mpr ⟨lw_p27, List.forall_mem_cons.mpr ⟨lw_p28, List.forall_mem_cons.mpr ⟨lw_p29, List.forall_mem_cons.mpr ⟨lw_p30, List.forall_mem_cons.mpr ⟨lw_p31, fun _ h => absurd h List.not_mem_nil⟩⟩⟩⟩⟩⟩⟩⟩⟩⟩⟩⟩⟩⟩⟩⟩
theorem lw_p32 : lw_okq (⟨"TortoiseShelvesModel", "booksIn", "(I)I"⟩, 17) := ⟨⟨by decide +kernel, by decide +kernel⟩, List.mem_of_getElem? (i := 712) (by decide +kernel), List.mem_of_getElem? (i := 823) (by decide +kernel), List.mem_of_getElem? (i := 824) (by decide +kernel)⟩
theorem lw_p33 : lw_okq (⟨"TortoiseShelvesModel", "adds", "(III)I"⟩, 17) := ⟨⟨by decide +kernel, by decide +kernel⟩, List.mem_of_getElem? (i := 712) (by decide +kernel), List.mem_of_getElem? (i := 840) (by decide +kernel), List.mem_of_getElem? (i := 841) (by decide +kernel)⟩
theorem lw_p34 : lw_okq (⟨"TortoiseShelvesModel", "isOne", "(I)Z"⟩, 17) := ⟨⟨by decide +kernel, by decide +kernel⟩, List.mem_of_getElem? (i := 712) (by decide +kernel), List.mem_of_getElem? (i := 848) (by decide +kernel), List.mem_of_getElem? (i := 849) (by decide +kernel)⟩
theorem lw_p35 : lw_okq (⟨"TortoiseShelvesModel", "aimOf", "(I)I"⟩, 17) := ⟨⟨by decide +kernel, by decide +kernel⟩, List.mem_of_getElem? (i := 712) (by decide +kernel), List.mem_of_getElem? (i := 852) (by decide +kernel), List.mem_of_getElem? (i := 853) (by decide +kernel)⟩
theorem lw_p36 : lw_okq (⟨"TortoiseShelvesModel", "lawful", "()I"⟩, 17) := ⟨⟨by decide +kernel, by decide +kernel⟩, List.mem_of_getElem? (i := 712) (by decide +kernel), List.mem_of_getElem? (i := 856) (by decide +kernel), List.mem_of_getElem? (i := 857) (by decide +kernel)⟩
theorem lw_p37 : lw_okq (⟨"TortoiseShelvesModel", "clock", "()I"⟩, 17) := ⟨⟨by decide +kernel, by decide +kernel⟩, List.mem_of_getElem? (i := 712) (by decide +kernel), List.mem_of_getElem? (i := 860) (by decide +kernel), List.mem_of_getElem? (i := 861) (by decide +kernel)⟩
theorem lw_p38 : lw_okq (⟨"TortoiseShelvesModel", "rains", "()Z"⟩, 17) := ⟨⟨by decide +kernel, by decide +kernel⟩, List.mem_of_getElem? (i := 712) (by decide +kernel), List.mem_of_getElem? (i := 866) (by decide +kernel), List.mem_of_getElem? (i := 867) (by decide +kernel)⟩
theorem lw_p39 : lw_okq (⟨"TortoiseShelvesModel", "paceOf", "(I)I"⟩, 17) := ⟨⟨by decide +kernel, by decide +kernel⟩, List.mem_of_getElem? (i := 712) (by decide +kernel), List.mem_of_getElem? (i := 870) (by decide +kernel), List.mem_of_getElem? (i := 871) (by decide +kernel)⟩
theorem lw_p40 : lw_okq (⟨"TortoiseShelvesModel", "areTwo", "(II)Z"⟩, 17) := ⟨⟨by decide +kernel, by decide +kernel⟩, List.mem_of_getElem? (i := 712) (by decide +kernel), List.mem_of_getElem? (i := 894) (by decide +kernel), List.mem_of_getElem? (i := 895) (by decide +kernel)⟩
theorem lw_p41 : lw_okq (⟨"TortoiseShelvesModel", "lends", "(III)V"⟩, 17) := ⟨⟨by decide +kernel, by decide +kernel⟩, List.mem_of_getElem? (i := 712) (by decide +kernel), List.mem_of_getElem? (i := 904) (by decide +kernel), List.mem_of_getElem? (i := 905) (by decide +kernel)⟩
theorem lw_p42 : lw_okq (⟨"TortoiseShelvesModel", "go", "(I)V"⟩, 17) := ⟨⟨by decide +kernel, by decide +kernel⟩, List.mem_of_getElem? (i := 712) (by decide +kernel), List.mem_of_getElem? (i := 913) (by decide +kernel), List.mem_of_getElem? (i := 914) (by decide +kernel)⟩
theorem lw_p43 : lw_okq (⟨"TortoiseShelvesModel", "hour", "()V"⟩, 17) := ⟨⟨by decide +kernel, by decide +kernel⟩, List.mem_of_getElem? (i := 712) (by decide +kernel), List.mem_of_getElem? (i := 917) (by decide +kernel), List.mem_of_getElem? (i := 918) (by decide +kernel)⟩
theorem lw_p44 : lw_okq (⟨"TortoiseShelvesModel", "goes", "(I)V"⟩, 17) := ⟨⟨by decide +kernel, by decide +kernel⟩, List.mem_of_getElem? (i := 712) (by decide +kernel), List.mem_of_getElem? (i := 921) (by decide +kernel), List.mem_of_getElem? (i := 922) (by decide +kernel)⟩
theorem lw_p45 : lw_okq (⟨"TortoiseShelvesModel", "nearer", "(II)I"⟩, 17) := ⟨⟨by decide +kernel, by decide +kernel⟩, List.mem_of_getElem? (i := 712) (by decide +kernel), List.mem_of_getElem? (i := 925) (by decide +kernel), List.mem_of_getElem? (i := 926) (by decide +kernel)⟩
theorem lw_p46 : lw_okq (⟨"TortoiseShelvesModel", "meets", "(II)V"⟩, 17) := ⟨⟨by decide +kernel, by decide +kernel⟩, List.mem_of_getElem? (i := 712) (by decide +kernel), List.mem_of_getElem? (i := 929) (by decide +kernel), List.mem_of_getElem? (i := 930) (by decide +kernel)⟩
theorem lw_p47 : lw_okq (⟨"TortoiseShelvesModel", "allBooks", "()I"⟩, 17) := ⟨⟨by decide +kernel, by decide +kernel⟩, List.mem_of_getElem? (i := 712) (by decide +kernel), List.mem_of_getElem? (i := 936) (by decide +kernel), List.mem_of_getElem? (i := 937) (by decide +kernel)⟩
def lw_privs_3 : List (MethodName × Nat) := [(⟨"TortoiseShelvesModel", "booksIn", "(I)I"⟩, 17), (⟨"TortoiseShelvesModel", "adds", "(III)I"⟩, 17), (⟨"TortoiseShelvesModel", "isOne", "(I)Z"⟩, 17), (⟨"TortoiseShelvesModel", "aimOf", "(I)I"⟩, 17), (⟨"TortoiseShelvesModel", "lawful", "()I"⟩, 17), (⟨"TortoiseShelvesModel", "clock", "()I"⟩, 17), (⟨"TortoiseShelvesModel", "rains", "()Z"⟩, 17), (⟨"TortoiseShelvesModel", "paceOf", "(I)I"⟩, 17), (⟨"TortoiseShelvesModel", "areTwo", "(II)Z"⟩, 17), (⟨"TortoiseShelvesModel", "lends", "(III)V"⟩, 17), (⟨"TortoiseShelvesModel", "go", "(I)V"⟩, 17), (⟨"TortoiseShelvesModel", "hour", "()V"⟩, 17), (⟨"TortoiseShelvesModel", "goes", "(I)V"⟩, 17), (⟨"TortoiseShelvesModel", "nearer", "(II)I"⟩, 17), (⟨"TortoiseShelvesModel", "meets", "(II)V"⟩, 17), (⟨"TortoiseShelvesModel", "allBooks", "()I"⟩, 17)]
theorem lw_r3 : ∀ q ∈ lw_privs_3, lw_okq q := List.forall_mem_cons.mpr ⟨lw_p32, List.forall_mem_cons.mpr ⟨lw_p33, List.forall_mem_cons.mpr ⟨lw_p34, List.forall_mem_cons.mpr ⟨lw_p35, List.forall_mem_cons.mpr ⟨lw_p36, List.forall_mem_cons.mpr ⟨lw_p37, List.forall_mem_cons.mpr ⟨lw_p38, List.forall_mem_cons.mpr ⟨lw_p39, List.forall_mem_cons.mpr ⟨lw_p40, List.forall_mem_cons.mpr ⟨lw_p41, List.forall_mem_cons.mpr ⟨lw_p42, List.forall_mem_cons.mpr ⟨lw_p43, List.forall_mem_cons.mpr ⟨lw_p44, List.forall_mem_cons.mpr ⟨lw_p45, List.forall_mem_cons.mpr ⟨lw_p46, List.forall_mem_cons.mpr ⟨lw_p47, fun _ h => absurd h List.not_mem_nil⟩⟩⟩⟩⟩⟩⟩⟩⟩⟩⟩⟩⟩⟩⟩⟩
theorem lw_p48 : lw_okq (⟨"TortoiseShelvesModel", "allSubjects", "()I"⟩, 17) := ⟨⟨by decide +kernel, by decide +kernel⟩, List.mem_of_getElem? (i := 712) (by decide +kernel), List.mem_of_getElem? (i := 944) (by decide +kernel), List.mem_of_getElem? (i := 945) (by decide +kernel)⟩
theorem lw_p49 : lw_okq (⟨"TortoiseShelvesModel", "allCells", "()I"⟩, 17) := ⟨⟨by decide +kernel, by decide +kernel⟩, List.mem_of_getElem? (i := 712) (by decide +kernel), List.mem_of_getElem? (i := 948) (by decide +kernel), List.mem_of_getElem? (i := 949) (by decide +kernel)⟩
theorem lw_p50 : lw_okq (⟨"TortoiseShelvesModel", "laysAside", "()V"⟩, 17) := ⟨⟨by decide +kernel, by decide +kernel⟩, List.mem_of_getElem? (i := 712) (by decide +kernel), List.mem_of_getElem? (i := 956) (by decide +kernel), List.mem_of_getElem? (i := 957) (by decide +kernel)⟩
theorem lw_p51 : lw_okq (⟨"TortoiseShelvesModel", "takesBack", "(I)I"⟩, 17) := ⟨⟨by decide +kernel, by decide +kernel⟩, List.mem_of_getElem? (i := 712) (by decide +kernel), List.mem_of_getElem? (i := 960) (by decide +kernel), List.mem_of_getElem? (i := 961) (by decide +kernel)⟩
theorem lw_p52 : lw_okq (⟨"TortoiseShelvesModel", "whenOf", "(II)I"⟩, 17) := ⟨⟨by decide +kernel, by decide +kernel⟩, List.mem_of_getElem? (i := 712) (by decide +kernel), List.mem_of_getElem? (i := 968) (by decide +kernel), List.mem_of_getElem? (i := 969) (by decide +kernel)⟩
theorem lw_p53 : lw_okq (⟨"TortoiseShelvesModel", "orNone", "(II)I"⟩, 17) := ⟨⟨by decide +kernel, by decide +kernel⟩, List.mem_of_getElem? (i := 712) (by decide +kernel), List.mem_of_getElem? (i := 972) (by decide +kernel), List.mem_of_getElem? (i := 973) (by decide +kernel)⟩
theorem lw_p54 : lw_okq (⟨"TortoiseShelvesModel", "carriers", "(I)I"⟩, 17) := ⟨⟨by decide +kernel, by decide +kernel⟩, List.mem_of_getElem? (i := 712) (by decide +kernel), List.mem_of_getElem? (i := 984) (by decide +kernel), List.mem_of_getElem? (i := 985) (by decide +kernel)⟩
theorem lw_p55 : lw_okq (⟨"TortoiseShelvesModel", "wrongReader", "(II)I"⟩, 17) := ⟨⟨by decide +kernel, by decide +kernel⟩, List.mem_of_getElem? (i := 712) (by decide +kernel), List.mem_of_getElem? (i := 992) (by decide +kernel), List.mem_of_getElem? (i := 993) (by decide +kernel)⟩
theorem lw_p56 : lw_okq (⟨"TortoiseShelvesModel", "soonestOf", "(II)I"⟩, 17) := ⟨⟨by decide +kernel, by decide +kernel⟩, List.mem_of_getElem? (i := 712) (by decide +kernel), List.mem_of_getElem? (i := 996) (by decide +kernel), List.mem_of_getElem? (i := 997) (by decide +kernel)⟩
theorem lw_p57 : lw_okq (⟨"TortoiseShelvesModel", "places", "(I)I"⟩, 17) := ⟨⟨by decide +kernel, by decide +kernel⟩, List.mem_of_getElem? (i := 712) (by decide +kernel), List.mem_of_getElem? (i := 1000) (by decide +kernel), List.mem_of_getElem? (i := 1001) (by decide +kernel)⟩
theorem lw_p58 : lw_okq (⟨"TortoiseShelvesModel", "spread", "(I)I"⟩, 17) := ⟨⟨by decide +kernel, by decide +kernel⟩, List.mem_of_getElem? (i := 712) (by decide +kernel), List.mem_of_getElem? (i := 1004) (by decide +kernel), List.mem_of_getElem? (i := 1005) (by decide +kernel)⟩
theorem lw_p59 : lw_okq (⟨"TortoiseShelvesModel", "open", "()I"⟩, 17) := ⟨⟨by decide +kernel, by decide +kernel⟩, List.mem_of_getElem? (i := 712) (by decide +kernel), List.mem_of_getElem? (i := 1008) (by decide +kernel), List.mem_of_getElem? (i := 1009) (by decide +kernel)⟩
theorem lw_p60 : lw_okq (⟨"TortoiseShelvesModel", "saves", "()V"⟩, 17) := ⟨⟨by decide +kernel, by decide +kernel⟩, List.mem_of_getElem? (i := 712) (by decide +kernel), List.mem_of_getElem? (i := 1066) (by decide +kernel), List.mem_of_getElem? (i := 1067) (by decide +kernel)⟩
theorem lw_p61 : lw_okq (⟨"TortoiseShelvesModel", "token", "()V"⟩, 17) := ⟨⟨by decide +kernel, by decide +kernel⟩, List.mem_of_getElem? (i := 712) (by decide +kernel), List.mem_of_getElem? (i := 1070) (by decide +kernel), List.mem_of_getElem? (i := 1071) (by decide +kernel)⟩
theorem lw_p62 : lw_okq (⟨"TortoiseShelvesModel", "byteAt", "(I)I"⟩, 17) := ⟨⟨by decide +kernel, by decide +kernel⟩, List.mem_of_getElem? (i := 712) (by decide +kernel), List.mem_of_getElem? (i := 1074) (by decide +kernel), List.mem_of_getElem? (i := 1075) (by decide +kernel)⟩
theorem lw_p63 : lw_okq (⟨"TortoiseShelvesModel", "item", "()V"⟩, 17) := ⟨⟨by decide +kernel, by decide +kernel⟩, List.mem_of_getElem? (i := 712) (by decide +kernel), List.mem_of_getElem? (i := 1087) (by decide +kernel), List.mem_of_getElem? (i := 1088) (by decide +kernel)⟩
def lw_privs_4 : List (MethodName × Nat) := [(⟨"TortoiseShelvesModel", "allSubjects", "()I"⟩, 17), (⟨"TortoiseShelvesModel", "allCells", "()I"⟩, 17), (⟨"TortoiseShelvesModel", "laysAside", "()V"⟩, 17), (⟨"TortoiseShelvesModel", "takesBack", "(I)I"⟩, 17), (⟨"TortoiseShelvesModel", "whenOf", "(II)I"⟩, 17), (⟨"TortoiseShelvesModel", "orNone", "(II)I"⟩, 17), (⟨"TortoiseShelvesModel", "carriers", "(I)I"⟩, 17), (⟨"TortoiseShelvesModel", "wrongReader", "(II)I"⟩, 17), (⟨"TortoiseShelvesModel", "soonestOf", "(II)I"⟩, 17), (⟨"TortoiseShelvesModel", "places", "(I)I"⟩, 17), (⟨"TortoiseShelvesModel", "spread", "(I)I"⟩, 17), (⟨"TortoiseShelvesModel", "open", "()I"⟩, 17), (⟨"TortoiseShelvesModel", "saves", "()V"⟩, 17), (⟨"TortoiseShelvesModel", "token", "()V"⟩, 17), (⟨"TortoiseShelvesModel", "byteAt", "(I)I"⟩, 17), (⟨"TortoiseShelvesModel", "item", "()V"⟩, 17)]
theorem lw_r4 : ∀ q ∈ lw_privs_4, lw_okq q := List.forall_mem_cons.mpr ⟨lw_p48, List.forall_mem_cons.mpr ⟨lw_p49, List.forall_mem_cons.mpr ⟨lw_p50, List.forall_mem_cons.mpr ⟨lw_p51, List.forall_mem_cons.mpr ⟨lw_p52, List.forall_mem_cons.mpr ⟨lw_p53, List.forall_mem_cons.mpr ⟨lw_p54, List.forall_mem_cons.mpr ⟨lw_p55, List.forall_mem_cons.mpr ⟨lw_p56, List.forall_mem_cons.mpr ⟨lw_p57, List.forall_mem_cons.mpr ⟨lw_p58, List.forall_mem_cons.mpr ⟨lw_p59, List.forall_mem_cons.mpr ⟨lw_p60, List.forall_mem_cons.mpr ⟨lw_p61, List.forall_mem_cons.mpr ⟨lw_p62, List.forall_mem_cons.mpr ⟨lw_p63, fun _ h => absurd h List.not_mem_nil⟩⟩⟩⟩⟩⟩⟩⟩⟩⟩⟩⟩⟩⟩⟩⟩
theorem lw_p64 : lw_okq (⟨"TortoiseShelvesModel", "kindHere", "()I"⟩, 17) := ⟨⟨by decide +kernel, by decide +kernel⟩, List.mem_of_getElem? (i := 712) (by decide +kernel), List.mem_of_getElem? (i := 1091) (by decide +kernel), List.mem_of_getElem? (i := 1092) (by decide +kernel)⟩
theorem lw_p65 : lw_okq (⟨"TortoiseShelvesModel", "word", "()J"⟩, 17) := ⟨⟨by decide +kernel, by decide +kernel⟩, List.mem_of_getElem? (i := 712) (by decide +kernel), List.mem_of_getElem? (i := 1095) (by decide +kernel), List.mem_of_getElem? (i := 1096) (by decide +kernel)⟩
theorem lw_p66 : lw_okq (⟨"TortoiseShelvesModel", "tortoiseItem", "(I)V"⟩, 17) := ⟨⟨by decide +kernel, by decide +kernel⟩, List.mem_of_getElem? (i := 712) (by decide +kernel), List.mem_of_getElem? (i := 1107) (by decide +kernel), List.mem_of_getElem? (i := 1108) (by decide +kernel)⟩
theorem lw_p67 : lw_okq (⟨"TortoiseShelvesModel", "wants", "(Z)V"⟩, 17) := ⟨⟨by decide +kernel, by decide +kernel⟩, List.mem_of_getElem? (i := 712) (by decide +kernel), List.mem_of_getElem? (i := 1111) (by decide +kernel), List.mem_of_getElem? (i := 1112) (by decide +kernel)⟩
theorem lw_p68 : lw_okq (⟨"TortoiseShelvesModel", "cellHere", "()V"⟩, 17) := ⟨⟨by decide +kernel, by decide +kernel⟩, List.mem_of_getElem? (i := 712) (by decide +kernel), List.mem_of_getElem? (i := 1116) (by decide +kernel), List.mem_of_getElem? (i := 1117) (by decide +kernel)⟩
theorem lw_p69 : lw_okq (⟨"TortoiseShelvesModel", "number", "(II)V"⟩, 17) := ⟨⟨by decide +kernel, by decide +kernel⟩, List.mem_of_getElem? (i := 712) (by decide +kernel), List.mem_of_getElem? (i := 1120) (by decide +kernel), List.mem_of_getElem? (i := 1121) (by decide +kernel)⟩
theorem lw_p70 : lw_okq (⟨"TortoiseShelvesModel", "fenceItem", "(I)V"⟩, 17) := ⟨⟨by decide +kernel, by decide +kernel⟩, List.mem_of_getElem? (i := 712) (by decide +kernel), List.mem_of_getElem? (i := 1126) (by decide +kernel), List.mem_of_getElem? (i := 1127) (by decide +kernel)⟩
theorem lw_p71 : lw_okq (⟨"TortoiseShelvesModel", "rainItem", "()V"⟩, 17) := ⟨⟨by decide +kernel, by decide +kernel⟩, List.mem_of_getElem? (i := 712) (by decide +kernel), List.mem_of_getElem? (i := 1131) (by decide +kernel), List.mem_of_getElem? (i := 1132) (by decide +kernel)⟩
theorem lw_p72 : lw_okq (⟨"TortoiseShelvesModel", "placeHere", "()I"⟩, 17) := ⟨⟨by decide +kernel, by decide +kernel⟩, List.mem_of_getElem? (i := 712) (by decide +kernel), List.mem_of_getElem? (i := 1136) (by decide +kernel), List.mem_of_getElem? (i := 1137) (by decide +kernel)⟩
theorem lw_p73 : lw_okq (⟨"TortoiseShelvesModel", "placeItem", "(I)V"⟩, 17) := ⟨⟨by decide +kernel, by decide +kernel⟩, List.mem_of_getElem? (i := 712) (by decide +kernel), List.mem_of_getElem? (i := 1143) (by decide +kernel), List.mem_of_getElem? (i := 1144) (by decide +kernel)⟩
theorem lw_p74 : lw_okq (⟨"TortoiseShelvesModel", "putsBack", "()V"⟩, 17) := ⟨⟨by decide +kernel, by decide +kernel⟩, List.mem_of_getElem? (i := 712) (by decide +kernel), List.mem_of_getElem? (i := 1147) (by decide +kernel), List.mem_of_getElem? (i := 1148) (by decide +kernel)⟩
theorem lw_p75 : lw_okq (⟨"TortoiseShelvesModel", "wrong", "(I)I"⟩, 17) := ⟨⟨by decide +kernel, by decide +kernel⟩, List.mem_of_getElem? (i := 712) (by decide +kernel), List.mem_of_getElem? (i := 1164) (by decide +kernel), List.mem_of_getElem? (i := 1165) (by decide +kernel)⟩
theorem lw_p76 : lw_okq (⟨"TortoiseShelvesModel", "wrongBook", "(II)I"⟩, 17) := ⟨⟨by decide +kernel, by decide +kernel⟩, List.mem_of_getElem? (i := 712) (by decide +kernel), List.mem_of_getElem? (i := 1184) (by decide +kernel), List.mem_of_getElem? (i := 1185) (by decide +kernel)⟩
theorem lw_p77 : lw_okq (⟨"TortoiseShelvesModel", "isSo", "(II)I"⟩, 17) := ⟨⟨by decide +kernel, by decide +kernel⟩, List.mem_of_getElem? (i := 712) (by decide +kernel), List.mem_of_getElem? (i := 1192) (by decide +kernel), List.mem_of_getElem? (i := 1193) (by decide +kernel)⟩
theorem lw_p78 : lw_okq (⟨"TortoiseShelvesModel", "tipped", "()I"⟩, 17) := ⟨⟨by decide +kernel, by decide +kernel⟩, List.mem_of_getElem? (i := 712) (by decide +kernel), List.mem_of_getElem? (i := 1212) (by decide +kernel), List.mem_of_getElem? (i := 1213) (by decide +kernel)⟩
def lw_privs_5 : List (MethodName × Nat) := [(⟨"TortoiseShelvesModel", "kindHere", "()I"⟩, 17), (⟨"TortoiseShelvesModel", "word", "()J"⟩, 17), (⟨"TortoiseShelvesModel", "tortoiseItem", "(I)V"⟩, 17), (⟨"TortoiseShelvesModel", "wants", "(Z)V"⟩, 17), (⟨"TortoiseShelvesModel", "cellHere", "()V"⟩, 17), (⟨"TortoiseShelvesModel", "number", "(II)V"⟩, 17), (⟨"TortoiseShelvesModel", "fenceItem", "(I)V"⟩, 17), (⟨"TortoiseShelvesModel", "rainItem", "()V"⟩, 17), (⟨"TortoiseShelvesModel", "placeHere", "()I"⟩, 17), (⟨"TortoiseShelvesModel", "placeItem", "(I)V"⟩, 17), (⟨"TortoiseShelvesModel", "putsBack", "()V"⟩, 17), (⟨"TortoiseShelvesModel", "wrong", "(I)I"⟩, 17), (⟨"TortoiseShelvesModel", "wrongBook", "(II)I"⟩, 17), (⟨"TortoiseShelvesModel", "isSo", "(II)I"⟩, 17), (⟨"TortoiseShelvesModel", "tipped", "()I"⟩, 17)]
theorem lw_r5 : ∀ q ∈ lw_privs_5, lw_okq q := List.forall_mem_cons.mpr ⟨lw_p64, List.forall_mem_cons.mpr ⟨lw_p65, List.forall_mem_cons.mpr ⟨lw_p66, List.forall_mem_cons.mpr ⟨lw_p67, List.forall_mem_cons.mpr ⟨lw_p68, List.forall_mem_cons.mpr ⟨lw_p69, List.forall_mem_cons.mpr ⟨lw_p70, List.forall_mem_cons.mpr ⟨lw_p71, List.forall_mem_cons.mpr ⟨lw_p72, List.forall_mem_cons.mpr ⟨lw_p73, List.forall_mem_cons.mpr ⟨lw_p74, List.forall_mem_cons.mpr ⟨lw_p75, List.forall_mem_cons.mpr ⟨lw_p76, List.forall_mem_cons.mpr ⟨lw_p77, List.forall_mem_cons.mpr ⟨lw_p78, fun _ h => absurd h List.not_mem_nil⟩⟩⟩⟩⟩⟩⟩⟩⟩⟩⟩⟩⟩⟩⟩
def lw_privs : List (MethodName × Nat) := lw_privs_1 ++ (lw_privs_2 ++ (lw_privs_3 ++ (lw_privs_4 ++ (lw_privs_5))))
def lw_tbl : List Cond := k2_sels lw_privs ++ tables_1
theorem lw_privs_ok : ∀ q ∈ lw_privs, lw_okq q := by
  show ∀ q ∈ lw_privs_1 ++ (lw_privs_2 ++ (lw_privs_3 ++ (lw_privs_4 ++ (lw_privs_5)))), lw_okq q
  exact List.forall_mem_append.mpr ⟨lw_r1, List.forall_mem_append.mpr ⟨lw_r2, List.forall_mem_append.mpr ⟨lw_r3, List.forall_mem_append.mpr ⟨lw_r4, lw_r5⟩⟩⟩⟩
end
section
def RX0 : String := "TortoiseShelves$Island"
def TX0 : u_T := fun k => match k with
  | 0 => ("TortoiseShelves$Island", "fencedCells", "I", false)
  | 1 => ("TortoiseShelves$Island", "wetClocks", "I", false)
  | 2 => ("TortoiseShelves$Island", "hour", "I", false)
  | 3 => ("TortoiseShelves$Island", "size", "I", false)
  | 4 => ("TortoiseShelves$Island", "spots", "[I", true)
  | 5 => ("TortoiseShelves$Island", "kinds", "[I", true)
  | 6 => ("TortoiseShelves$Island", "cells", "[I", true)
  | 7 => ("TortoiseShelves$Island", "books", "[I", true)
  | _ => ("TortoiseShelves$Island", "tipped", "[Z", true)
def tyX0 : Nat → FieldType := fun k => match k with
  | 0 => .int
  | 1 => .int
  | 2 => .int
  | 3 => .int
  | 4 => .array .int
  | 5 => .array .int
  | 6 => .array .int
  | 7 => .array .int
  | _ => .array .boolean
theorem nmX0 : ∀ a, a < 9 → ∀ b, b < 9 → a ≠ b → (TX0 a).2.1 ≠ (TX0 b).2.1 := by decide +kernel
theorem tyX0_ok : ∀ k, k < 9 → parseFieldDescriptor (TX0 k).2.2.1 = some (tyX0 k) := by decide +kernel
abbrev cX0_init : ByteArray := prog_2_method_1_code
def yX0_init : MethodName := ⟨RX0, "<init>", "()V"⟩
abbrev cX0_becomes : ByteArray := prog_2_method_2_code
def yX0_becomes : MethodName := ⟨RX0, "becomes", "(LTortoiseShelves$Island;)V"⟩
abbrev cX0_has : ByteArray := prog_2_method_3_code
def yX0_has : MethodName := ⟨RX0, "has", "(I)Z"⟩
abbrev cX0_isFull : ByteArray := prog_2_method_4_code
def yX0_isFull : MethodName := ⟨RX0, "isFull", "()Z"⟩
abbrev cX0_comes : ByteArray := prog_2_method_5_code
def yX0_comes : MethodName := ⟨RX0, "comes", "(III)I"⟩
abbrev cX0_isFenced : ByteArray := prog_2_method_6_code
def yX0_isFenced : MethodName := ⟨RX0, "isFenced", "(I)Z"⟩
abbrev cX0_fences : ByteArray := prog_2_method_7_code
def yX0_fences : MethodName := ⟨RX0, "fences", "(IZ)V"⟩
abbrev cX0_clock : ByteArray := prog_2_method_8_code
def yX0_clock : MethodName := ⟨RX0, "clock", "()I"⟩
abbrev cX0_rainsAt : ByteArray := prog_2_method_9_code
def yX0_rainsAt : MethodName := ⟨RX0, "rainsAt", "(I)Z"⟩
abbrev cX0_allTortoises : ByteArray := prog_2_method_10_code
def yX0_allTortoises : MethodName := ⟨RX0, "allTortoises", "()I"⟩
abbrev cX0_tortoisesIn : ByteArray := prog_2_method_11_code
def yX0_tortoisesIn : MethodName := ⟨RX0, "tortoisesIn", "(I)I"⟩
abbrev cX0_tortoisesWith : ByteArray := prog_2_method_12_code
def yX0_tortoisesWith : MethodName := ⟨RX0, "tortoisesWith", "(I)I"⟩
abbrev cX0_cellsOf : ByteArray := prog_2_method_13_code
def yX0_cellsOf : MethodName := ⟨RX0, "cellsOf", "(I)I"⟩
abbrev cX0_subjectsIn : ByteArray := prog_2_method_14_code
def yX0_subjectsIn : MethodName := ⟨RX0, "subjectsIn", "(I)I"⟩
abbrev cX0_booksOfAll : ByteArray := prog_2_method_15_code
def yX0_booksOfAll : MethodName := ⟨RX0, "booksOfAll", "()I"⟩
abbrev cX0_tippedOnes : ByteArray := prog_2_method_16_code
def yX0_tippedOnes : MethodName := ⟨RX0, "tippedOnes", "()I"⟩
abbrev cX0_aimOf : ByteArray := prog_2_method_17_code
def yX0_aimOf : MethodName := ⟨RX0, "aimOf", "(I)I"⟩
abbrev cX0_aimOfLaw : ByteArray := prog_2_method_18_code
def yX0_aimOfLaw : MethodName := ⟨RX0, "aimOfLaw", "(I)I"⟩
abbrev cX0_paceOf : ByteArray := prog_2_method_19_code
def yX0_paceOf : MethodName := ⟨RX0, "paceOf", "(I)I"⟩
abbrev cX0_goHours : ByteArray := prog_2_method_20_code
def yX0_goHours : MethodName := ⟨RX0, "goHours", "(I)V"⟩
abbrev cX0_goAnHour : ByteArray := prog_2_method_21_code
def yX0_goAnHour : MethodName := ⟨RX0, "goAnHour", "()V"⟩
abbrev cX0_goAlone : ByteArray := prog_2_method_22_code
def yX0_goAlone : MethodName := ⟨RX0, "goAlone", "(I)V"⟩
abbrev cX0_walk : ByteArray := prog_2_method_23_code
def yX0_walk : MethodName := ⟨RX0, "walk", "(I)V"⟩
abbrev cX0_stepFrom : ByteArray := prog_2_method_24_code
def yX0_stepFrom : MethodName := ⟨RX0, "stepFrom", "(II)I"⟩
abbrev cX0_meetAll : ByteArray := prog_2_method_25_code
def yX0_meetAll : MethodName := ⟨RX0, "meetAll", "()V"⟩
abbrev cX0_meetTwo : ByteArray := prog_2_method_26_code
def yX0_meetTwo : MethodName := ⟨RX0, "meetTwo", "(II)V"⟩
abbrev cX0_handsOver : ByteArray := prog_2_method_27_code
def yX0_handsOver : MethodName := ⟨RX0, "handsOver", "(III)V"⟩
abbrev cX0_hoursTill : ByteArray := prog_2_method_28_code
def yX0_hoursTill : MethodName := ⟨RX0, "hoursTill", "(III)I"⟩
abbrev cX0_hoursTillTogether : ByteArray := prog_2_method_29_code
def yX0_hoursTillTogether : MethodName := ⟨RX0, "hoursTillTogether", "(III)I"⟩
abbrev cX0_goesAsIn : ByteArray := prog_2_method_30_code
def yX0_goesAsIn : MethodName := ⟨RX0, "goesAsIn", "(LTortoiseShelves$Sheet;I)Z"⟩
def RX1 : String := "TortoiseShelves$Reader"
def TX1 : u_T := fun k => match k with
  | 0 => ("TortoiseShelves$Reader", "isle", "LTortoiseShelves$Island;", true)
  | 1 => ("TortoiseShelves$Reader", "reach", "I", false)
  | 2 => ("TortoiseShelves$Reader", "readsIn", "I", false)
  | _ => ("TortoiseShelves$Reader", "stays", "Z", false)
def tyX1 : Nat → FieldType := fun k => match k with
  | 0 => .object "TortoiseShelves$Island"
  | 1 => .int
  | 2 => .int
  | _ => .boolean
theorem nmX1 : ∀ a, a < 4 → ∀ b, b < 4 → a ≠ b → (TX1 a).2.1 ≠ (TX1 b).2.1 := by decide +kernel
theorem tyX1_ok : ∀ k, k < 4 → parseFieldDescriptor (TX1 k).2.2.1 = some (tyX1 k) := by decide +kernel
abbrev cX1_init : ByteArray := prog_3_method_1_code
def yX1_init : MethodName := ⟨RX1, "<init>", "()V"⟩
abbrev cX1_goesFrom : ByteArray := prog_3_method_2_code
def yX1_goesFrom : MethodName := ⟨RX1, "goesFrom", "(ILTortoiseShelves$Island;)V"⟩
abbrev cX1_staysInOneOf : ByteArray := prog_3_method_3_code
def yX1_staysInOneOf : MethodName := ⟨RX1, "staysInOneOf", "(ILTortoiseShelves$Island;)V"⟩
abbrev cX1_seek : ByteArray := prog_3_method_4_code
def yX1_seek : MethodName := ⟨RX1, "seek", "(II)I"⟩
abbrev cX1_seekTwo : ByteArray := prog_3_method_5_code
def yX1_seekTwo : MethodName := ⟨RX1, "seekTwo", "(III)I"⟩
abbrev cX1_subjectsWithin : ByteArray := prog_3_method_6_code
def yX1_subjectsWithin : MethodName := ⟨RX1, "subjectsWithin", "(I)I"⟩
abbrev cX1_cellsWith : ByteArray := prog_3_method_7_code
def yX1_cellsWith : MethodName := ⟨RX1, "cellsWith", "(I)I"⟩
abbrev cX1_onwards : ByteArray := prog_3_method_8_code
def yX1_onwards : MethodName := ⟨RX1, "onwards", "(I)I"⟩
def RX2 : String := "TortoiseShelves$Sheet"
def TX2 : u_T := fun k => match k with
  | 0 => ("TortoiseShelves$Sheet", "numbers", "[J", true)
  | 1 => ("TortoiseShelves$Sheet", "bits", "I", false)
  | _ => ("TortoiseShelves$Sheet", "length", "I", false)
def tyX2 : Nat → FieldType := fun k => match k with
  | 0 => .array .long
  | 1 => .int
  | _ => .int
theorem nmX2 : ∀ a, a < 3 → ∀ b, b < 3 → a ≠ b → (TX2 a).2.1 ≠ (TX2 b).2.1 := by decide +kernel
theorem tyX2_ok : ∀ k, k < 3 → parseFieldDescriptor (TX2 k).2.2.1 = some (tyX2 k) := by decide +kernel
abbrev cX2_init : ByteArray := prog_4_method_1_code
def yX2_init : MethodName := ⟨RX2, "<init>", "()V"⟩
abbrev cX2_isMissing : ByteArray := prog_4_method_2_code
def yX2_isMissing : MethodName := ⟨RX2, "isMissing", "()Z"⟩
abbrev cX2_becomesBlank : ByteArray := prog_4_method_3_code
def yX2_becomesBlank : MethodName := ⟨RX2, "becomesBlank", "(II)V"⟩
abbrev cX2_lowestBits : ByteArray := prog_4_method_4_code
def yX2_lowestBits : MethodName := ⟨RX2, "lowestBits", "(J)J"⟩
abbrev cX2_hasFrom : ByteArray := prog_4_method_5_code
def yX2_hasFrom : MethodName := ⟨RX2, "hasFrom", "(II)Z"⟩
def RX3 : String := "TortoiseShelves$Tape"
def TX3 : u_T := fun k => match k with
  | 0 => ("TortoiseShelves$Tape", "bytes", "[I", true)
  | 1 => ("TortoiseShelves$Tape", "length", "I", false)
  | 2 => ("TortoiseShelves$Tape", "token", "I", false)
  | 3 => ("TortoiseShelves$Tape", "tokenAt", "I", false)
  | 4 => ("TortoiseShelves$Tape", "tokenEnd", "I", false)
  | 5 => ("TortoiseShelves$Tape", "number", "I", false)
  | _ => ("TortoiseShelves$Tape", "taken", "I", false)
def tyX3 : Nat → FieldType := fun k => match k with
  | 0 => .array .int
  | 1 => .int
  | 2 => .int
  | 3 => .int
  | 4 => .int
  | 5 => .int
  | _ => .int
theorem nmX3 : ∀ a, a < 7 → ∀ b, b < 7 → a ≠ b → (TX3 a).2.1 ≠ (TX3 b).2.1 := by decide +kernel
theorem tyX3_ok : ∀ k, k < 7 → parseFieldDescriptor (TX3 k).2.2.1 = some (tyX3 k) := by decide +kernel
abbrev cX3_init : ByteArray := prog_5_method_1_code
def yX3_init : MethodName := ⟨RX3, "<init>", "()V"⟩
abbrev cX3_takes : ByteArray := prog_5_method_2_code
def yX3_takes : MethodName := ⟨RX3, "takes", "(II)V"⟩
abbrev cX3_tellsTo : ByteArray := prog_5_method_3_code
def yX3_tellsTo : MethodName := ⟨RX3, "tellsTo", "(LTortoiseShelves$Island;)I"⟩
abbrev cX3_tellsItem : ByteArray := prog_5_method_4_code
def yX3_tellsItem : MethodName := ⟨RX3, "tellsItem", "(LTortoiseShelves$Island;)Z"⟩
abbrev cX3_kindTold : ByteArray := prog_5_method_5_code
def yX3_kindTold : MethodName := ⟨RX3, "kindTold", "()I"⟩
abbrev cX3_nameOf : ByteArray := prog_5_method_6_code
def yX3_nameOf : MethodName := ⟨RX3, "nameOf", "(I)Ljava/lang/String;"⟩
abbrev cX3_tellsTortoise : ByteArray := prog_5_method_7_code
def yX3_tellsTortoise : MethodName := ⟨RX3, "tellsTortoise", "(LTortoiseShelves$Island;I)Z"⟩
abbrev cX3_tellsFence : ByteArray := prog_5_method_8_code
def yX3_tellsFence : MethodName := ⟨RX3, "tellsFence", "(LTortoiseShelves$Island;Z)Z"⟩
abbrev cX3_tellsRain : ByteArray := prog_5_method_9_code
def yX3_tellsRain : MethodName := ⟨RX3, "tellsRain", "(LTortoiseShelves$Island;)Z"⟩
abbrev cX3_tellsSpot : ByteArray := prog_5_method_10_code
def yX3_tellsSpot : MethodName := ⟨RX3, "tellsSpot", "(LTortoiseShelves$Island;I)Z"⟩
abbrev cX3_takesNumber : ByteArray := prog_5_method_11_code
def yX3_takesNumber : MethodName := ⟨RX3, "takesNumber", "(II)Z"⟩
abbrev cX3_isWord : ByteArray := prog_5_method_12_code
def yX3_isWord : MethodName := ⟨RX3, "isWord", "(Ljava/lang/String;)Z"⟩
abbrev cX3_nextToken : ByteArray := prog_5_method_13_code
def yX3_nextToken : MethodName := ⟨RX3, "nextToken", "()V"⟩
abbrev cX3_isLetter : ByteArray := prog_5_method_14_code
def yX3_isLetter : MethodName := ⟨RX3, "isLetter", "(I)Z"⟩
abbrev cX3_isDigit : ByteArray := prog_5_method_15_code
def yX3_isDigit : MethodName := ⟨RX3, "isDigit", "(I)Z"⟩
def RX4 : String := "TortoiseShelves"
def TX4 : u_T := fun k => match k with
  | 0 => ("TortoiseShelves", "isle", "LTortoiseShelves$Island;", true)
  | 1 => ("TortoiseShelves", "ahead", "LTortoiseShelves$Island;", true)
  | 2 => ("TortoiseShelves", "kept", "LTortoiseShelves$Island;", true)
  | 3 => ("TortoiseShelves", "reader", "LTortoiseShelves$Reader;", true)
  | 4 => ("TortoiseShelves", "tape", "LTortoiseShelves$Tape;", true)
  | 5 => ("TortoiseShelves", "sheets", "[LTortoiseShelves$Sheet;", true)
  | 6 => ("TortoiseShelves", "found", "[I", true)
  | _ => ("TortoiseShelves", "keeps", "Z", false)
def tyX4 : Nat → FieldType := fun k => match k with
  | 0 => .object "TortoiseShelves$Island"
  | 1 => .object "TortoiseShelves$Island"
  | 2 => .object "TortoiseShelves$Island"
  | 3 => .object "TortoiseShelves$Reader"
  | 4 => .object "TortoiseShelves$Tape"
  | 5 => .array (.object "TortoiseShelves$Sheet")
  | 6 => .array .int
  | _ => .boolean
theorem nmX4 : ∀ a, a < 8 → ∀ b, b < 8 → a ≠ b → (TX4 a).2.1 ≠ (TX4 b).2.1 := by decide +kernel
theorem tyX4_ok : ∀ k, k < 8 → parseFieldDescriptor (TX4 k).2.2.1 = some (tyX4 k) := by decide +kernel
abbrev cX4_init : ByteArray := prog_1_method_1_code
def yX4_init : MethodName := ⟨RX4, "<init>", "()V"⟩
abbrev cX4_fence : ByteArray := prog_1_method_2_code
def yX4_fence : MethodName := ⟨RX4, "fence", "(II)I"⟩
abbrev cX4_spot : ByteArray := prog_1_method_3_code
def yX4_spot : MethodName := ⟨RX4, "spot", "(II)I"⟩
abbrev cX4_rain : ByteArray := prog_1_method_4_code
def yX4_rain : MethodName := ⟨RX4, "rain", "(I)I"⟩
abbrev cX4_cell : ByteArray := prog_1_method_5_code
def yX4_cell : MethodName := ⟨RX4, "cell", "(II)I"⟩
abbrev cX4_tortoise : ByteArray := prog_1_method_6_code
def yX4_tortoise : MethodName := ⟨RX4, "tortoise", "(III)I"⟩
abbrev cX4_of : ByteArray := prog_1_method_7_code
def yX4_of : MethodName := ⟨RX4, "of", "(II)I"⟩
abbrev cX4_set : ByteArray := prog_1_method_8_code
def yX4_set : MethodName := ⟨RX4, "set", "(III)I"⟩
abbrev cX4_turn : ByteArray := prog_1_method_9_code
def yX4_turn : MethodName := ⟨RX4, "turn", "(II)I"⟩
abbrev cX4_as : ByteArray := prog_1_method_10_code
def yX4_as : MethodName := ⟨RX4, "as", "(II)I"⟩
abbrev cX4_lend : ByteArray := prog_1_method_11_code
def yX4_lend : MethodName := ⟨RX4, "lend", "(III)I"⟩
abbrev cX4_hours : ByteArray := prog_1_method_12_code
def yX4_hours : MethodName := ⟨RX4, "hours", "(I)I"⟩
abbrev cX4_now : ByteArray := prog_1_method_13_code
def yX4_now : MethodName := ⟨RX4, "now", "(I)I"⟩
abbrev cX4_on : ByteArray := prog_1_method_14_code
def yX4_on : MethodName := ⟨RX4, "on", "(III)I"⟩
abbrev cX4_when : ByteArray := prog_1_method_15_code
def yX4_when : MethodName := ⟨RX4, "when", "(II)I"⟩
abbrev cX4_meet : ByteArray := prog_1_method_16_code
def yX4_meet : MethodName := ⟨RX4, "meet", "(II)I"⟩
abbrev cX4_carries : ByteArray := prog_1_method_17_code
def yX4_carries : MethodName := ⟨RX4, "carries", "(II)I"⟩
abbrev cX4_soonest : ByteArray := prog_1_method_18_code
def yX4_soonest : MethodName := ⟨RX4, "soonest", "(II)I"⟩
abbrev cX4_where : ByteArray := prog_1_method_19_code
def yX4_where : MethodName := ⟨RX4, "where", "(II)I"⟩
abbrev cX4_waits : ByteArray := prog_1_method_20_code
def yX4_waits : MethodName := ⟨RX4, "waits", "(II)I"⟩
abbrev cX4_waterhole : ByteArray := prog_1_method_21_code
def yX4_waterhole : MethodName := ⟨RX4, "waterhole", "(I)I"⟩
abbrev cX4_many : ByteArray := prog_1_method_22_code
def yX4_many : MethodName := ⟨RX4, "many", "(II)I"⟩
abbrev cX4_both : ByteArray := prog_1_method_23_code
def yX4_both : MethodName := ⟨RX4, "both", "(III)I"⟩
abbrev cX4_censors : ByteArray := prog_1_method_24_code
def yX4_censors : MethodName := ⟨RX4, "censors", "(III)I"⟩
abbrev cX4_tips : ByteArray := prog_1_method_25_code
def yX4_tips : MethodName := ⟨RX4, "tips", "(II)I"⟩
abbrev cX4_spring : ByteArray := prog_1_method_26_code
def yX4_spring : MethodName := ⟨RX4, "spring", "(II)I"⟩
abbrev cX4_kind : ByteArray := prog_1_method_27_code
def yX4_kind : MethodName := ⟨RX4, "kind", "(II)I"⟩
abbrev cX4_feed : ByteArray := prog_1_method_28_code
def yX4_feed : MethodName := ⟨RX4, "feed", "(II)I"⟩
abbrev cX4_wipe : ByteArray := prog_1_method_29_code
def yX4_wipe : MethodName := ⟨RX4, "wipe", "()I"⟩
abbrev cX4_island : ByteArray := prog_1_method_30_code
def yX4_island : MethodName := ⟨RX4, "island", "()I"⟩
abbrev cX4_sheet : ByteArray := prog_1_method_31_code
def yX4_sheet : MethodName := ⟨RX4, "sheet", "(III)I"⟩
abbrev cX4_write : ByteArray := prog_1_method_32_code
def yX4_write : MethodName := ⟨RX4, "write", "(IIJ)J"⟩
abbrev cX4_copy : ByteArray := prog_1_method_33_code
def yX4_copy : MethodName := ⟨RX4, "copy", "(IIIII)I"⟩
abbrev cX4_lays : ByteArray := prog_1_method_34_code
def yX4_lays : MethodName := ⟨RX4, "lays", "(I)I"⟩
abbrev cX4_book : ByteArray := prog_1_method_35_code
def yX4_book : MethodName := ⟨RX4, "book", "(II)I"⟩
abbrev cX4_read : ByteArray := prog_1_method_36_code
def yX4_read : MethodName := ⟨RX4, "read", "(II)I"⟩
abbrev cX4_image : ByteArray := prog_1_method_37_code
def yX4_image : MethodName := ⟨RX4, "image", "()I"⟩
abbrev cX4_undo : ByteArray := prog_1_method_38_code
def yX4_undo : MethodName := ⟨RX4, "undo", "()I"⟩
abbrev cX4_tear : ByteArray := prog_1_method_39_code
def yX4_tear : MethodName := ⟨RX4, "tear", "()I"⟩
abbrev cX4_count : ByteArray := prog_1_method_40_code
def yX4_count : MethodName := ⟨RX4, "count", "(I)I"⟩
abbrev cX4_status : ByteArray := prog_1_method_41_code
def yX4_status : MethodName := ⟨RX4, "status", "(I)I"⟩
abbrev cX4_finding : ByteArray := prog_1_method_42_code
def yX4_finding : MethodName := ⟨RX4, "finding", "(I)I"⟩
abbrev cX4_askOfReader : ByteArray := prog_1_method_43_code
def yX4_askOfReader : MethodName := ⟨RX4, "askOfReader", "(II)I"⟩
abbrev cX4_askOfSheet : ByteArray := prog_1_method_44_code
def yX4_askOfSheet : MethodName := ⟨RX4, "askOfSheet", "(I)I"⟩
abbrev cX4_hoursOrNone : ByteArray := prog_1_method_45_code
def yX4_hoursOrNone : MethodName := ⟨RX4, "hoursOrNone", "(I)I"⟩
abbrev cX4_placeOrNone : ByteArray := prog_1_method_46_code
def yX4_placeOrNone : MethodName := ⟨RX4, "placeOrNone", "(I)I"⟩
abbrev cX4_areTwo : ByteArray := prog_1_method_47_code
def yX4_areTwo : MethodName := ⟨RX4, "areTwo", "(II)Z"⟩
abbrev cX4_bestTipped : ByteArray := prog_1_method_48_code
def yX4_bestTipped : MethodName := ⟨RX4, "bestTipped", "(II)I"⟩
abbrev cX4_bestSpring : ByteArray := prog_1_method_49_code
def yX4_bestSpring : MethodName := ⟨RX4, "bestSpring", "(II)I"⟩
abbrev cX4_bestKind : ByteArray := prog_1_method_50_code
def yX4_bestKind : MethodName := ⟨RX4, "bestKind", "(II)I"⟩
abbrev cX4_laysBooks : ByteArray := prog_1_method_51_code
def yX4_laysBooks : MethodName := ⟨RX4, "laysBooks", "(LTortoiseShelves$Sheet;)I"⟩
abbrev cX4_isBelow : ByteArray := prog_1_method_52_code
def yX4_isBelow : MethodName := ⟨RX4, "isBelow", "(II)Z"⟩
abbrev cX4_isCell : ByteArray := prog_1_method_53_code
def yX4_isCell : MethodName := ⟨RX4, "isCell", "(I)Z"⟩
abbrev cX4_isSubject : ByteArray := prog_1_method_54_code
def yX4_isSubject : MethodName := ⟨RX4, "isSubject", "(I)Z"⟩
abbrev cX4_isKind : ByteArray := prog_1_method_55_code
def yX4_isKind : MethodName := ⟨RX4, "isKind", "(I)Z"⟩
abbrev cX4_isFlag : ByteArray := prog_1_method_56_code
def yX4_isFlag : MethodName := ⟨RX4, "isFlag", "(I)Z"⟩
abbrev cX4_isForeseen : ByteArray := prog_1_method_57_code
def yX4_isForeseen : MethodName := ⟨RX4, "isForeseen", "(I)Z"⟩
abbrev cX4_isSetOf : ByteArray := prog_1_method_58_code
def yX4_isSetOf : MethodName := ⟨RX4, "isSetOf", "(II)Z"⟩
abbrev cX4_isUnder : ByteArray := prog_1_method_59_code
def yX4_isUnder : MethodName := ⟨RX4, "isUnder", "(II)Z"⟩
abbrev cX4_least : ByteArray := prog_1_method_60_code
def yX4_least : MethodName := ⟨RX4, "least", "(I)I"⟩
def RX5 : String := "TortoiseShelvesModel"
def TX5 : u_T := fun k => match k with
  | 0 => ("TortoiseShelvesModel", "s", "[I", true)
  | 1 => ("TortoiseShelvesModel", "keptS", "[I", true)
  | 2 => ("TortoiseShelvesModel", "other", "[I", true)
  | 3 => ("TortoiseShelvesModel", "aside", "[I", true)
  | 4 => ("TortoiseShelvesModel", "statuses", "[I", true)
  | 5 => ("TortoiseShelvesModel", "isKept", "Z", false)
  | 6 => ("TortoiseShelvesModel", "readIn", "I", false)
  | 7 => ("TortoiseShelvesModel", "tape", "[I", true)
  | 8 => ("TortoiseShelvesModel", "taped", "I", false)
  | 9 => ("TortoiseShelvesModel", "from", "I", false)
  | 10 => ("TortoiseShelvesModel", "to", "I", false)
  | 11 => ("TortoiseShelvesModel", "value", "I", false)
  | 12 => ("TortoiseShelvesModel", "isWrong", "Z", false)
  | 13 => ("TortoiseShelvesModel", "bitsOf", "[I", true)
  | 14 => ("TortoiseShelvesModel", "sizeOf", "[I", true)
  | 15 => ("TortoiseShelvesModel", "numbers", "[J", true)
  | _ => ("TortoiseShelvesModel", "moved", "[J", true)
def tyX5 : Nat → FieldType := fun k => match k with
  | 0 => .array .int
  | 1 => .array .int
  | 2 => .array .int
  | 3 => .array .int
  | 4 => .array .int
  | 5 => .boolean
  | 6 => .int
  | 7 => .array .int
  | 8 => .int
  | 9 => .int
  | 10 => .int
  | 11 => .int
  | 12 => .boolean
  | 13 => .array .int
  | 14 => .array .int
  | 15 => .array .long
  | _ => .array .long
theorem nmX5 : ∀ a, a < 17 → ∀ b, b < 17 → a ≠ b → (TX5 a).2.1 ≠ (TX5 b).2.1 := by decide +kernel
theorem tyX5_ok : ∀ k, k < 17 → parseFieldDescriptor (TX5 k).2.2.1 = some (tyX5 k) := by decide +kernel
abbrev cX5_init : ByteArray := prog_7_method_1_code
def yX5_init : MethodName := ⟨RX5, "<init>", "()V"⟩
abbrev cX5_in : ByteArray := prog_7_method_2_code
def yX5_in : MethodName := ⟨RX5, "in", "(JJJ)Z"⟩
abbrev cX5_finds : ByteArray := prog_7_method_3_code
def yX5_finds : MethodName := ⟨RX5, "finds", "(I)I"⟩
abbrev cX5_saves : ByteArray := prog_7_method_4_code
def yX5_saves : MethodName := ⟨RX5, "saves", "()V"⟩
abbrev cX5_putsBack : ByteArray := prog_7_method_5_code
def yX5_putsBack : MethodName := ⟨RX5, "putsBack", "()V"⟩
abbrev cX5_laysAside : ByteArray := prog_7_method_6_code
def yX5_laysAside : MethodName := ⟨RX5, "laysAside", "()V"⟩
abbrev cX5_takesBack : ByteArray := prog_7_method_7_code
def yX5_takesBack : MethodName := ⟨RX5, "takesBack", "(I)I"⟩
abbrev cX5_becomes : ByteArray := prog_7_method_8_code
def yX5_becomes : MethodName := ⟨RX5, "becomes", "(II)I"⟩
abbrev cX5_isCell : ByteArray := prog_7_method_9_code
def yX5_isCell : MethodName := ⟨RX5, "isCell", "(I)Z"⟩
abbrev cX5_isKind : ByteArray := prog_7_method_10_code
def yX5_isKind : MethodName := ⟨RX5, "isKind", "(I)Z"⟩
abbrev cX5_isSubject : ByteArray := prog_7_method_11_code
def yX5_isSubject : MethodName := ⟨RX5, "isSubject", "(I)Z"⟩
abbrev cX5_isSet : ByteArray := prog_7_method_12_code
def yX5_isSet : MethodName := ⟨RX5, "isSet", "(J)Z"⟩
abbrev cX5_isOne : ByteArray := prog_7_method_13_code
def yX5_isOne : MethodName := ⟨RX5, "isOne", "(I)Z"⟩
abbrev cX5_areTwo : ByteArray := prog_7_method_14_code
def yX5_areTwo : MethodName := ⟨RX5, "areTwo", "(II)Z"⟩
abbrev cX5_spotOf : ByteArray := prog_7_method_15_code
def yX5_spotOf : MethodName := ⟨RX5, "spotOf", "(II)I"⟩
abbrev cX5_its : ByteArray := prog_7_method_16_code
def yX5_its : MethodName := ⟨RX5, "its", "(II)I"⟩
abbrev cX5_ones : ByteArray := prog_7_method_17_code
def yX5_ones : MethodName := ⟨RX5, "ones", "(I)I"⟩
abbrev cX5_isFenced : ByteArray := prog_7_method_18_code
def yX5_isFenced : MethodName := ⟨RX5, "isFenced", "(I)Z"⟩
abbrev cX5_fences : ByteArray := prog_7_method_19_code
def yX5_fences : MethodName := ⟨RX5, "fences", "(II)V"⟩
abbrev cX5_fence : ByteArray := prog_7_method_20_code
def yX5_fence : MethodName := ⟨RX5, "fence", "(II)I"⟩
abbrev cX5_spot : ByteArray := prog_7_method_21_code
def yX5_spot : MethodName := ⟨RX5, "spot", "(II)I"⟩
abbrev cX5_rain : ByteArray := prog_7_method_22_code
def yX5_rain : MethodName := ⟨RX5, "rain", "(I)I"⟩
abbrev cX5_those : ByteArray := prog_7_method_23_code
def yX5_those : MethodName := ⟨RX5, "those", "(I)I"⟩
abbrev cX5_booksIn : ByteArray := prog_7_method_24_code
def yX5_booksIn : MethodName := ⟨RX5, "booksIn", "(I)I"⟩
abbrev cX5_cell : ByteArray := prog_7_method_25_code
def yX5_cell : MethodName := ⟨RX5, "cell", "(II)I"⟩
abbrev cX5_clock : ByteArray := prog_7_method_26_code
def yX5_clock : MethodName := ⟨RX5, "clock", "()I"⟩
abbrev cX5_rains : ByteArray := prog_7_method_27_code
def yX5_rains : MethodName := ⟨RX5, "rains", "()Z"⟩
abbrev cX5_lawful : ByteArray := prog_7_method_28_code
def yX5_lawful : MethodName := ⟨RX5, "lawful", "()I"⟩
abbrev cX5_aimOf : ByteArray := prog_7_method_29_code
def yX5_aimOf : MethodName := ⟨RX5, "aimOf", "(I)I"⟩
abbrev cX5_paceOf : ByteArray := prog_7_method_30_code
def yX5_paceOf : MethodName := ⟨RX5, "paceOf", "(I)I"⟩
abbrev cX5_adds : ByteArray := prog_7_method_31_code
def yX5_adds : MethodName := ⟨RX5, "adds", "(III)I"⟩
abbrev cX5_tortoise : ByteArray := prog_7_method_32_code
def yX5_tortoise : MethodName := ⟨RX5, "tortoise", "(III)I"⟩
abbrev cX5_of : ByteArray := prog_7_method_33_code
def yX5_of : MethodName := ⟨RX5, "of", "(II)I"⟩
abbrev cX5_set : ByteArray := prog_7_method_34_code
def yX5_set : MethodName := ⟨RX5, "set", "(III)I"⟩
abbrev cX5_turn : ByteArray := prog_7_method_35_code
def yX5_turn : MethodName := ⟨RX5, "turn", "(II)I"⟩
abbrev cX5_above : ByteArray := prog_7_method_36_code
def yX5_above : MethodName := ⟨RX5, "above", "(I)I"⟩
abbrev cX5_as : ByteArray := prog_7_method_37_code
def yX5_as : MethodName := ⟨RX5, "as", "(II)I"⟩
abbrev cX5_lends : ByteArray := prog_7_method_38_code
def yX5_lends : MethodName := ⟨RX5, "lends", "(III)V"⟩
abbrev cX5_lend : ByteArray := prog_7_method_39_code
def yX5_lend : MethodName := ⟨RX5, "lend", "(III)I"⟩
abbrev cX5_nearer : ByteArray := prog_7_method_40_code
def yX5_nearer : MethodName := ⟨RX5, "nearer", "(II)I"⟩
abbrev cX5_goes : ByteArray := prog_7_method_41_code
def yX5_goes : MethodName := ⟨RX5, "goes", "(I)V"⟩
abbrev cX5_meets : ByteArray := prog_7_method_42_code
def yX5_meets : MethodName := ⟨RX5, "meets", "(II)V"⟩
abbrev cX5_hour : ByteArray := prog_7_method_43_code
def yX5_hour : MethodName := ⟨RX5, "hour", "()V"⟩
abbrev cX5_go : ByteArray := prog_7_method_44_code
def yX5_go : MethodName := ⟨RX5, "go", "(I)V"⟩
abbrev cX5_allBooks : ByteArray := prog_7_method_45_code
def yX5_allBooks : MethodName := ⟨RX5, "allBooks", "()I"⟩
abbrev cX5_hours : ByteArray := prog_7_method_46_code
def yX5_hours : MethodName := ⟨RX5, "hours", "(I)I"⟩
abbrev cX5_allSubjects : ByteArray := prog_7_method_47_code
def yX5_allSubjects : MethodName := ⟨RX5, "allSubjects", "()I"⟩
abbrev cX5_allCells : ByteArray := prog_7_method_48_code
def yX5_allCells : MethodName := ⟨RX5, "allCells", "()I"⟩
abbrev cX5_now : ByteArray := prog_7_method_49_code
def yX5_now : MethodName := ⟨RX5, "now", "(I)I"⟩
abbrev cX5_on : ByteArray := prog_7_method_50_code
def yX5_on : MethodName := ⟨RX5, "on", "(III)I"⟩
abbrev cX5_whenOf : ByteArray := prog_7_method_51_code
def yX5_whenOf : MethodName := ⟨RX5, "whenOf", "(II)I"⟩
abbrev cX5_orNone : ByteArray := prog_7_method_52_code
def yX5_orNone : MethodName := ⟨RX5, "orNone", "(II)I"⟩
abbrev cX5_when : ByteArray := prog_7_method_53_code
def yX5_when : MethodName := ⟨RX5, "when", "(II)I"⟩
abbrev cX5_meet : ByteArray := prog_7_method_54_code
def yX5_meet : MethodName := ⟨RX5, "meet", "(II)I"⟩
abbrev cX5_carriers : ByteArray := prog_7_method_55_code
def yX5_carriers : MethodName := ⟨RX5, "carriers", "(I)I"⟩
abbrev cX5_carries : ByteArray := prog_7_method_56_code
def yX5_carries : MethodName := ⟨RX5, "carries", "(II)I"⟩
abbrev cX5_open : ByteArray := prog_7_method_57_code
def yX5_open : MethodName := ⟨RX5, "open", "()I"⟩
abbrev cX5_spread : ByteArray := prog_7_method_58_code
def yX5_spread : MethodName := ⟨RX5, "spread", "(I)I"⟩
abbrev cX5_places : ByteArray := prog_7_method_59_code
def yX5_places : MethodName := ⟨RX5, "places", "(I)I"⟩
abbrev cX5_soonestOf : ByteArray := prog_7_method_60_code
def yX5_soonestOf : MethodName := ⟨RX5, "soonestOf", "(II)I"⟩
abbrev cX5_wrongReader : ByteArray := prog_7_method_61_code
def yX5_wrongReader : MethodName := ⟨RX5, "wrongReader", "(II)I"⟩
abbrev cX5_soonest : ByteArray := prog_7_method_62_code
def yX5_soonest : MethodName := ⟨RX5, "soonest", "(II)I"⟩
abbrev cX5_where : ByteArray := prog_7_method_63_code
def yX5_where : MethodName := ⟨RX5, "where", "(II)I"⟩
abbrev cX5_waits : ByteArray := prog_7_method_64_code
def yX5_waits : MethodName := ⟨RX5, "waits", "(II)I"⟩
abbrev cX5_waterhole : ByteArray := prog_7_method_65_code
def yX5_waterhole : MethodName := ⟨RX5, "waterhole", "(I)I"⟩
abbrev cX5_many : ByteArray := prog_7_method_66_code
def yX5_many : MethodName := ⟨RX5, "many", "(II)I"⟩
abbrev cX5_both : ByteArray := prog_7_method_67_code
def yX5_both : MethodName := ⟨RX5, "both", "(III)I"⟩
abbrev cX5_censors : ByteArray := prog_7_method_68_code
def yX5_censors : MethodName := ⟨RX5, "censors", "(III)I"⟩
abbrev cX5_isSooner : ByteArray := prog_7_method_69_code
def yX5_isSooner : MethodName := ⟨RX5, "isSooner", "(II)Z"⟩
abbrev cX5_tips : ByteArray := prog_7_method_70_code
def yX5_tips : MethodName := ⟨RX5, "tips", "(II)I"⟩
abbrev cX5_spring : ByteArray := prog_7_method_71_code
def yX5_spring : MethodName := ⟨RX5, "spring", "(II)I"⟩
abbrev cX5_kind : ByteArray := prog_7_method_72_code
def yX5_kind : MethodName := ⟨RX5, "kind", "(II)I"⟩
abbrev cX5_feed : ByteArray := prog_7_method_73_code
def yX5_feed : MethodName := ⟨RX5, "feed", "(II)I"⟩
abbrev cX5_wipe : ByteArray := prog_7_method_74_code
def yX5_wipe : MethodName := ⟨RX5, "wipe", "()I"⟩
abbrev cX5_byteAt : ByteArray := prog_7_method_75_code
def yX5_byteAt : MethodName := ⟨RX5, "byteAt", "(I)I"⟩
abbrev cX5_isLetter : ByteArray := prog_7_method_76_code
def yX5_isLetter : MethodName := ⟨RX5, "isLetter", "(I)Z"⟩
abbrev cX5_isDigit : ByteArray := prog_7_method_77_code
def yX5_isDigit : MethodName := ⟨RX5, "isDigit", "(I)Z"⟩
abbrev cX5_token : ByteArray := prog_7_method_78_code
def yX5_token : MethodName := ⟨RX5, "token", "()V"⟩
abbrev cX5_wants : ByteArray := prog_7_method_79_code
def yX5_wants : MethodName := ⟨RX5, "wants", "(Z)V"⟩
abbrev cX5_word : ByteArray := prog_7_method_80_code
def yX5_word : MethodName := ⟨RX5, "word", "()J"⟩
abbrev cX5_number : ByteArray := prog_7_method_81_code
def yX5_number : MethodName := ⟨RX5, "number", "(II)V"⟩
abbrev cX5_kindHere : ByteArray := prog_7_method_82_code
def yX5_kindHere : MethodName := ⟨RX5, "kindHere", "()I"⟩
abbrev cX5_placeHere : ByteArray := prog_7_method_83_code
def yX5_placeHere : MethodName := ⟨RX5, "placeHere", "()I"⟩
abbrev cX5_cellHere : ByteArray := prog_7_method_84_code
def yX5_cellHere : MethodName := ⟨RX5, "cellHere", "()V"⟩
abbrev cX5_tortoiseItem : ByteArray := prog_7_method_85_code
def yX5_tortoiseItem : MethodName := ⟨RX5, "tortoiseItem", "(I)V"⟩
abbrev cX5_fenceItem : ByteArray := prog_7_method_86_code
def yX5_fenceItem : MethodName := ⟨RX5, "fenceItem", "(I)V"⟩
abbrev cX5_rainItem : ByteArray := prog_7_method_87_code
def yX5_rainItem : MethodName := ⟨RX5, "rainItem", "()V"⟩
abbrev cX5_placeItem : ByteArray := prog_7_method_88_code
def yX5_placeItem : MethodName := ⟨RX5, "placeItem", "(I)V"⟩
abbrev cX5_item : ByteArray := prog_7_method_89_code
def yX5_item : MethodName := ⟨RX5, "item", "()V"⟩
abbrev cX5_island : ByteArray := prog_7_method_90_code
def yX5_island : MethodName := ⟨RX5, "island", "()I"⟩
abbrev cX5_isRow : ByteArray := prog_7_method_91_code
def yX5_isRow : MethodName := ⟨RX5, "isRow", "(I)Z"⟩
abbrev cX5_sheet : ByteArray := prog_7_method_92_code
def yX5_sheet : MethodName := ⟨RX5, "sheet", "(III)I"⟩
abbrev cX5_narrowed : ByteArray := prog_7_method_93_code
def yX5_narrowed : MethodName := ⟨RX5, "narrowed", "(IJ)J"⟩
abbrev cX5_wrong : ByteArray := prog_7_method_94_code
def yX5_wrong : MethodName := ⟨RX5, "wrong", "(I)I"⟩
abbrev cX5_write : ByteArray := prog_7_method_95_code
def yX5_write : MethodName := ⟨RX5, "write", "(IIJ)J"⟩
abbrev cX5_copy : ByteArray := prog_7_method_96_code
def yX5_copy : MethodName := ⟨RX5, "copy", "(IIIII)I"⟩
abbrev cX5_lays : ByteArray := prog_7_method_97_code
def yX5_lays : MethodName := ⟨RX5, "lays", "(I)I"⟩
abbrev cX5_wrongBook : ByteArray := prog_7_method_98_code
def yX5_wrongBook : MethodName := ⟨RX5, "wrongBook", "(II)I"⟩
abbrev cX5_book : ByteArray := prog_7_method_99_code
def yX5_book : MethodName := ⟨RX5, "book", "(II)I"⟩
abbrev cX5_isSo : ByteArray := prog_7_method_100_code
def yX5_isSo : MethodName := ⟨RX5, "isSo", "(II)I"⟩
abbrev cX5_read : ByteArray := prog_7_method_101_code
def yX5_read : MethodName := ⟨RX5, "read", "(II)I"⟩
abbrev cX5_image : ByteArray := prog_7_method_102_code
def yX5_image : MethodName := ⟨RX5, "image", "()I"⟩
abbrev cX5_undo : ByteArray := prog_7_method_103_code
def yX5_undo : MethodName := ⟨RX5, "undo", "()I"⟩
abbrev cX5_tear : ByteArray := prog_7_method_104_code
def yX5_tear : MethodName := ⟨RX5, "tear", "()I"⟩
abbrev cX5_tipped : ByteArray := prog_7_method_105_code
def yX5_tipped : MethodName := ⟨RX5, "tipped", "()I"⟩
abbrev cX5_count : ByteArray := prog_7_method_106_code
def yX5_count : MethodName := ⟨RX5, "count", "(I)I"⟩
abbrev cX5_status : ByteArray := prog_7_method_107_code
def yX5_status : MethodName := ⟨RX5, "status", "(I)I"⟩
def RJ6 : String := "java/lang/Integer"
def TJ6 : u_T := fun k => match k with
  | _ => ("", "", "", false)
def tyJ6 : Nat → FieldType := fun k => match k with
  | _ => .int
theorem nmJ6 : ∀ a, a < 0 → ∀ b, b < 0 → a ≠ b → (TJ6 a).2.1 ≠ (TJ6 b).2.1 := by decide +kernel
theorem tyJ6_ok : ∀ k, k < 0 → parseFieldDescriptor (TJ6 k).2.2.1 = some (tyJ6 k) := by decide +kernel
abbrev cJ6_bitCount_0f7a4 : ByteArray := prog_8_method_49_code
def yJ6_bitCount_0f7a4 : MethodName := ⟨RJ6, "bitCount", "(I)I"⟩
def RJ9 : String := "java/lang/Math"
def TJ9 : u_T := fun k => match k with
  | _ => ("", "", "", false)
def tyJ9 : Nat → FieldType := fun k => match k with
  | _ => .int
theorem nmJ9 : ∀ a, a < 0 → ∀ b, b < 0 → a ≠ b → (TJ9 a).2.1 ≠ (TJ9 b).2.1 := by decide +kernel
theorem tyJ9_ok : ∀ k, k < 0 → parseFieldDescriptor (TJ9 k).2.2.1 = some (tyJ9 k) := by decide +kernel
abbrev cJ9_min_7cf53 : ByteArray := prog_9_method_69_code
def yJ9_min_7cf53 : MethodName := ⟨RJ9, "min", "(II)I"⟩
def RJ0 : String := "java/lang/String"
def TJ0 : u_T := fun k => match k with
  | _ => ("", "", "", false)
def tyJ0 : Nat → FieldType := fun k => match k with
  | _ => .int
theorem nmJ0 : ∀ a, a < 0 → ∀ b, b < 0 → a ≠ b → (TJ0 a).2.1 ≠ (TJ0 b).2.1 := by decide +kernel
theorem tyJ0_ok : ∀ k, k < 0 → parseFieldDescriptor (TJ0 k).2.2.1 = some (tyJ0 k) := by decide +kernel
abbrev cJ0_length_8abf5 : ByteArray := prog_10_method_54_code
def yJ0_length_8abf5 : MethodName := ⟨RJ0, "length", "()I"⟩
abbrev cJ0_charAt_5068e : ByteArray := prog_10_method_56_code
def yJ0_charAt_5068e : MethodName := ⟨RJ0, "charAt", "(I)C"⟩
abbrev cJ0_coder_7d493 : ByteArray := prog_10_method_152_code
def yJ0_coder_7d493 : MethodName := ⟨RJ0, "coder", "()B"⟩
abbrev cJ0_isLatin1_aae02 : ByteArray := prog_10_method_154_code
def yJ0_isLatin1_aae02 : MethodName := ⟨RJ0, "isLatin1", "()Z"⟩
abbrev cJ0_checkIndex_df160 : ByteArray := prog_10_method_155_code
def yJ0_checkIndex_df160 : MethodName := ⟨RJ0, "checkIndex", "(II)V"⟩
def RJ1 : String := "java/lang/StringLatin1"
def TJ1 : u_T := fun k => match k with
  | _ => ("", "", "", false)
def tyJ1 : Nat → FieldType := fun k => match k with
  | _ => .int
theorem nmJ1 : ∀ a, a < 0 → ∀ b, b < 0 → a ≠ b → (TJ1 a).2.1 ≠ (TJ1 b).2.1 := by decide +kernel
theorem tyJ1_ok : ∀ k, k < 0 → parseFieldDescriptor (TJ1 k).2.2.1 = some (tyJ1 k) := by decide +kernel
abbrev cJ1_charAt_3b067 : ByteArray := prog_11_method_2_code
def yJ1_charAt_3b067 : MethodName := ⟨RJ1, "charAt", "([BI)C"⟩
def RJ2 : String := "java/lang/StringUTF16"
def TJ2 : u_T := fun k => match k with
  | _ => ("", "", "", false)
def tyJ2 : Nat → FieldType := fun k => match k with
  | _ => .int
theorem nmJ2 : ∀ a, a < 0 → ∀ b, b < 0 → a ≠ b → (TJ2 a).2.1 ≠ (TJ2 b).2.1 := by decide +kernel
theorem tyJ2_ok : ∀ k, k < 0 → parseFieldDescriptor (TJ2 k).2.2.1 = some (tyJ2 k) := by decide +kernel
abbrev cJ2_getChar_3b067 : ByteArray := prog_12_method_5_code
def yJ2_getChar_3b067 : MethodName := ⟨RJ2, "getChar", "([BI)C"⟩
abbrev cJ2_length_9d52b : ByteArray := prog_12_method_6_code
def yJ2_length_9d52b : MethodName := ⟨RJ2, "length", "([B)I"⟩
abbrev cJ2_charAt_3b067 : ByteArray := prog_12_method_83_code
def yJ2_charAt_3b067 : MethodName := ⟨RJ2, "charAt", "([BI)C"⟩
abbrev cJ2_checkIndex_2214a : ByteArray := prog_12_method_91_code
def yJ2_checkIndex_2214a : MethodName := ⟨RJ2, "checkIndex", "(I[B)V"⟩
def RJ10 : String := "java/lang/System"
def TJ10 : u_T := fun k => match k with
  | _ => ("", "", "", false)
def tyJ10 : Nat → FieldType := fun k => match k with
  | _ => .int
theorem nmJ10 : ∀ a, a < 0 → ∀ b, b < 0 → a ≠ b → (TJ10 a).2.1 ≠ (TJ10 b).2.1 := by decide +kernel
theorem tyJ10_ok : ∀ k, k < 0 → parseFieldDescriptor (TJ10 k).2.2.1 = some (tyJ10 k) := by decide +kernel
def RJ3 : String := "jdk/internal/util/Preconditions"
def TJ3 : u_T := fun k => match k with
  | _ => ("", "", "", false)
def tyJ3 : Nat → FieldType := fun k => match k with
  | _ => .int
theorem nmJ3 : ∀ a, a < 0 → ∀ b, b < 0 → a ≠ b → (TJ3 a).2.1 ≠ (TJ3 b).2.1 := by decide +kernel
theorem tyJ3_ok : ∀ k, k < 0 → parseFieldDescriptor (TJ3 k).2.2.1 = some (tyJ3 k) := by decide +kernel
abbrev cJ3_checkIndex_8e157 : ByteArray := prog_14_method_11_code
def yJ3_checkIndex_8e157 : MethodName := ⟨RJ3, "checkIndex", "(IILjava/util/function/BiFunction;)I"⟩
def RL : String := "TortoiseShelvesLaw"
abbrev cL_law : ByteArray := code
def yL_law : MethodName := ⟨RL, "law", "([I)Z"⟩
abbrev vwCl : List vw_C := [(RX0, TX0, 9), (RX1, TX1, 4), (RX2, TX2, 3), (RX3, TX3, 7), (RX4, TX4, 8), (RX5, TX5, 17)]
/-- the words that ride along everywhere: those of the tables that stay as they are -/
noncomputable def base : List Cond := lw_tbl.filter goodWord
theorem base_in {w : Cond} (i : Nat) (h : lw_tbl[i]? = some w) (hg : goodWord w = true) : w ∈ base := List.mem_filter.mpr ⟨List.mem_of_getElem? h, hg⟩
theorem base_good {w : Cond} (h : w ∈ base) : goodWord w = true := (List.mem_filter.mp h).2
theorem goodIn_base : GoodIn base base := fun w h => ⟨h, good_of_word (base_good h)⟩
end
section
theorem wd_0 : Cond.selects RX4 yX4_finding yX4_finding ∈ base := base_in 0 (by decide +kernel) rfl
theorem wd_1 : Cond.selects RX0 yX0_aimOfLaw yX0_aimOfLaw ∈ base := base_in 1 (by decide +kernel) rfl
theorem wd_2 : Cond.selects RX4 yX4_areTwo yX4_areTwo ∈ base := base_in 2 (by decide +kernel) rfl
theorem wd_3 : Cond.selects RX0 yX0_walk yX0_walk ∈ base := base_in 3 (by decide +kernel) rfl
theorem wd_4 : Cond.selects RX0 yX0_stepFrom yX0_stepFrom ∈ base := base_in 4 (by decide +kernel) rfl
theorem wd_5 : Cond.selects RX0 yX0_meetAll yX0_meetAll ∈ base := base_in 5 (by decide +kernel) rfl
theorem wd_6 : Cond.selects RX0 yX0_meetTwo yX0_meetTwo ∈ base := base_in 6 (by decide +kernel) rfl
theorem wd_7 : Cond.selects RX4 yX4_hoursOrNone yX4_hoursOrNone ∈ base := base_in 7 (by decide +kernel) rfl
theorem wd_8 : Cond.selects RX4 yX4_askOfReader yX4_askOfReader ∈ base := base_in 8 (by decide +kernel) rfl
theorem wd_9 : Cond.selects RX1 yX1_cellsWith yX1_cellsWith ∈ base := base_in 9 (by decide +kernel) rfl
theorem wd_10 : Cond.selects RX1 yX1_onwards yX1_onwards ∈ base := base_in 10 (by decide +kernel) rfl
theorem wd_11 : Cond.selects RX4 yX4_placeOrNone yX4_placeOrNone ∈ base := base_in 11 (by decide +kernel) rfl
theorem wd_12 : Cond.selects RX4 yX4_bestTipped yX4_bestTipped ∈ base := base_in 12 (by decide +kernel) rfl
theorem wd_13 : Cond.selects RX4 yX4_bestSpring yX4_bestSpring ∈ base := base_in 13 (by decide +kernel) rfl
theorem wd_14 : Cond.selects RX4 yX4_bestKind yX4_bestKind ∈ base := base_in 14 (by decide +kernel) rfl
theorem wd_15 : Cond.selects RX3 yX3_nextToken yX3_nextToken ∈ base := base_in 15 (by decide +kernel) rfl
theorem wd_16 : Cond.selects RX3 yX3_tellsItem yX3_tellsItem ∈ base := base_in 16 (by decide +kernel) rfl
theorem wd_17 : Cond.selects RX3 yX3_kindTold yX3_kindTold ∈ base := base_in 17 (by decide +kernel) rfl
theorem wd_18 : Cond.selects RX3 yX3_isWord yX3_isWord ∈ base := base_in 18 (by decide +kernel) rfl
theorem wd_19 : Cond.selects RX3 yX3_tellsTortoise yX3_tellsTortoise ∈ base := base_in 19 (by decide +kernel) rfl
theorem wd_20 : Cond.selects RX3 yX3_takesNumber yX3_takesNumber ∈ base := base_in 20 (by decide +kernel) rfl
theorem wd_21 : Cond.selects RX3 yX3_tellsFence yX3_tellsFence ∈ base := base_in 21 (by decide +kernel) rfl
theorem wd_22 : Cond.selects RX3 yX3_tellsRain yX3_tellsRain ∈ base := base_in 22 (by decide +kernel) rfl
theorem wd_23 : Cond.selects RX3 yX3_tellsSpot yX3_tellsSpot ∈ base := base_in 23 (by decide +kernel) rfl
theorem wd_24 : Cond.selects RX4 yX4_askOfSheet yX4_askOfSheet ∈ base := base_in 24 (by decide +kernel) rfl
theorem wd_25 : Cond.selects RX4 yX4_laysBooks yX4_laysBooks ∈ base := base_in 25 (by decide +kernel) rfl
theorem wd_26 : Cond.selects RX5 yX5_finds yX5_finds ∈ base := base_in 26 (by decide +kernel) rfl
theorem wd_27 : Cond.selects RX5 yX5_isFenced yX5_isFenced ∈ base := base_in 27 (by decide +kernel) rfl
theorem wd_28 : Cond.selects RX5 yX5_fences yX5_fences ∈ base := base_in 28 (by decide +kernel) rfl
theorem wd_29 : Cond.selects RX5 yX5_becomes yX5_becomes ∈ base := base_in 29 (by decide +kernel) rfl
theorem wd_30 : Cond.selects RX5 yX5_those yX5_those ∈ base := base_in 30 (by decide +kernel) rfl
theorem wd_31 : Cond.selects RX5 yX5_its yX5_its ∈ base := base_in 31 (by decide +kernel) rfl
theorem wd_32 : Cond.selects RX5 yX5_booksIn yX5_booksIn ∈ base := base_in 32 (by decide +kernel) rfl
theorem wd_33 : Cond.selects RX5 yX5_adds yX5_adds ∈ base := base_in 33 (by decide +kernel) rfl
theorem wd_34 : Cond.selects RX5 yX5_isOne yX5_isOne ∈ base := base_in 34 (by decide +kernel) rfl
theorem wd_35 : Cond.selects RX5 yX5_aimOf yX5_aimOf ∈ base := base_in 35 (by decide +kernel) rfl
theorem wd_36 : Cond.selects RX5 yX5_lawful yX5_lawful ∈ base := base_in 36 (by decide +kernel) rfl
theorem wd_37 : Cond.selects RX5 yX5_clock yX5_clock ∈ base := base_in 37 (by decide +kernel) rfl
theorem wd_38 : Cond.selects RX5 yX5_rains yX5_rains ∈ base := base_in 38 (by decide +kernel) rfl
theorem wd_39 : Cond.selects RX5 yX5_paceOf yX5_paceOf ∈ base := base_in 39 (by decide +kernel) rfl
theorem wd_40 : Cond.selects RX5 yX5_areTwo yX5_areTwo ∈ base := base_in 40 (by decide +kernel) rfl
theorem wd_41 : Cond.selects RX5 yX5_lends yX5_lends ∈ base := base_in 41 (by decide +kernel) rfl
theorem wd_42 : Cond.selects RX5 yX5_go yX5_go ∈ base := base_in 42 (by decide +kernel) rfl
theorem wd_43 : Cond.selects RX5 yX5_hour yX5_hour ∈ base := base_in 43 (by decide +kernel) rfl
theorem wd_44 : Cond.selects RX5 yX5_goes yX5_goes ∈ base := base_in 44 (by decide +kernel) rfl
theorem wd_45 : Cond.selects RX5 yX5_nearer yX5_nearer ∈ base := base_in 45 (by decide +kernel) rfl
theorem wd_46 : Cond.selects RX5 yX5_meets yX5_meets ∈ base := base_in 46 (by decide +kernel) rfl
theorem wd_47 : Cond.selects RX5 yX5_allBooks yX5_allBooks ∈ base := base_in 47 (by decide +kernel) rfl
theorem wd_48 : Cond.selects RX5 yX5_allSubjects yX5_allSubjects ∈ base := base_in 48 (by decide +kernel) rfl
theorem wd_49 : Cond.selects RX5 yX5_allCells yX5_allCells ∈ base := base_in 49 (by decide +kernel) rfl
theorem wd_50 : Cond.selects RX5 yX5_laysAside yX5_laysAside ∈ base := base_in 50 (by decide +kernel) rfl
theorem wd_51 : Cond.selects RX5 yX5_takesBack yX5_takesBack ∈ base := base_in 51 (by decide +kernel) rfl
theorem wd_52 : Cond.selects RX5 yX5_whenOf yX5_whenOf ∈ base := base_in 52 (by decide +kernel) rfl
theorem wd_53 : Cond.selects RX5 yX5_orNone yX5_orNone ∈ base := base_in 53 (by decide +kernel) rfl
theorem wd_54 : Cond.selects RX5 yX5_carriers yX5_carriers ∈ base := base_in 54 (by decide +kernel) rfl
theorem wd_55 : Cond.selects RX5 yX5_wrongReader yX5_wrongReader ∈ base := base_in 55 (by decide +kernel) rfl
theorem wd_56 : Cond.selects RX5 yX5_soonestOf yX5_soonestOf ∈ base := base_in 56 (by decide +kernel) rfl
theorem wd_57 : Cond.selects RX5 yX5_places yX5_places ∈ base := base_in 57 (by decide +kernel) rfl
theorem wd_58 : Cond.selects RX5 yX5_spread yX5_spread ∈ base := base_in 58 (by decide +kernel) rfl
theorem wd_59 : Cond.selects RX5 yX5_open yX5_open ∈ base := base_in 59 (by decide +kernel) rfl
theorem wd_60 : Cond.selects RX5 yX5_saves yX5_saves ∈ base := base_in 60 (by decide +kernel) rfl
theorem wd_61 : Cond.selects RX5 yX5_token yX5_token ∈ base := base_in 61 (by decide +kernel) rfl
theorem wd_62 : Cond.selects RX5 yX5_byteAt yX5_byteAt ∈ base := base_in 62 (by decide +kernel) rfl
theorem wd_63 : Cond.selects RX5 yX5_item yX5_item ∈ base := base_in 63 (by decide +kernel) rfl
theorem wd_64 : Cond.selects RX5 yX5_kindHere yX5_kindHere ∈ base := base_in 64 (by decide +kernel) rfl
theorem wd_65 : Cond.selects RX5 yX5_word yX5_word ∈ base := base_in 65 (by decide +kernel) rfl
theorem wd_66 : Cond.selects RX5 yX5_tortoiseItem yX5_tortoiseItem ∈ base := base_in 66 (by decide +kernel) rfl
theorem wd_67 : Cond.selects RX5 yX5_wants yX5_wants ∈ base := base_in 67 (by decide +kernel) rfl
theorem wd_68 : Cond.selects RX5 yX5_cellHere yX5_cellHere ∈ base := base_in 68 (by decide +kernel) rfl
theorem wd_69 : Cond.selects RX5 yX5_number yX5_number ∈ base := base_in 69 (by decide +kernel) rfl
theorem wd_70 : Cond.selects RX5 yX5_fenceItem yX5_fenceItem ∈ base := base_in 70 (by decide +kernel) rfl
theorem wd_71 : Cond.selects RX5 yX5_rainItem yX5_rainItem ∈ base := base_in 71 (by decide +kernel) rfl
theorem wd_72 : Cond.selects RX5 yX5_placeHere yX5_placeHere ∈ base := base_in 72 (by decide +kernel) rfl
theorem wd_73 : Cond.selects RX5 yX5_placeItem yX5_placeItem ∈ base := base_in 73 (by decide +kernel) rfl
theorem wd_74 : Cond.selects RX5 yX5_putsBack yX5_putsBack ∈ base := base_in 74 (by decide +kernel) rfl
theorem wd_75 : Cond.selects RX5 yX5_wrong yX5_wrong ∈ base := base_in 75 (by decide +kernel) rfl
theorem wd_76 : Cond.selects RX5 yX5_wrongBook yX5_wrongBook ∈ base := base_in 76 (by decide +kernel) rfl
theorem wd_77 : Cond.selects RX5 yX5_isSo yX5_isSo ∈ base := base_in 77 (by decide +kernel) rfl
theorem wd_78 : Cond.selects RX5 yX5_tipped yX5_tipped ∈ base := base_in 78 (by decide +kernel) rfl
theorem wd_79 : Cond.initialized RL ∈ base := base_in 79 (by decide +kernel) rfl
theorem wd_80 : Cond.initialized RX4 ∈ base := base_in 80 (by decide +kernel) rfl
theorem wd_81 : Cond.initialized RX0 ∈ base := base_in 81 (by decide +kernel) rfl
theorem wd_82 : Cond.initialized RX1 ∈ base := base_in 82 (by decide +kernel) rfl
theorem wd_83 : Cond.initialized RX3 ∈ base := base_in 83 (by decide +kernel) rfl
theorem wd_84 : Cond.initialized RX2 ∈ base := base_in 84 (by decide +kernel) rfl
theorem wd_85 : Cond.initialized RX5 ∈ base := base_in 85 (by decide +kernel) rfl
theorem wd_86 : Cond.initialized RJ6 ∈ base := base_in 86 (by decide +kernel) rfl
theorem wd_87 : Cond.initialized RJ9 ∈ base := base_in 87 (by decide +kernel) rfl
theorem wd_88 : Cond.initialized RJ0 ∈ base := base_in 88 (by decide +kernel) rfl
theorem wd_89 : Cond.initialized RJ1 ∈ base := base_in 89 (by decide +kernel) rfl
theorem wd_90 : Cond.initialized RJ3 ∈ base := base_in 90 (by decide +kernel) rfl
theorem wd_91 : Cond.initialized RJ2 ∈ base := base_in 91 (by decide +kernel) rfl
theorem wd_92 : Cond.initialized RJ10 ∈ base := base_in 92 (by decide +kernel) rfl
theorem wd_95 : Cond.methodLink RL 9 yX4_init ∈ base := base_in 95 (by decide +kernel) rfl
theorem wd_96 : Cond.instanceMethod yX4_init ∈ base := base_in 96 (by decide +kernel) rfl
theorem wd_97 : Cond.code yX4_init cX4_init 2 none ∈ base := base_in 97 (by decide +kernel) rfl
theorem wd_98 : Cond.methodLink RX4 3 ⟨"java/lang/Object", "<init>", "()V"⟩ ∈ base := base_in 98 (by decide +kernel) rfl
theorem wd_99 : Cond.instanceMethod ⟨"java/lang/Object", "<init>", "()V"⟩ ∈ base := base_in 99 (by decide +kernel) rfl
theorem wd_104 : Cond.instanceMethod yX0_init ∈ base := base_in 104 (by decide +kernel) rfl
theorem wd_105 : Cond.code yX0_init cX0_init 1 none ∈ base := base_in 105 (by decide +kernel) rfl
theorem wd_106 : Cond.methodLink RX0 3 ⟨"java/lang/Object", "<init>", "()V"⟩ ∈ base := base_in 106 (by decide +kernel) rfl
theorem wd_107 : Cond.fieldLink RX0 28 "TortoiseShelves$Island" "fencedCells" "I" ∈ base := base_in 107 (by decide +kernel) rfl
theorem wd_110 : Cond.fieldLink RX0 32 "TortoiseShelves$Island" "wetClocks" "I" ∈ base := base_in 110 (by decide +kernel) rfl
theorem wd_113 : Cond.fieldLink RX0 35 "TortoiseShelves$Island" "hour" "I" ∈ base := base_in 113 (by decide +kernel) rfl
theorem wd_115 : Cond.fieldLink RX0 38 "TortoiseShelves$Island" "size" "I" ∈ base := base_in 115 (by decide +kernel) rfl
theorem wd_117 : Cond.fieldLink RX0 9 "TortoiseShelves$Island" "spots" "[I" ∈ base := base_in 117 (by decide +kernel) rfl
theorem wd_120 : Cond.fieldLink RX0 15 "TortoiseShelves$Island" "kinds" "[I" ∈ base := base_in 120 (by decide +kernel) rfl
theorem wd_122 : Cond.fieldLink RX0 18 "TortoiseShelves$Island" "cells" "[I" ∈ base := base_in 122 (by decide +kernel) rfl
theorem wd_124 : Cond.fieldLink RX0 21 "TortoiseShelves$Island" "books" "[I" ∈ base := base_in 124 (by decide +kernel) rfl
theorem wd_126 : Cond.fieldLink RX0 24 "TortoiseShelves$Island" "tipped" "[Z" ∈ base := base_in 126 (by decide +kernel) rfl
theorem wd_128 : Cond.lays "TortoiseShelves$Island" "TortoiseShelves$Island" "fencedCells" "I" ∈ base := base_in 128 (by decide +kernel) rfl
theorem wd_130 : Cond.lays "TortoiseShelves$Island" "TortoiseShelves$Island" "wetClocks" "I" ∈ base := base_in 130 (by decide +kernel) rfl
theorem wd_132 : Cond.lays "TortoiseShelves$Island" "TortoiseShelves$Island" "hour" "I" ∈ base := base_in 132 (by decide +kernel) rfl
theorem wd_134 : Cond.lays "TortoiseShelves$Island" "TortoiseShelves$Island" "size" "I" ∈ base := base_in 134 (by decide +kernel) rfl
theorem wd_136 : Cond.laysFinal "TortoiseShelves$Island" "TortoiseShelves$Island" "spots" "[I" ∈ base := base_in 136 (by decide +kernel) rfl
theorem wd_138 : Cond.laysFinal "TortoiseShelves$Island" "TortoiseShelves$Island" "kinds" "[I" ∈ base := base_in 138 (by decide +kernel) rfl
theorem wd_140 : Cond.laysFinal "TortoiseShelves$Island" "TortoiseShelves$Island" "cells" "[I" ∈ base := base_in 140 (by decide +kernel) rfl
theorem wd_142 : Cond.laysFinal "TortoiseShelves$Island" "TortoiseShelves$Island" "books" "[I" ∈ base := base_in 142 (by decide +kernel) rfl
theorem wd_144 : Cond.laysFinal "TortoiseShelves$Island" "TortoiseShelves$Island" "tipped" "[Z" ∈ base := base_in 144 (by decide +kernel) rfl
theorem wd_152 : Cond.instanceMethod yX1_init ∈ base := base_in 152 (by decide +kernel) rfl
theorem wd_153 : Cond.code yX1_init cX1_init 1 none ∈ base := base_in 153 (by decide +kernel) rfl
theorem wd_154 : Cond.methodLink RX1 3 ⟨"java/lang/Object", "<init>", "()V"⟩ ∈ base := base_in 154 (by decide +kernel) rfl
theorem wd_157 : Cond.fieldLink RX1 12 "TortoiseShelves$Reader" "isle" "LTortoiseShelves$Island;" ∈ base := base_in 157 (by decide +kernel) rfl
theorem wd_159 : Cond.fieldLink RX1 22 "TortoiseShelves$Reader" "reach" "I" ∈ base := base_in 159 (by decide +kernel) rfl
theorem wd_160 : Cond.fieldLink RX1 34 "TortoiseShelves$Reader" "readsIn" "I" ∈ base := base_in 160 (by decide +kernel) rfl
theorem wd_162 : Cond.fieldLink RX1 26 "TortoiseShelves$Reader" "stays" "Z" ∈ base := base_in 162 (by decide +kernel) rfl
theorem wd_163 : Cond.laysFinal "TortoiseShelves$Reader" "TortoiseShelves$Reader" "isle" "LTortoiseShelves$Island;" ∈ base := base_in 163 (by decide +kernel) rfl
theorem wd_165 : Cond.lays "TortoiseShelves$Reader" "TortoiseShelves$Reader" "reach" "I" ∈ base := base_in 165 (by decide +kernel) rfl
theorem wd_167 : Cond.lays "TortoiseShelves$Reader" "TortoiseShelves$Reader" "readsIn" "I" ∈ base := base_in 167 (by decide +kernel) rfl
theorem wd_169 : Cond.lays "TortoiseShelves$Reader" "TortoiseShelves$Reader" "stays" "Z" ∈ base := base_in 169 (by decide +kernel) rfl
theorem wd_175 : Cond.instanceMethod yX3_init ∈ base := base_in 175 (by decide +kernel) rfl
theorem wd_176 : Cond.code yX3_init cX3_init 1 none ∈ base := base_in 176 (by decide +kernel) rfl
theorem wd_177 : Cond.methodLink RX3 3 ⟨"java/lang/Object", "<init>", "()V"⟩ ∈ base := base_in 177 (by decide +kernel) rfl
theorem wd_178 : Cond.fieldLink RX3 9 "TortoiseShelves$Tape" "bytes" "[I" ∈ base := base_in 178 (by decide +kernel) rfl
theorem wd_179 : Cond.fieldLink RX3 15 "TortoiseShelves$Tape" "length" "I" ∈ base := base_in 179 (by decide +kernel) rfl
theorem wd_181 : Cond.fieldLink RX3 29 "TortoiseShelves$Tape" "token" "I" ∈ base := base_in 181 (by decide +kernel) rfl
theorem wd_182 : Cond.fieldLink RX3 32 "TortoiseShelves$Tape" "tokenAt" "I" ∈ base := base_in 182 (by decide +kernel) rfl
theorem wd_183 : Cond.fieldLink RX3 19 "TortoiseShelves$Tape" "tokenEnd" "I" ∈ base := base_in 183 (by decide +kernel) rfl
theorem wd_184 : Cond.fieldLink RX3 116 "TortoiseShelves$Tape" "number" "I" ∈ base := base_in 184 (by decide +kernel) rfl
theorem wd_185 : Cond.fieldLink RX3 97 "TortoiseShelves$Tape" "taken" "I" ∈ base := base_in 185 (by decide +kernel) rfl
theorem wd_186 : Cond.laysFinal "TortoiseShelves$Tape" "TortoiseShelves$Tape" "bytes" "[I" ∈ base := base_in 186 (by decide +kernel) rfl
theorem wd_188 : Cond.lays "TortoiseShelves$Tape" "TortoiseShelves$Tape" "length" "I" ∈ base := base_in 188 (by decide +kernel) rfl
theorem wd_190 : Cond.lays "TortoiseShelves$Tape" "TortoiseShelves$Tape" "token" "I" ∈ base := base_in 190 (by decide +kernel) rfl
theorem wd_192 : Cond.lays "TortoiseShelves$Tape" "TortoiseShelves$Tape" "tokenAt" "I" ∈ base := base_in 192 (by decide +kernel) rfl
theorem wd_194 : Cond.lays "TortoiseShelves$Tape" "TortoiseShelves$Tape" "tokenEnd" "I" ∈ base := base_in 194 (by decide +kernel) rfl
theorem wd_196 : Cond.lays "TortoiseShelves$Tape" "TortoiseShelves$Tape" "number" "I" ∈ base := base_in 196 (by decide +kernel) rfl
theorem wd_198 : Cond.lays "TortoiseShelves$Tape" "TortoiseShelves$Tape" "taken" "I" ∈ base := base_in 198 (by decide +kernel) rfl
theorem wd_205 : Cond.instanceMethod yX2_init ∈ base := base_in 205 (by decide +kernel) rfl
theorem wd_206 : Cond.code yX2_init cX2_init 1 none ∈ base := base_in 206 (by decide +kernel) rfl
theorem wd_207 : Cond.methodLink RX2 3 ⟨"java/lang/Object", "<init>", "()V"⟩ ∈ base := base_in 207 (by decide +kernel) rfl
theorem wd_208 : Cond.fieldLink RX2 9 "TortoiseShelves$Sheet" "numbers" "[J" ∈ base := base_in 208 (by decide +kernel) rfl
theorem wd_211 : Cond.fieldLink RX2 15 "TortoiseShelves$Sheet" "bits" "I" ∈ base := base_in 211 (by decide +kernel) rfl
theorem wd_213 : Cond.fieldLink RX2 19 "TortoiseShelves$Sheet" "length" "I" ∈ base := base_in 213 (by decide +kernel) rfl
theorem wd_216 : Cond.laysFinal "TortoiseShelves$Sheet" "TortoiseShelves$Sheet" "numbers" "[J" ∈ base := base_in 216 (by decide +kernel) rfl
theorem wd_218 : Cond.lays "TortoiseShelves$Sheet" "TortoiseShelves$Sheet" "bits" "I" ∈ base := base_in 218 (by decide +kernel) rfl
theorem wd_220 : Cond.lays "TortoiseShelves$Sheet" "TortoiseShelves$Sheet" "length" "I" ∈ base := base_in 220 (by decide +kernel) rfl
theorem wd_224 : Cond.fieldLink RX4 12 "TortoiseShelves" "isle" "LTortoiseShelves$Island;" ∈ base := base_in 224 (by decide +kernel) rfl
theorem wd_225 : Cond.fieldLink RX4 16 "TortoiseShelves" "ahead" "LTortoiseShelves$Island;" ∈ base := base_in 225 (by decide +kernel) rfl
theorem wd_226 : Cond.fieldLink RX4 19 "TortoiseShelves" "kept" "LTortoiseShelves$Island;" ∈ base := base_in 226 (by decide +kernel) rfl
theorem wd_227 : Cond.fieldLink RX4 25 "TortoiseShelves" "reader" "LTortoiseShelves$Reader;" ∈ base := base_in 227 (by decide +kernel) rfl
theorem wd_228 : Cond.fieldLink RX4 32 "TortoiseShelves" "tape" "LTortoiseShelves$Tape;" ∈ base := base_in 228 (by decide +kernel) rfl
theorem wd_229 : Cond.fieldLink RX4 38 "TortoiseShelves" "sheets" "[LTortoiseShelves$Sheet;" ∈ base := base_in 229 (by decide +kernel) rfl
theorem wd_230 : Cond.fieldLink RX4 43 "TortoiseShelves" "found" "[I" ∈ base := base_in 230 (by decide +kernel) rfl
theorem wd_231 : Cond.fieldLink RX4 47 "TortoiseShelves" "keeps" "Z" ∈ base := base_in 231 (by decide +kernel) rfl
theorem wd_232 : Cond.laysFinal "TortoiseShelves" "TortoiseShelves" "isle" "LTortoiseShelves$Island;" ∈ base := base_in 232 (by decide +kernel) rfl
theorem wd_234 : Cond.laysFinal "TortoiseShelves" "TortoiseShelves" "ahead" "LTortoiseShelves$Island;" ∈ base := base_in 234 (by decide +kernel) rfl
theorem wd_236 : Cond.laysFinal "TortoiseShelves" "TortoiseShelves" "kept" "LTortoiseShelves$Island;" ∈ base := base_in 236 (by decide +kernel) rfl
theorem wd_238 : Cond.laysFinal "TortoiseShelves" "TortoiseShelves" "reader" "LTortoiseShelves$Reader;" ∈ base := base_in 238 (by decide +kernel) rfl
theorem wd_240 : Cond.laysFinal "TortoiseShelves" "TortoiseShelves" "tape" "LTortoiseShelves$Tape;" ∈ base := base_in 240 (by decide +kernel) rfl
theorem wd_242 : Cond.laysFinal "TortoiseShelves" "TortoiseShelves" "sheets" "[LTortoiseShelves$Sheet;" ∈ base := base_in 242 (by decide +kernel) rfl
theorem wd_244 : Cond.laysFinal "TortoiseShelves" "TortoiseShelves" "found" "[I" ∈ base := base_in 244 (by decide +kernel) rfl
theorem wd_246 : Cond.lays "TortoiseShelves" "TortoiseShelves" "keeps" "Z" ∈ base := base_in 246 (by decide +kernel) rfl
theorem wd_249 : Cond.methodLink RL 13 yX4_fence ∈ base := base_in 249 (by decide +kernel) rfl
theorem wd_250 : Cond.instanceMethod yX4_fence ∈ base := base_in 250 (by decide +kernel) rfl
theorem wd_251 : Cond.selects RX4 yX4_fence yX4_fence ∈ base := base_in 251 (by decide +kernel) rfl
theorem wd_252 : Cond.code yX4_fence cX4_fence 4 (some .int) ∈ base := base_in 252 (by decide +kernel) rfl
theorem wd_253 : Cond.methodLink RX4 51 yX4_isCell ∈ base := base_in 253 (by decide +kernel) rfl
theorem wd_254 : Cond.static yX4_isCell ∈ base := base_in 254 (by decide +kernel) rfl
theorem wd_255 : Cond.code yX4_isCell cX4_isCell 1 (some .boolean) ∈ base := base_in 255 (by decide +kernel) rfl
theorem wd_256 : Cond.methodLink RX4 69 yX4_isBelow ∈ base := base_in 256 (by decide +kernel) rfl
theorem wd_257 : Cond.static yX4_isBelow ∈ base := base_in 257 (by decide +kernel) rfl
theorem wd_258 : Cond.code yX4_isBelow cX4_isBelow 2 (some .boolean) ∈ base := base_in 258 (by decide +kernel) rfl
theorem wd_259 : Cond.methodLink RX4 55 yX4_isFlag ∈ base := base_in 259 (by decide +kernel) rfl
theorem wd_260 : Cond.static yX4_isFlag ∈ base := base_in 260 (by decide +kernel) rfl
theorem wd_261 : Cond.code yX4_isFlag cX4_isFlag 1 (some .boolean) ∈ base := base_in 261 (by decide +kernel) rfl
theorem wd_262 : Cond.methodLink RX4 58 yX4_finding ∈ base := base_in 262 (by decide +kernel) rfl
theorem wd_264 : Cond.instanceMethod yX4_finding ∈ base := base_in 264 (by decide +kernel) rfl
theorem wd_265 : Cond.code yX4_finding cX4_finding 2 (some .int) ∈ base := base_in 265 (by decide +kernel) rfl
theorem wd_266 : Cond.constant RX4 278 (-1000000001) ∈ base := base_in 266 (by decide +kernel) rfl
theorem wd_267 : Cond.methodLink RX4 62 yX0_isFenced ∈ base := base_in 267 (by decide +kernel) rfl
theorem wd_268 : Cond.instanceMethod yX0_isFenced ∈ base := base_in 268 (by decide +kernel) rfl
theorem wd_269 : Cond.selects RX0 yX0_isFenced yX0_isFenced ∈ base := base_in 269 (by decide +kernel) rfl
theorem wd_270 : Cond.code yX0_isFenced cX0_isFenced 2 (some .boolean) ∈ base := base_in 270 (by decide +kernel) rfl
theorem wd_271 : Cond.methodLink RX4 65 yX0_fences ∈ base := base_in 271 (by decide +kernel) rfl
theorem wd_272 : Cond.instanceMethod yX0_fences ∈ base := base_in 272 (by decide +kernel) rfl
theorem wd_273 : Cond.selects RX0 yX0_fences yX0_fences ∈ base := base_in 273 (by decide +kernel) rfl
theorem wd_274 : Cond.code yX0_fences cX0_fences 3 none ∈ base := base_in 274 (by decide +kernel) rfl
theorem wd_275 : Cond.methodLink RL 18 yX4_spot ∈ base := base_in 275 (by decide +kernel) rfl
theorem wd_276 : Cond.instanceMethod yX4_spot ∈ base := base_in 276 (by decide +kernel) rfl
theorem wd_277 : Cond.selects RX4 yX4_spot yX4_spot ∈ base := base_in 277 (by decide +kernel) rfl
theorem wd_278 : Cond.code yX4_spot cX4_spot 4 (some .int) ∈ base := base_in 278 (by decide +kernel) rfl
theorem wd_279 : Cond.methodLink RL 22 yX4_rain ∈ base := base_in 279 (by decide +kernel) rfl
theorem wd_280 : Cond.instanceMethod yX4_rain ∈ base := base_in 280 (by decide +kernel) rfl
theorem wd_281 : Cond.selects RX4 yX4_rain yX4_rain ∈ base := base_in 281 (by decide +kernel) rfl
theorem wd_282 : Cond.code yX4_rain cX4_rain 3 (some .int) ∈ base := base_in 282 (by decide +kernel) rfl
theorem wd_283 : Cond.constant RX4 76 (16777215) ∈ base := base_in 283 (by decide +kernel) rfl
theorem wd_284 : Cond.methodLink RX4 77 yX4_isSetOf ∈ base := base_in 284 (by decide +kernel) rfl
theorem wd_285 : Cond.static yX4_isSetOf ∈ base := base_in 285 (by decide +kernel) rfl
theorem wd_286 : Cond.code yX4_isSetOf cX4_isSetOf 2 (some .boolean) ∈ base := base_in 286 (by decide +kernel) rfl
theorem wd_287 : Cond.methodLink RL 27 yX4_cell ∈ base := base_in 287 (by decide +kernel) rfl
theorem wd_288 : Cond.instanceMethod yX4_cell ∈ base := base_in 288 (by decide +kernel) rfl
theorem wd_289 : Cond.selects RX4 yX4_cell yX4_cell ∈ base := base_in 289 (by decide +kernel) rfl
theorem wd_290 : Cond.code yX4_cell cX4_cell 3 (some .int) ∈ base := base_in 290 (by decide +kernel) rfl
theorem wd_291 : Cond.methodLink RX4 84 yX0_tortoisesIn ∈ base := base_in 291 (by decide +kernel) rfl
theorem wd_292 : Cond.instanceMethod yX0_tortoisesIn ∈ base := base_in 292 (by decide +kernel) rfl
theorem wd_293 : Cond.selects RX0 yX0_tortoisesIn yX0_tortoisesIn ∈ base := base_in 293 (by decide +kernel) rfl
theorem wd_294 : Cond.code yX0_tortoisesIn cX0_tortoisesIn 4 (some .int) ∈ base := base_in 294 (by decide +kernel) rfl
theorem wd_295 : Cond.methodLink RX4 87 yX0_subjectsIn ∈ base := base_in 295 (by decide +kernel) rfl
theorem wd_296 : Cond.instanceMethod yX0_subjectsIn ∈ base := base_in 296 (by decide +kernel) rfl
theorem wd_297 : Cond.selects RX0 yX0_subjectsIn yX0_subjectsIn ∈ base := base_in 297 (by decide +kernel) rfl
theorem wd_298 : Cond.code yX0_subjectsIn cX0_subjectsIn 4 (some .int) ∈ base := base_in 298 (by decide +kernel) rfl
theorem wd_299 : Cond.methodLink RL 31 yX4_tortoise ∈ base := base_in 299 (by decide +kernel) rfl
theorem wd_300 : Cond.instanceMethod yX4_tortoise ∈ base := base_in 300 (by decide +kernel) rfl
theorem wd_301 : Cond.selects RX4 yX4_tortoise yX4_tortoise ∈ base := base_in 301 (by decide +kernel) rfl
theorem wd_302 : Cond.code yX4_tortoise cX4_tortoise 4 (some .int) ∈ base := base_in 302 (by decide +kernel) rfl
theorem wd_303 : Cond.methodLink RX4 90 yX4_isKind ∈ base := base_in 303 (by decide +kernel) rfl
theorem wd_304 : Cond.static yX4_isKind ∈ base := base_in 304 (by decide +kernel) rfl
theorem wd_305 : Cond.code yX4_isKind cX4_isKind 1 (some .boolean) ∈ base := base_in 305 (by decide +kernel) rfl
theorem wd_306 : Cond.methodLink RX4 93 yX0_isFull ∈ base := base_in 306 (by decide +kernel) rfl
theorem wd_307 : Cond.instanceMethod yX0_isFull ∈ base := base_in 307 (by decide +kernel) rfl
theorem wd_308 : Cond.selects RX0 yX0_isFull yX0_isFull ∈ base := base_in 308 (by decide +kernel) rfl
theorem wd_309 : Cond.code yX0_isFull cX0_isFull 1 (some .boolean) ∈ base := base_in 309 (by decide +kernel) rfl
theorem wd_310 : Cond.methodLink RX4 97 yX0_comes ∈ base := base_in 310 (by decide +kernel) rfl
theorem wd_311 : Cond.instanceMethod yX0_comes ∈ base := base_in 311 (by decide +kernel) rfl
theorem wd_312 : Cond.selects RX0 yX0_comes yX0_comes ∈ base := base_in 312 (by decide +kernel) rfl
theorem wd_313 : Cond.code yX0_comes cX0_comes 5 (some .int) ∈ base := base_in 313 (by decide +kernel) rfl
theorem wd_314 : Cond.methodLink RL 36 yX4_of ∈ base := base_in 314 (by decide +kernel) rfl
theorem wd_315 : Cond.instanceMethod yX4_of ∈ base := base_in 315 (by decide +kernel) rfl
theorem wd_316 : Cond.selects RX4 yX4_of yX4_of ∈ base := base_in 316 (by decide +kernel) rfl
theorem wd_317 : Cond.code yX4_of cX4_of 3 (some .int) ∈ base := base_in 317 (by decide +kernel) rfl
theorem wd_318 : Cond.methodLink RX4 101 yX0_has ∈ base := base_in 318 (by decide +kernel) rfl
theorem wd_319 : Cond.instanceMethod yX0_has ∈ base := base_in 319 (by decide +kernel) rfl
theorem wd_320 : Cond.selects RX0 yX0_has yX0_has ∈ base := base_in 320 (by decide +kernel) rfl
theorem wd_321 : Cond.code yX0_has cX0_has 2 (some .boolean) ∈ base := base_in 321 (by decide +kernel) rfl
theorem wd_323 : Cond.methodLink RX4 117 yX0_aimOf ∈ base := base_in 323 (by decide +kernel) rfl
theorem wd_324 : Cond.instanceMethod yX0_aimOf ∈ base := base_in 324 (by decide +kernel) rfl
theorem wd_325 : Cond.selects RX0 yX0_aimOf yX0_aimOf ∈ base := base_in 325 (by decide +kernel) rfl
theorem wd_326 : Cond.code yX0_aimOf cX0_aimOf 3 (some .int) ∈ base := base_in 326 (by decide +kernel) rfl
theorem wd_327 : Cond.methodLink RX0 51 yX0_clock ∈ base := base_in 327 (by decide +kernel) rfl
theorem wd_328 : Cond.instanceMethod yX0_clock ∈ base := base_in 328 (by decide +kernel) rfl
theorem wd_329 : Cond.selects RX0 yX0_clock yX0_clock ∈ base := base_in 329 (by decide +kernel) rfl
theorem wd_330 : Cond.code yX0_clock cX0_clock 1 (some .int) ∈ base := base_in 330 (by decide +kernel) rfl
theorem wd_331 : Cond.methodLink RX0 55 yX0_aimOfLaw ∈ base := base_in 331 (by decide +kernel) rfl
theorem wd_333 : Cond.instanceMethod yX0_aimOfLaw ∈ base := base_in 333 (by decide +kernel) rfl
theorem wd_334 : Cond.code yX0_aimOfLaw cX0_aimOfLaw 2 (some .int) ∈ base := base_in 334 (by decide +kernel) rfl
theorem wd_335 : Cond.methodLink RX0 58 yX0_rainsAt ∈ base := base_in 335 (by decide +kernel) rfl
theorem wd_336 : Cond.instanceMethod yX0_rainsAt ∈ base := base_in 336 (by decide +kernel) rfl
theorem wd_337 : Cond.selects RX0 yX0_rainsAt yX0_rainsAt ∈ base := base_in 337 (by decide +kernel) rfl
theorem wd_338 : Cond.code yX0_rainsAt cX0_rainsAt 2 (some .boolean) ∈ base := base_in 338 (by decide +kernel) rfl
theorem wd_339 : Cond.methodLink RX4 120 yX0_paceOf ∈ base := base_in 339 (by decide +kernel) rfl
theorem wd_340 : Cond.instanceMethod yX0_paceOf ∈ base := base_in 340 (by decide +kernel) rfl
theorem wd_341 : Cond.selects RX0 yX0_paceOf yX0_paceOf ∈ base := base_in 341 (by decide +kernel) rfl
theorem wd_342 : Cond.code yX0_paceOf cX0_paceOf 2 (some .int) ∈ base := base_in 342 (by decide +kernel) rfl
theorem wd_343 : Cond.methodLink RL 40 yX4_set ∈ base := base_in 343 (by decide +kernel) rfl
theorem wd_344 : Cond.instanceMethod yX4_set ∈ base := base_in 344 (by decide +kernel) rfl
theorem wd_345 : Cond.selects RX4 yX4_set yX4_set ∈ base := base_in 345 (by decide +kernel) rfl
theorem wd_346 : Cond.code yX4_set cX4_set 5 (some .int) ∈ base := base_in 346 (by decide +kernel) rfl
theorem wd_347 : Cond.methodLink RL 44 yX4_turn ∈ base := base_in 347 (by decide +kernel) rfl
theorem wd_348 : Cond.instanceMethod yX4_turn ∈ base := base_in 348 (by decide +kernel) rfl
theorem wd_349 : Cond.selects RX4 yX4_turn yX4_turn ∈ base := base_in 349 (by decide +kernel) rfl
theorem wd_350 : Cond.code yX4_turn cX4_turn 4 (some .int) ∈ base := base_in 350 (by decide +kernel) rfl
theorem wd_351 : Cond.methodLink RL 48 yX4_as ∈ base := base_in 351 (by decide +kernel) rfl
theorem wd_352 : Cond.instanceMethod yX4_as ∈ base := base_in 352 (by decide +kernel) rfl
theorem wd_353 : Cond.selects RX4 yX4_as yX4_as ∈ base := base_in 353 (by decide +kernel) rfl
theorem wd_354 : Cond.code yX4_as cX4_as 3 (some .int) ∈ base := base_in 354 (by decide +kernel) rfl
theorem wd_355 : Cond.methodLink RX4 123 yX4_isUnder ∈ base := base_in 355 (by decide +kernel) rfl
theorem wd_356 : Cond.static yX4_isUnder ∈ base := base_in 356 (by decide +kernel) rfl
theorem wd_357 : Cond.code yX4_isUnder cX4_isUnder 4 (some .boolean) ∈ base := base_in 357 (by decide +kernel) rfl
theorem wd_358 : Cond.fieldLink RX4 287 "TortoiseShelves" "KIND_ABOVE" "[I" ∈ base := base_in 358 (by decide +kernel) rfl
theorem wd_360 : Cond.methodLink RL 52 yX4_lend ∈ base := base_in 360 (by decide +kernel) rfl
theorem wd_361 : Cond.instanceMethod yX4_lend ∈ base := base_in 361 (by decide +kernel) rfl
theorem wd_362 : Cond.selects RX4 yX4_lend yX4_lend ∈ base := base_in 362 (by decide +kernel) rfl
theorem wd_363 : Cond.code yX4_lend cX4_lend 5 (some .int) ∈ base := base_in 363 (by decide +kernel) rfl
theorem wd_364 : Cond.methodLink RX4 126 yX4_areTwo ∈ base := base_in 364 (by decide +kernel) rfl
theorem wd_366 : Cond.instanceMethod yX4_areTwo ∈ base := base_in 366 (by decide +kernel) rfl
theorem wd_367 : Cond.code yX4_areTwo cX4_areTwo 3 (some .boolean) ∈ base := base_in 367 (by decide +kernel) rfl
theorem wd_368 : Cond.methodLink RX4 129 yX4_isSubject ∈ base := base_in 368 (by decide +kernel) rfl
theorem wd_369 : Cond.static yX4_isSubject ∈ base := base_in 369 (by decide +kernel) rfl
theorem wd_370 : Cond.code yX4_isSubject cX4_isSubject 1 (some .boolean) ∈ base := base_in 370 (by decide +kernel) rfl
theorem wd_371 : Cond.methodLink RX4 132 yX0_handsOver ∈ base := base_in 371 (by decide +kernel) rfl
theorem wd_372 : Cond.instanceMethod yX0_handsOver ∈ base := base_in 372 (by decide +kernel) rfl
theorem wd_373 : Cond.selects RX0 yX0_handsOver yX0_handsOver ∈ base := base_in 373 (by decide +kernel) rfl
theorem wd_374 : Cond.code yX0_handsOver cX0_handsOver 4 none ∈ base := base_in 374 (by decide +kernel) rfl
theorem wd_375 : Cond.methodLink RL 56 yX4_hours ∈ base := base_in 375 (by decide +kernel) rfl
theorem wd_376 : Cond.instanceMethod yX4_hours ∈ base := base_in 376 (by decide +kernel) rfl
theorem wd_377 : Cond.selects RX4 yX4_hours yX4_hours ∈ base := base_in 377 (by decide +kernel) rfl
theorem wd_378 : Cond.code yX4_hours cX4_hours 2 (some .int) ∈ base := base_in 378 (by decide +kernel) rfl
theorem wd_379 : Cond.methodLink RX4 139 yX0_goHours ∈ base := base_in 379 (by decide +kernel) rfl
theorem wd_380 : Cond.instanceMethod yX0_goHours ∈ base := base_in 380 (by decide +kernel) rfl
theorem wd_381 : Cond.selects RX0 yX0_goHours yX0_goHours ∈ base := base_in 381 (by decide +kernel) rfl
theorem wd_382 : Cond.code yX0_goHours cX0_goHours 3 none ∈ base := base_in 382 (by decide +kernel) rfl
theorem wd_383 : Cond.methodLink RX0 62 yX0_goAnHour ∈ base := base_in 383 (by decide +kernel) rfl
theorem wd_384 : Cond.instanceMethod yX0_goAnHour ∈ base := base_in 384 (by decide +kernel) rfl
theorem wd_385 : Cond.selects RX0 yX0_goAnHour yX0_goAnHour ∈ base := base_in 385 (by decide +kernel) rfl
theorem wd_386 : Cond.code yX0_goAnHour cX0_goAnHour 2 none ∈ base := base_in 386 (by decide +kernel) rfl
theorem wd_387 : Cond.methodLink RX0 65 yX0_walk ∈ base := base_in 387 (by decide +kernel) rfl
theorem wd_389 : Cond.instanceMethod yX0_walk ∈ base := base_in 389 (by decide +kernel) rfl
theorem wd_390 : Cond.code yX0_walk cX0_walk 5 none ∈ base := base_in 390 (by decide +kernel) rfl
theorem wd_391 : Cond.methodLink RX0 72 yX0_aimOf ∈ base := base_in 391 (by decide +kernel) rfl
theorem wd_392 : Cond.methodLink RX0 75 yX0_paceOf ∈ base := base_in 392 (by decide +kernel) rfl
theorem wd_393 : Cond.methodLink RX0 78 yX0_stepFrom ∈ base := base_in 393 (by decide +kernel) rfl
theorem wd_395 : Cond.instanceMethod yX0_stepFrom ∈ base := base_in 395 (by decide +kernel) rfl
theorem wd_396 : Cond.code yX0_stepFrom cX0_stepFrom 6 (some .int) ∈ base := base_in 396 (by decide +kernel) rfl
theorem wd_397 : Cond.methodLink RX0 82 yX0_isFenced ∈ base := base_in 397 (by decide +kernel) rfl
theorem wd_398 : Cond.methodLink RX0 69 yX0_meetAll ∈ base := base_in 398 (by decide +kernel) rfl
theorem wd_400 : Cond.instanceMethod yX0_meetAll ∈ base := base_in 400 (by decide +kernel) rfl
theorem wd_401 : Cond.code yX0_meetAll cX0_meetAll 3 none ∈ base := base_in 401 (by decide +kernel) rfl
theorem wd_402 : Cond.methodLink RX0 85 yX0_meetTwo ∈ base := base_in 402 (by decide +kernel) rfl
theorem wd_404 : Cond.instanceMethod yX0_meetTwo ∈ base := base_in 404 (by decide +kernel) rfl
theorem wd_405 : Cond.code yX0_meetTwo cX0_meetTwo 4 none ∈ base := base_in 405 (by decide +kernel) rfl
theorem wd_406 : Cond.methodLink RX0 45 yJ6_bitCount_0f7a4 ∈ base := base_in 406 (by decide +kernel) rfl
theorem wd_407 : Cond.static yJ6_bitCount_0f7a4 ∈ base := base_in 407 (by decide +kernel) rfl
theorem wd_408 : Cond.code yJ6_bitCount_0f7a4 cJ6_bitCount_0f7a4 1 (some .int) ∈ base := base_in 408 (by decide +kernel) rfl
theorem wd_409 : Cond.constant RJ6 265 (1431655765) ∈ base := base_in 409 (by decide +kernel) rfl
theorem wd_410 : Cond.constant RJ6 266 (858993459) ∈ base := base_in 410 (by decide +kernel) rfl
theorem wd_411 : Cond.constant RJ6 267 (252645135) ∈ base := base_in 411 (by decide +kernel) rfl
theorem wd_412 : Cond.methodLink RX0 89 yX0_handsOver ∈ base := base_in 412 (by decide +kernel) rfl
theorem wd_413 : Cond.methodLink RX4 143 yX0_booksOfAll ∈ base := base_in 413 (by decide +kernel) rfl
theorem wd_414 : Cond.instanceMethod yX0_booksOfAll ∈ base := base_in 414 (by decide +kernel) rfl
theorem wd_415 : Cond.selects RX0 yX0_booksOfAll yX0_booksOfAll ∈ base := base_in 415 (by decide +kernel) rfl
theorem wd_416 : Cond.code yX0_booksOfAll cX0_booksOfAll 3 (some .int) ∈ base := base_in 416 (by decide +kernel) rfl
theorem wd_417 : Cond.methodLink RL 60 yX4_now ∈ base := base_in 417 (by decide +kernel) rfl
theorem wd_418 : Cond.instanceMethod yX4_now ∈ base := base_in 418 (by decide +kernel) rfl
theorem wd_419 : Cond.selects RX4 yX4_now yX4_now ∈ base := base_in 419 (by decide +kernel) rfl
theorem wd_420 : Cond.code yX4_now cX4_now 2 (some .int) ∈ base := base_in 420 (by decide +kernel) rfl
theorem wd_421 : Cond.methodLink RX4 147 yX0_clock ∈ base := base_in 421 (by decide +kernel) rfl
theorem wd_422 : Cond.methodLink RX4 150 yX0_rainsAt ∈ base := base_in 422 (by decide +kernel) rfl
theorem wd_423 : Cond.constant RX4 153 (1073741823) ∈ base := base_in 423 (by decide +kernel) rfl
theorem wd_424 : Cond.methodLink RX4 154 yX0_allTortoises ∈ base := base_in 424 (by decide +kernel) rfl
theorem wd_425 : Cond.instanceMethod yX0_allTortoises ∈ base := base_in 425 (by decide +kernel) rfl
theorem wd_426 : Cond.selects RX0 yX0_allTortoises yX0_allTortoises ∈ base := base_in 426 (by decide +kernel) rfl
theorem wd_427 : Cond.code yX0_allTortoises cX0_allTortoises 1 (some .int) ∈ base := base_in 427 (by decide +kernel) rfl
theorem wd_428 : Cond.methodLink RX4 157 yX0_cellsOf ∈ base := base_in 428 (by decide +kernel) rfl
theorem wd_429 : Cond.instanceMethod yX0_cellsOf ∈ base := base_in 429 (by decide +kernel) rfl
theorem wd_430 : Cond.selects RX0 yX0_cellsOf yX0_cellsOf ∈ base := base_in 430 (by decide +kernel) rfl
theorem wd_431 : Cond.code yX0_cellsOf cX0_cellsOf 4 (some .int) ∈ base := base_in 431 (by decide +kernel) rfl
theorem wd_432 : Cond.methodLink RL 64 yX4_on ∈ base := base_in 432 (by decide +kernel) rfl
theorem wd_433 : Cond.instanceMethod yX4_on ∈ base := base_in 433 (by decide +kernel) rfl
theorem wd_434 : Cond.selects RX4 yX4_on yX4_on ∈ base := base_in 434 (by decide +kernel) rfl
theorem wd_435 : Cond.code yX4_on cX4_on 4 (some .int) ∈ base := base_in 435 (by decide +kernel) rfl
theorem wd_436 : Cond.methodLink RX4 160 yX4_isForeseen ∈ base := base_in 436 (by decide +kernel) rfl
theorem wd_437 : Cond.static yX4_isForeseen ∈ base := base_in 437 (by decide +kernel) rfl
theorem wd_438 : Cond.code yX4_isForeseen cX4_isForeseen 1 (some .boolean) ∈ base := base_in 438 (by decide +kernel) rfl
theorem wd_439 : Cond.methodLink RX4 163 yX0_becomes ∈ base := base_in 439 (by decide +kernel) rfl
theorem wd_440 : Cond.instanceMethod yX0_becomes ∈ base := base_in 440 (by decide +kernel) rfl
theorem wd_441 : Cond.selects RX0 yX0_becomes yX0_becomes ∈ base := base_in 441 (by decide +kernel) rfl
theorem wd_442 : Cond.code yX0_becomes cX0_becomes 3 none ∈ base := base_in 442 (by decide +kernel) rfl
theorem wd_443 : Cond.methodLink RL 68 yX4_when ∈ base := base_in 443 (by decide +kernel) rfl
theorem wd_444 : Cond.instanceMethod yX4_when ∈ base := base_in 444 (by decide +kernel) rfl
theorem wd_445 : Cond.selects RX4 yX4_when yX4_when ∈ base := base_in 445 (by decide +kernel) rfl
theorem wd_446 : Cond.code yX4_when cX4_when 3 (some .int) ∈ base := base_in 446 (by decide +kernel) rfl
theorem wd_447 : Cond.methodLink RX4 167 yX0_hoursTill ∈ base := base_in 447 (by decide +kernel) rfl
theorem wd_448 : Cond.instanceMethod yX0_hoursTill ∈ base := base_in 448 (by decide +kernel) rfl
theorem wd_449 : Cond.selects RX0 yX0_hoursTill yX0_hoursTill ∈ base := base_in 449 (by decide +kernel) rfl
theorem wd_450 : Cond.code yX0_hoursTill cX0_hoursTill 5 (some .int) ∈ base := base_in 450 (by decide +kernel) rfl
theorem wd_451 : Cond.methodLink RX0 93 yX0_goAlone ∈ base := base_in 451 (by decide +kernel) rfl
theorem wd_452 : Cond.instanceMethod yX0_goAlone ∈ base := base_in 452 (by decide +kernel) rfl
theorem wd_453 : Cond.selects RX0 yX0_goAlone yX0_goAlone ∈ base := base_in 453 (by decide +kernel) rfl
theorem wd_454 : Cond.code yX0_goAlone cX0_goAlone 2 none ∈ base := base_in 454 (by decide +kernel) rfl
theorem wd_455 : Cond.methodLink RX4 170 yX4_hoursOrNone ∈ base := base_in 455 (by decide +kernel) rfl
theorem wd_457 : Cond.instanceMethod yX4_hoursOrNone ∈ base := base_in 457 (by decide +kernel) rfl
theorem wd_458 : Cond.code yX4_hoursOrNone cX4_hoursOrNone 2 (some .int) ∈ base := base_in 458 (by decide +kernel) rfl
theorem wd_459 : Cond.methodLink RL 72 yX4_meet ∈ base := base_in 459 (by decide +kernel) rfl
theorem wd_460 : Cond.instanceMethod yX4_meet ∈ base := base_in 460 (by decide +kernel) rfl
theorem wd_461 : Cond.selects RX4 yX4_meet yX4_meet ∈ base := base_in 461 (by decide +kernel) rfl
theorem wd_462 : Cond.code yX4_meet cX4_meet 3 (some .int) ∈ base := base_in 462 (by decide +kernel) rfl
theorem wd_463 : Cond.methodLink RX4 173 yX0_hoursTillTogether ∈ base := base_in 463 (by decide +kernel) rfl
theorem wd_464 : Cond.instanceMethod yX0_hoursTillTogether ∈ base := base_in 464 (by decide +kernel) rfl
theorem wd_465 : Cond.selects RX0 yX0_hoursTillTogether yX0_hoursTillTogether ∈ base := base_in 465 (by decide +kernel) rfl
theorem wd_466 : Cond.code yX0_hoursTillTogether cX0_hoursTillTogether 5 (some .int) ∈ base := base_in 466 (by decide +kernel) rfl
theorem wd_467 : Cond.methodLink RL 76 yX4_carries ∈ base := base_in 467 (by decide +kernel) rfl
theorem wd_468 : Cond.instanceMethod yX4_carries ∈ base := base_in 468 (by decide +kernel) rfl
theorem wd_469 : Cond.selects RX4 yX4_carries yX4_carries ∈ base := base_in 469 (by decide +kernel) rfl
theorem wd_470 : Cond.code yX4_carries cX4_carries 3 (some .int) ∈ base := base_in 470 (by decide +kernel) rfl
theorem wd_471 : Cond.methodLink RX4 176 yX0_tortoisesWith ∈ base := base_in 471 (by decide +kernel) rfl
theorem wd_472 : Cond.instanceMethod yX0_tortoisesWith ∈ base := base_in 472 (by decide +kernel) rfl
theorem wd_473 : Cond.selects RX0 yX0_tortoisesWith yX0_tortoisesWith ∈ base := base_in 473 (by decide +kernel) rfl
theorem wd_474 : Cond.code yX0_tortoisesWith cX0_tortoisesWith 4 (some .int) ∈ base := base_in 474 (by decide +kernel) rfl
theorem wd_475 : Cond.methodLink RL 80 yX4_soonest ∈ base := base_in 475 (by decide +kernel) rfl
theorem wd_476 : Cond.instanceMethod yX4_soonest ∈ base := base_in 476 (by decide +kernel) rfl
theorem wd_477 : Cond.selects RX4 yX4_soonest yX4_soonest ∈ base := base_in 477 (by decide +kernel) rfl
theorem wd_478 : Cond.code yX4_soonest cX4_soonest 4 (some .int) ∈ base := base_in 478 (by decide +kernel) rfl
theorem wd_479 : Cond.methodLink RX4 179 yX4_askOfReader ∈ base := base_in 479 (by decide +kernel) rfl
theorem wd_481 : Cond.instanceMethod yX4_askOfReader ∈ base := base_in 481 (by decide +kernel) rfl
theorem wd_482 : Cond.code yX4_askOfReader cX4_askOfReader 3 (some .int) ∈ base := base_in 482 (by decide +kernel) rfl
theorem wd_483 : Cond.methodLink RX4 183 yX1_goesFrom ∈ base := base_in 483 (by decide +kernel) rfl
theorem wd_484 : Cond.instanceMethod yX1_goesFrom ∈ base := base_in 484 (by decide +kernel) rfl
theorem wd_485 : Cond.selects RX1 yX1_goesFrom yX1_goesFrom ∈ base := base_in 485 (by decide +kernel) rfl
theorem wd_486 : Cond.code yX1_goesFrom cX1_goesFrom 3 none ∈ base := base_in 486 (by decide +kernel) rfl
theorem wd_487 : Cond.methodLink RX1 18 yX0_becomes ∈ base := base_in 487 (by decide +kernel) rfl
theorem wd_488 : Cond.methodLink RX4 187 yX1_seek ∈ base := base_in 488 (by decide +kernel) rfl
theorem wd_489 : Cond.instanceMethod yX1_seek ∈ base := base_in 489 (by decide +kernel) rfl
theorem wd_490 : Cond.selects RX1 yX1_seek yX1_seek ∈ base := base_in 490 (by decide +kernel) rfl
theorem wd_491 : Cond.code yX1_seek cX1_seek 4 (some .int) ∈ base := base_in 491 (by decide +kernel) rfl
theorem wd_492 : Cond.methodLink RX1 30 yX1_cellsWith ∈ base := base_in 492 (by decide +kernel) rfl
theorem wd_494 : Cond.instanceMethod yX1_cellsWith ∈ base := base_in 494 (by decide +kernel) rfl
theorem wd_495 : Cond.code yX1_cellsWith cX1_cellsWith 2 (some .int) ∈ base := base_in 495 (by decide +kernel) rfl
theorem wd_496 : Cond.methodLink RX1 46 yX0_tortoisesWith ∈ base := base_in 496 (by decide +kernel) rfl
theorem wd_497 : Cond.methodLink RX1 49 yX0_cellsOf ∈ base := base_in 497 (by decide +kernel) rfl
theorem wd_498 : Cond.methodLink RX1 37 yX0_goAnHour ∈ base := base_in 498 (by decide +kernel) rfl
theorem wd_499 : Cond.methodLink RX1 40 yX1_onwards ∈ base := base_in 499 (by decide +kernel) rfl
theorem wd_501 : Cond.instanceMethod yX1_onwards ∈ base := base_in 501 (by decide +kernel) rfl
theorem wd_502 : Cond.code yX1_onwards cX1_onwards 6 (some .int) ∈ base := base_in 502 (by decide +kernel) rfl
theorem wd_503 : Cond.constant RX1 52 (-17043522) ∈ base := base_in 503 (by decide +kernel) rfl
theorem wd_504 : Cond.constant RX1 53 (-545392673) ∈ base := base_in 504 (by decide +kernel) rfl
theorem wd_505 : Cond.constant RX1 54 (1073741823) ∈ base := base_in 505 (by decide +kernel) rfl
theorem wd_506 : Cond.methodLink RL 84 yX4_where ∈ base := base_in 506 (by decide +kernel) rfl
theorem wd_507 : Cond.instanceMethod yX4_where ∈ base := base_in 507 (by decide +kernel) rfl
theorem wd_508 : Cond.selects RX4 yX4_where yX4_where ∈ base := base_in 508 (by decide +kernel) rfl
theorem wd_509 : Cond.code yX4_where cX4_where 4 (some .int) ∈ base := base_in 509 (by decide +kernel) rfl
theorem wd_510 : Cond.methodLink RX4 190 yX4_placeOrNone ∈ base := base_in 510 (by decide +kernel) rfl
theorem wd_512 : Cond.instanceMethod yX4_placeOrNone ∈ base := base_in 512 (by decide +kernel) rfl
theorem wd_513 : Cond.code yX4_placeOrNone cX4_placeOrNone 2 (some .int) ∈ base := base_in 513 (by decide +kernel) rfl
theorem wd_514 : Cond.methodLink RX4 282 yX4_least ∈ base := base_in 514 (by decide +kernel) rfl
theorem wd_515 : Cond.static yX4_least ∈ base := base_in 515 (by decide +kernel) rfl
theorem wd_516 : Cond.code yX4_least cX4_least 1 (some .int) ∈ base := base_in 516 (by decide +kernel) rfl
theorem wd_517 : Cond.methodLink RX4 202 yJ6_bitCount_0f7a4 ∈ base := base_in 517 (by decide +kernel) rfl
theorem wd_518 : Cond.methodLink RL 88 yX4_waits ∈ base := base_in 518 (by decide +kernel) rfl
theorem wd_519 : Cond.instanceMethod yX4_waits ∈ base := base_in 519 (by decide +kernel) rfl
theorem wd_520 : Cond.selects RX4 yX4_waits yX4_waits ∈ base := base_in 520 (by decide +kernel) rfl
theorem wd_521 : Cond.code yX4_waits cX4_waits 4 (some .int) ∈ base := base_in 521 (by decide +kernel) rfl
theorem wd_522 : Cond.methodLink RX4 193 yX1_staysInOneOf ∈ base := base_in 522 (by decide +kernel) rfl
theorem wd_523 : Cond.instanceMethod yX1_staysInOneOf ∈ base := base_in 523 (by decide +kernel) rfl
theorem wd_524 : Cond.selects RX1 yX1_staysInOneOf yX1_staysInOneOf ∈ base := base_in 524 (by decide +kernel) rfl
theorem wd_525 : Cond.code yX1_staysInOneOf cX1_staysInOneOf 3 none ∈ base := base_in 525 (by decide +kernel) rfl
theorem wd_526 : Cond.methodLink RL 92 yX4_waterhole ∈ base := base_in 526 (by decide +kernel) rfl
theorem wd_527 : Cond.instanceMethod yX4_waterhole ∈ base := base_in 527 (by decide +kernel) rfl
theorem wd_528 : Cond.selects RX4 yX4_waterhole yX4_waterhole ∈ base := base_in 528 (by decide +kernel) rfl
theorem wd_529 : Cond.code yX4_waterhole cX4_waterhole 2 (some .int) ∈ base := base_in 529 (by decide +kernel) rfl
theorem wd_530 : Cond.methodLink RL 96 yX4_many ∈ base := base_in 530 (by decide +kernel) rfl
theorem wd_531 : Cond.instanceMethod yX4_many ∈ base := base_in 531 (by decide +kernel) rfl
theorem wd_532 : Cond.selects RX4 yX4_many yX4_many ∈ base := base_in 532 (by decide +kernel) rfl
theorem wd_533 : Cond.code yX4_many cX4_many 3 (some .int) ∈ base := base_in 533 (by decide +kernel) rfl
theorem wd_534 : Cond.methodLink RX4 199 yX1_subjectsWithin ∈ base := base_in 534 (by decide +kernel) rfl
theorem wd_535 : Cond.instanceMethod yX1_subjectsWithin ∈ base := base_in 535 (by decide +kernel) rfl
theorem wd_536 : Cond.selects RX1 yX1_subjectsWithin yX1_subjectsWithin ∈ base := base_in 536 (by decide +kernel) rfl
theorem wd_537 : Cond.code yX1_subjectsWithin cX1_subjectsWithin 4 (some .int) ∈ base := base_in 537 (by decide +kernel) rfl
theorem wd_538 : Cond.methodLink RX1 43 yX0_subjectsIn ∈ base := base_in 538 (by decide +kernel) rfl
theorem wd_539 : Cond.methodLink RL 100 yX4_both ∈ base := base_in 539 (by decide +kernel) rfl
theorem wd_540 : Cond.instanceMethod yX4_both ∈ base := base_in 540 (by decide +kernel) rfl
theorem wd_541 : Cond.selects RX4 yX4_both yX4_both ∈ base := base_in 541 (by decide +kernel) rfl
theorem wd_542 : Cond.code yX4_both cX4_both 5 (some .int) ∈ base := base_in 542 (by decide +kernel) rfl
theorem wd_543 : Cond.methodLink RX4 207 yX1_seekTwo ∈ base := base_in 543 (by decide +kernel) rfl
theorem wd_544 : Cond.instanceMethod yX1_seekTwo ∈ base := base_in 544 (by decide +kernel) rfl
theorem wd_545 : Cond.selects RX1 yX1_seekTwo yX1_seekTwo ∈ base := base_in 545 (by decide +kernel) rfl
theorem wd_546 : Cond.code yX1_seekTwo cX1_seekTwo 9 (some .int) ∈ base := base_in 546 (by decide +kernel) rfl
theorem wd_547 : Cond.methodLink RL 104 yX4_censors ∈ base := base_in 547 (by decide +kernel) rfl
theorem wd_548 : Cond.instanceMethod yX4_censors ∈ base := base_in 548 (by decide +kernel) rfl
theorem wd_549 : Cond.selects RX4 yX4_censors yX4_censors ∈ base := base_in 549 (by decide +kernel) rfl
theorem wd_550 : Cond.code yX4_censors cX4_censors 7 (some .int) ∈ base := base_in 550 (by decide +kernel) rfl
theorem wd_551 : Cond.methodLink RL 108 yX4_tips ∈ base := base_in 551 (by decide +kernel) rfl
theorem wd_552 : Cond.instanceMethod yX4_tips ∈ base := base_in 552 (by decide +kernel) rfl
theorem wd_553 : Cond.selects RX4 yX4_tips yX4_tips ∈ base := base_in 553 (by decide +kernel) rfl
theorem wd_554 : Cond.code yX4_tips cX4_tips 5 (some .int) ∈ base := base_in 554 (by decide +kernel) rfl
theorem wd_555 : Cond.methodLink RX4 211 yX4_bestTipped ∈ base := base_in 555 (by decide +kernel) rfl
theorem wd_557 : Cond.instanceMethod yX4_bestTipped ∈ base := base_in 557 (by decide +kernel) rfl
theorem wd_558 : Cond.code yX4_bestTipped cX4_bestTipped 7 (some .int) ∈ base := base_in 558 (by decide +kernel) rfl
theorem wd_559 : Cond.methodLink RL 112 yX4_spring ∈ base := base_in 559 (by decide +kernel) rfl
theorem wd_560 : Cond.instanceMethod yX4_spring ∈ base := base_in 560 (by decide +kernel) rfl
theorem wd_561 : Cond.selects RX4 yX4_spring yX4_spring ∈ base := base_in 561 (by decide +kernel) rfl
theorem wd_562 : Cond.code yX4_spring cX4_spring 5 (some .int) ∈ base := base_in 562 (by decide +kernel) rfl
theorem wd_563 : Cond.methodLink RX4 214 yX4_bestSpring ∈ base := base_in 563 (by decide +kernel) rfl
theorem wd_565 : Cond.instanceMethod yX4_bestSpring ∈ base := base_in 565 (by decide +kernel) rfl
theorem wd_566 : Cond.code yX4_bestSpring cX4_bestSpring 7 (some .int) ∈ base := base_in 566 (by decide +kernel) rfl
theorem wd_567 : Cond.methodLink RL 116 yX4_kind ∈ base := base_in 567 (by decide +kernel) rfl
theorem wd_568 : Cond.instanceMethod yX4_kind ∈ base := base_in 568 (by decide +kernel) rfl
theorem wd_569 : Cond.selects RX4 yX4_kind yX4_kind ∈ base := base_in 569 (by decide +kernel) rfl
theorem wd_570 : Cond.code yX4_kind cX4_kind 4 (some .int) ∈ base := base_in 570 (by decide +kernel) rfl
theorem wd_571 : Cond.methodLink RX4 217 yX4_bestKind ∈ base := base_in 571 (by decide +kernel) rfl
theorem wd_573 : Cond.instanceMethod yX4_bestKind ∈ base := base_in 573 (by decide +kernel) rfl
theorem wd_574 : Cond.code yX4_bestKind cX4_bestKind 7 (some .int) ∈ base := base_in 574 (by decide +kernel) rfl
theorem wd_575 : Cond.methodLink RL 120 yX4_feed ∈ base := base_in 575 (by decide +kernel) rfl
theorem wd_576 : Cond.instanceMethod yX4_feed ∈ base := base_in 576 (by decide +kernel) rfl
theorem wd_577 : Cond.selects RX4 yX4_feed yX4_feed ∈ base := base_in 577 (by decide +kernel) rfl
theorem wd_578 : Cond.code yX4_feed cX4_feed 3 (some .int) ∈ base := base_in 578 (by decide +kernel) rfl
theorem wd_579 : Cond.methodLink RX4 223 yX3_takes ∈ base := base_in 579 (by decide +kernel) rfl
theorem wd_580 : Cond.instanceMethod yX3_takes ∈ base := base_in 580 (by decide +kernel) rfl
theorem wd_581 : Cond.selects RX3 yX3_takes yX3_takes ∈ base := base_in 581 (by decide +kernel) rfl
theorem wd_582 : Cond.code yX3_takes cX3_takes 4 none ∈ base := base_in 582 (by decide +kernel) rfl
theorem wd_583 : Cond.methodLink RL 124 yX4_wipe ∈ base := base_in 583 (by decide +kernel) rfl
theorem wd_584 : Cond.instanceMethod yX4_wipe ∈ base := base_in 584 (by decide +kernel) rfl
theorem wd_585 : Cond.selects RX4 yX4_wipe yX4_wipe ∈ base := base_in 585 (by decide +kernel) rfl
theorem wd_586 : Cond.code yX4_wipe cX4_wipe 2 (some .int) ∈ base := base_in 586 (by decide +kernel) rfl
theorem wd_587 : Cond.methodLink RL 129 yX4_island ∈ base := base_in 587 (by decide +kernel) rfl
theorem wd_588 : Cond.instanceMethod yX4_island ∈ base := base_in 588 (by decide +kernel) rfl
theorem wd_589 : Cond.selects RX4 yX4_island yX4_island ∈ base := base_in 589 (by decide +kernel) rfl
theorem wd_590 : Cond.code yX4_island cX4_island 2 (some .int) ∈ base := base_in 590 (by decide +kernel) rfl
theorem wd_591 : Cond.methodLink RX4 227 yX3_tellsTo ∈ base := base_in 591 (by decide +kernel) rfl
theorem wd_592 : Cond.instanceMethod yX3_tellsTo ∈ base := base_in 592 (by decide +kernel) rfl
theorem wd_593 : Cond.selects RX3 yX3_tellsTo yX3_tellsTo ∈ base := base_in 593 (by decide +kernel) rfl
theorem wd_594 : Cond.code yX3_tellsTo cX3_tellsTo 3 (some .int) ∈ base := base_in 594 (by decide +kernel) rfl
theorem wd_595 : Cond.methodLink RX3 22 yX3_nextToken ∈ base := base_in 595 (by decide +kernel) rfl
theorem wd_597 : Cond.instanceMethod yX3_nextToken ∈ base := base_in 597 (by decide +kernel) rfl
theorem wd_598 : Cond.code yX3_nextToken cX3_nextToken 2 none ∈ base := base_in 598 (by decide +kernel) rfl
theorem wd_599 : Cond.methodLink RX3 127 yX3_isLetter ∈ base := base_in 599 (by decide +kernel) rfl
theorem wd_600 : Cond.static yX3_isLetter ∈ base := base_in 600 (by decide +kernel) rfl
theorem wd_601 : Cond.code yX3_isLetter cX3_isLetter 1 (some .boolean) ∈ base := base_in 601 (by decide +kernel) rfl
theorem wd_602 : Cond.methodLink RX3 131 yX3_isDigit ∈ base := base_in 602 (by decide +kernel) rfl
theorem wd_603 : Cond.static yX3_isDigit ∈ base := base_in 603 (by decide +kernel) rfl
theorem wd_604 : Cond.code yX3_isDigit cX3_isDigit 1 (some .boolean) ∈ base := base_in 604 (by decide +kernel) rfl
theorem wd_605 : Cond.methodLink RX3 134 yJ9_min_7cf53 ∈ base := base_in 605 (by decide +kernel) rfl
theorem wd_606 : Cond.static yJ9_min_7cf53 ∈ base := base_in 606 (by decide +kernel) rfl
theorem wd_607 : Cond.code yJ9_min_7cf53 cJ9_min_7cf53 2 (some .int) ∈ base := base_in 607 (by decide +kernel) rfl
theorem wd_608 : Cond.methodLink RX3 25 yX3_tellsItem ∈ base := base_in 608 (by decide +kernel) rfl
theorem wd_610 : Cond.instanceMethod yX3_tellsItem ∈ base := base_in 610 (by decide +kernel) rfl
theorem wd_611 : Cond.code yX3_tellsItem cX3_tellsItem 3 (some .boolean) ∈ base := base_in 611 (by decide +kernel) rfl
theorem wd_612 : Cond.methodLink RX3 35 yX3_kindTold ∈ base := base_in 612 (by decide +kernel) rfl
theorem wd_614 : Cond.instanceMethod yX3_kindTold ∈ base := base_in 614 (by decide +kernel) rfl
theorem wd_615 : Cond.code yX3_kindTold cX3_kindTold 2 (some .int) ∈ base := base_in 615 (by decide +kernel) rfl
theorem wd_616 : Cond.methodLink RX3 69 yX3_nameOf ∈ base := base_in 616 (by decide +kernel) rfl
theorem wd_617 : Cond.static yX3_nameOf ∈ base := base_in 617 (by decide +kernel) rfl
theorem wd_618 : Cond.code yX3_nameOf cX3_nameOf 1 (some (.object "java/lang/String")) ∈ base := base_in 618 (by decide +kernel) rfl
theorem wd_625 : Cond.methodLink RX3 45 yX3_isWord ∈ base := base_in 625 (by decide +kernel) rfl
theorem wd_627 : Cond.instanceMethod yX3_isWord ∈ base := base_in 627 (by decide +kernel) rfl
theorem wd_628 : Cond.code yX3_isWord cX3_isWord 3 (some .boolean) ∈ base := base_in 628 (by decide +kernel) rfl
theorem wd_629 : Cond.methodLink RX3 119 yJ0_length_8abf5 ∈ base := base_in 629 (by decide +kernel) rfl
theorem wd_630 : Cond.instanceMethod yJ0_length_8abf5 ∈ base := base_in 630 (by decide +kernel) rfl
theorem wd_631 : Cond.selects RJ0 yJ0_length_8abf5 yJ0_length_8abf5 ∈ base := base_in 631 (by decide +kernel) rfl
theorem wd_632 : Cond.code yJ0_length_8abf5 cJ0_length_8abf5 1 (some .int) ∈ base := base_in 632 (by decide +kernel) rfl
theorem wd_633 : Cond.methodLink RJ0 335 yJ0_coder_7d493 ∈ base := base_in 633 (by decide +kernel) rfl
theorem wd_634 : Cond.instanceMethod yJ0_coder_7d493 ∈ base := base_in 634 (by decide +kernel) rfl
theorem wd_635 : Cond.selects RJ0 yJ0_coder_7d493 yJ0_coder_7d493 ∈ base := base_in 635 (by decide +kernel) rfl
theorem wd_636 : Cond.code yJ0_coder_7d493 cJ0_coder_7d493 1 (some .byte) ∈ base := base_in 636 (by decide +kernel) rfl
theorem wd_637 : Cond.fieldLink RJ0 38 "java/lang/String" "COMPACT_STRINGS" "Z" ∈ base := base_in 637 (by decide +kernel) rfl
theorem wd_639 : Cond.methodLink RX3 123 yJ0_charAt_5068e ∈ base := base_in 639 (by decide +kernel) rfl
theorem wd_640 : Cond.instanceMethod yJ0_charAt_5068e ∈ base := base_in 640 (by decide +kernel) rfl
theorem wd_641 : Cond.selects RJ0 yJ0_charAt_5068e yJ0_charAt_5068e ∈ base := base_in 641 (by decide +kernel) rfl
theorem wd_642 : Cond.code yJ0_charAt_5068e cJ0_charAt_5068e 2 (some .char) ∈ base := base_in 642 (by decide +kernel) rfl
theorem wd_643 : Cond.methodLink RJ0 492 yJ0_isLatin1_aae02 ∈ base := base_in 643 (by decide +kernel) rfl
theorem wd_644 : Cond.instanceMethod yJ0_isLatin1_aae02 ∈ base := base_in 644 (by decide +kernel) rfl
theorem wd_645 : Cond.selects RJ0 yJ0_isLatin1_aae02 yJ0_isLatin1_aae02 ∈ base := base_in 645 (by decide +kernel) rfl
theorem wd_646 : Cond.code yJ0_isLatin1_aae02 cJ0_isLatin1_aae02 1 (some .boolean) ∈ base := base_in 646 (by decide +kernel) rfl
theorem wd_647 : Cond.methodLink RJ0 495 yJ1_charAt_3b067 ∈ base := base_in 647 (by decide +kernel) rfl
theorem wd_648 : Cond.static yJ1_charAt_3b067 ∈ base := base_in 648 (by decide +kernel) rfl
theorem wd_649 : Cond.code yJ1_charAt_3b067 cJ1_charAt_3b067 2 (some .char) ∈ base := base_in 649 (by decide +kernel) rfl
theorem wd_650 : Cond.methodLink RJ1 9 yJ0_checkIndex_df160 ∈ base := base_in 650 (by decide +kernel) rfl
theorem wd_651 : Cond.static yJ0_checkIndex_df160 ∈ base := base_in 651 (by decide +kernel) rfl
theorem wd_652 : Cond.code yJ0_checkIndex_df160 cJ0_checkIndex_df160 2 none ∈ base := base_in 652 (by decide +kernel) rfl
theorem wd_653 : Cond.fieldLink RJ0 1053 "jdk/internal/util/Preconditions" "SIOOBE_FORMATTER" "Ljava/util/function/BiFunction;" ∈ base := base_in 653 (by decide +kernel) rfl
theorem wd_655 : Cond.methodLink RJ0 1059 yJ3_checkIndex_8e157 ∈ base := base_in 655 (by decide +kernel) rfl
theorem wd_656 : Cond.static yJ3_checkIndex_8e157 ∈ base := base_in 656 (by decide +kernel) rfl
theorem wd_657 : Cond.code yJ3_checkIndex_8e157 cJ3_checkIndex_8e157 3 (some .int) ∈ base := base_in 657 (by decide +kernel) rfl
theorem wd_658 : Cond.methodLink RJ0 498 yJ2_charAt_3b067 ∈ base := base_in 658 (by decide +kernel) rfl
theorem wd_659 : Cond.static yJ2_charAt_3b067 ∈ base := base_in 659 (by decide +kernel) rfl
theorem wd_660 : Cond.code yJ2_charAt_3b067 cJ2_charAt_3b067 2 (some .char) ∈ base := base_in 660 (by decide +kernel) rfl
theorem wd_661 : Cond.methodLink RJ2 67 yJ2_checkIndex_2214a ∈ base := base_in 661 (by decide +kernel) rfl
theorem wd_662 : Cond.static yJ2_checkIndex_2214a ∈ base := base_in 662 (by decide +kernel) rfl
theorem wd_663 : Cond.code yJ2_checkIndex_2214a cJ2_checkIndex_2214a 2 none ∈ base := base_in 663 (by decide +kernel) rfl
theorem wd_664 : Cond.methodLink RJ2 48 yJ2_length_9d52b ∈ base := base_in 664 (by decide +kernel) rfl
theorem wd_665 : Cond.static yJ2_length_9d52b ∈ base := base_in 665 (by decide +kernel) rfl
theorem wd_666 : Cond.code yJ2_length_9d52b cJ2_length_9d52b 1 (some .int) ∈ base := base_in 666 (by decide +kernel) rfl
theorem wd_667 : Cond.methodLink RJ2 414 yJ0_checkIndex_df160 ∈ base := base_in 667 (by decide +kernel) rfl
theorem wd_668 : Cond.methodLink RJ2 71 yJ2_getChar_3b067 ∈ base := base_in 668 (by decide +kernel) rfl
theorem wd_669 : Cond.static yJ2_getChar_3b067 ∈ base := base_in 669 (by decide +kernel) rfl
theorem wd_670 : Cond.code yJ2_getChar_3b067 cJ2_getChar_3b067 2 (some .char) ∈ base := base_in 670 (by decide +kernel) rfl
theorem wd_671 : Cond.fieldLink RJ2 44 "java/lang/StringUTF16" "$assertionsDisabled" "Z" ∈ base := base_in 671 (by decide +kernel) rfl
theorem wd_673 : Cond.fieldLink RJ2 59 "java/lang/StringUTF16" "HI_BYTE_SHIFT" "I" ∈ base := base_in 673 (by decide +kernel) rfl
theorem wd_675 : Cond.fieldLink RJ2 63 "java/lang/StringUTF16" "LO_BYTE_SHIFT" "I" ∈ base := base_in 675 (by decide +kernel) rfl
theorem wd_677 : Cond.methodLink RX3 39 yX3_tellsTortoise ∈ base := base_in 677 (by decide +kernel) rfl
theorem wd_679 : Cond.instanceMethod yX3_tellsTortoise ∈ base := base_in 679 (by decide +kernel) rfl
theorem wd_680 : Cond.code yX3_tellsTortoise cX3_tellsTortoise 6 (some .boolean) ∈ base := base_in 680 (by decide +kernel) rfl
theorem wd_681 : Cond.methodLink RX3 85 yX0_isFull ∈ base := base_in 681 (by decide +kernel) rfl
theorem wd_683 : Cond.methodLink RX3 93 yX3_takesNumber ∈ base := base_in 683 (by decide +kernel) rfl
theorem wd_685 : Cond.instanceMethod yX3_takesNumber ∈ base := base_in 685 (by decide +kernel) rfl
theorem wd_686 : Cond.code yX3_takesNumber cX3_takesNumber 3 (some .boolean) ∈ base := base_in 686 (by decide +kernel) rfl
theorem wd_687 : Cond.methodLink RX3 100 yX0_comes ∈ base := base_in 687 (by decide +kernel) rfl
theorem wd_689 : Cond.methodLink RX3 49 yX3_tellsFence ∈ base := base_in 689 (by decide +kernel) rfl
theorem wd_691 : Cond.instanceMethod yX3_tellsFence ∈ base := base_in 691 (by decide +kernel) rfl
theorem wd_692 : Cond.code yX3_tellsFence cX3_tellsFence 3 (some .boolean) ∈ base := base_in 692 (by decide +kernel) rfl
theorem wd_693 : Cond.methodLink RX3 104 yX0_fences ∈ base := base_in 693 (by decide +kernel) rfl
theorem wd_696 : Cond.methodLink RX3 57 yX3_tellsRain ∈ base := base_in 696 (by decide +kernel) rfl
theorem wd_698 : Cond.instanceMethod yX3_tellsRain ∈ base := base_in 698 (by decide +kernel) rfl
theorem wd_699 : Cond.code yX3_tellsRain cX3_tellsRain 4 (some .boolean) ∈ base := base_in 699 (by decide +kernel) rfl
theorem wd_702 : Cond.methodLink RX3 62 yX3_tellsSpot ∈ base := base_in 702 (by decide +kernel) rfl
theorem wd_704 : Cond.instanceMethod yX3_tellsSpot ∈ base := base_in 704 (by decide +kernel) rfl
theorem wd_705 : Cond.code yX3_tellsSpot cX3_tellsSpot 3 (some .boolean) ∈ base := base_in 705 (by decide +kernel) rfl
theorem wd_709 : Cond.methodLink RL 133 yX4_sheet ∈ base := base_in 709 (by decide +kernel) rfl
theorem wd_710 : Cond.instanceMethod yX4_sheet ∈ base := base_in 710 (by decide +kernel) rfl
theorem wd_711 : Cond.selects RX4 yX4_sheet yX4_sheet ∈ base := base_in 711 (by decide +kernel) rfl
theorem wd_712 : Cond.code yX4_sheet cX4_sheet 4 (some .int) ∈ base := base_in 712 (by decide +kernel) rfl
theorem wd_713 : Cond.methodLink RX4 231 yX2_becomesBlank ∈ base := base_in 713 (by decide +kernel) rfl
theorem wd_714 : Cond.instanceMethod yX2_becomesBlank ∈ base := base_in 714 (by decide +kernel) rfl
theorem wd_715 : Cond.selects RX2 yX2_becomesBlank yX2_becomesBlank ∈ base := base_in 715 (by decide +kernel) rfl
theorem wd_716 : Cond.code yX2_becomesBlank cX2_becomesBlank 4 none ∈ base := base_in 716 (by decide +kernel) rfl
theorem wd_717 : Cond.methodLink RL 139 yX4_write ∈ base := base_in 717 (by decide +kernel) rfl
theorem wd_718 : Cond.instanceMethod yX4_write ∈ base := base_in 718 (by decide +kernel) rfl
theorem wd_719 : Cond.selects RX4 yX4_write yX4_write ∈ base := base_in 719 (by decide +kernel) rfl
theorem wd_720 : Cond.code yX4_write cX4_write 9 (some .long) ∈ base := base_in 720 (by decide +kernel) rfl
theorem wd_721 : Cond.methodLink RX4 235 yX4_askOfSheet ∈ base := base_in 721 (by decide +kernel) rfl
theorem wd_723 : Cond.instanceMethod yX4_askOfSheet ∈ base := base_in 723 (by decide +kernel) rfl
theorem wd_724 : Cond.code yX4_askOfSheet cX4_askOfSheet 2 (some .int) ∈ base := base_in 724 (by decide +kernel) rfl
theorem wd_725 : Cond.methodLink RX4 246 yX2_isMissing ∈ base := base_in 725 (by decide +kernel) rfl
theorem wd_726 : Cond.instanceMethod yX2_isMissing ∈ base := base_in 726 (by decide +kernel) rfl
theorem wd_727 : Cond.selects RX2 yX2_isMissing yX2_isMissing ∈ base := base_in 727 (by decide +kernel) rfl
theorem wd_728 : Cond.code yX2_isMissing cX2_isMissing 1 (some .boolean) ∈ base := base_in 728 (by decide +kernel) rfl
theorem wd_729 : Cond.methodLink RX4 242 yX2_lowestBits ∈ base := base_in 729 (by decide +kernel) rfl
theorem wd_730 : Cond.instanceMethod yX2_lowestBits ∈ base := base_in 730 (by decide +kernel) rfl
theorem wd_731 : Cond.selects RX2 yX2_lowestBits yX2_lowestBits ∈ base := base_in 731 (by decide +kernel) rfl
theorem wd_732 : Cond.code yX2_lowestBits cX2_lowestBits 3 (some .long) ∈ base := base_in 732 (by decide +kernel) rfl
theorem wd_733 : Cond.methodLink RL 144 yX4_copy ∈ base := base_in 733 (by decide +kernel) rfl
theorem wd_734 : Cond.instanceMethod yX4_copy ∈ base := base_in 734 (by decide +kernel) rfl
theorem wd_735 : Cond.selects RX4 yX4_copy yX4_copy ∈ base := base_in 735 (by decide +kernel) rfl
theorem wd_736 : Cond.code yX4_copy cX4_copy 8 (some .int) ∈ base := base_in 736 (by decide +kernel) rfl
theorem wd_737 : Cond.methodLink RX4 252 yX2_hasFrom ∈ base := base_in 737 (by decide +kernel) rfl
theorem wd_738 : Cond.instanceMethod yX2_hasFrom ∈ base := base_in 738 (by decide +kernel) rfl
theorem wd_739 : Cond.selects RX2 yX2_hasFrom yX2_hasFrom ∈ base := base_in 739 (by decide +kernel) rfl
theorem wd_740 : Cond.code yX2_hasFrom cX2_hasFrom 3 (some .boolean) ∈ base := base_in 740 (by decide +kernel) rfl
theorem wd_741 : Cond.methodLink RX4 255 ⟨"java/lang/System", "arraycopy", "(Ljava/lang/Object;ILjava/lang/Object;II)V"⟩ ∈ base := base_in 741 (by decide +kernel) rfl
theorem wd_742 : Cond.static ⟨"java/lang/System", "arraycopy", "(Ljava/lang/Object;ILjava/lang/Object;II)V"⟩ ∈ base := base_in 742 (by decide +kernel) rfl
theorem wd_743 : Cond.native ⟨"java/lang/System", "arraycopy", "(Ljava/lang/Object;ILjava/lang/Object;II)V"⟩ ∈ base := base_in 743 (by decide +kernel) rfl
theorem wd_744 : Cond.methodLink RL 149 yX4_lays ∈ base := base_in 744 (by decide +kernel) rfl
theorem wd_745 : Cond.instanceMethod yX4_lays ∈ base := base_in 745 (by decide +kernel) rfl
theorem wd_746 : Cond.selects RX4 yX4_lays yX4_lays ∈ base := base_in 746 (by decide +kernel) rfl
theorem wd_747 : Cond.code yX4_lays cX4_lays 3 (some .int) ∈ base := base_in 747 (by decide +kernel) rfl
theorem wd_748 : Cond.methodLink RX4 261 yX4_laysBooks ∈ base := base_in 748 (by decide +kernel) rfl
theorem wd_750 : Cond.instanceMethod yX4_laysBooks ∈ base := base_in 750 (by decide +kernel) rfl
theorem wd_751 : Cond.code yX4_laysBooks cX4_laysBooks 6 (some .int) ∈ base := base_in 751 (by decide +kernel) rfl
theorem wd_752 : Cond.constantLong RX4 285 (4095) ∈ base := base_in 752 (by decide +kernel) rfl
theorem wd_753 : Cond.methodLink RL 153 yX4_book ∈ base := base_in 753 (by decide +kernel) rfl
theorem wd_754 : Cond.instanceMethod yX4_book ∈ base := base_in 754 (by decide +kernel) rfl
theorem wd_755 : Cond.selects RX4 yX4_book yX4_book ∈ base := base_in 755 (by decide +kernel) rfl
theorem wd_756 : Cond.code yX4_book cX4_book 6 (some .int) ∈ base := base_in 756 (by decide +kernel) rfl
theorem wd_757 : Cond.methodLink RX4 265 yX0_goAlone ∈ base := base_in 757 (by decide +kernel) rfl
theorem wd_758 : Cond.methodLink RL 157 yX4_read ∈ base := base_in 758 (by decide +kernel) rfl
theorem wd_759 : Cond.instanceMethod yX4_read ∈ base := base_in 759 (by decide +kernel) rfl
theorem wd_760 : Cond.selects RX4 yX4_read yX4_read ∈ base := base_in 760 (by decide +kernel) rfl
theorem wd_761 : Cond.code yX4_read cX4_read 7 (some .int) ∈ base := base_in 761 (by decide +kernel) rfl
theorem wd_762 : Cond.methodLink RX4 268 yX0_goesAsIn ∈ base := base_in 762 (by decide +kernel) rfl
theorem wd_763 : Cond.instanceMethod yX0_goesAsIn ∈ base := base_in 763 (by decide +kernel) rfl
theorem wd_764 : Cond.selects RX0 yX0_goesAsIn yX0_goesAsIn ∈ base := base_in 764 (by decide +kernel) rfl
theorem wd_765 : Cond.code yX0_goesAsIn cX0_goesAsIn 4 (some .boolean) ∈ base := base_in 765 (by decide +kernel) rfl
theorem wd_766 : Cond.methodLink RL 161 yX4_image ∈ base := base_in 766 (by decide +kernel) rfl
theorem wd_767 : Cond.instanceMethod yX4_image ∈ base := base_in 767 (by decide +kernel) rfl
theorem wd_768 : Cond.selects RX4 yX4_image yX4_image ∈ base := base_in 768 (by decide +kernel) rfl
theorem wd_769 : Cond.code yX4_image cX4_image 1 (some .int) ∈ base := base_in 769 (by decide +kernel) rfl
theorem wd_770 : Cond.methodLink RL 165 yX4_undo ∈ base := base_in 770 (by decide +kernel) rfl
theorem wd_771 : Cond.instanceMethod yX4_undo ∈ base := base_in 771 (by decide +kernel) rfl
theorem wd_772 : Cond.selects RX4 yX4_undo yX4_undo ∈ base := base_in 772 (by decide +kernel) rfl
theorem wd_773 : Cond.code yX4_undo cX4_undo 1 (some .int) ∈ base := base_in 773 (by decide +kernel) rfl
theorem wd_774 : Cond.methodLink RL 169 yX4_tear ∈ base := base_in 774 (by decide +kernel) rfl
theorem wd_775 : Cond.instanceMethod yX4_tear ∈ base := base_in 775 (by decide +kernel) rfl
theorem wd_776 : Cond.selects RX4 yX4_tear yX4_tear ∈ base := base_in 776 (by decide +kernel) rfl
theorem wd_777 : Cond.code yX4_tear cX4_tear 2 (some .int) ∈ base := base_in 777 (by decide +kernel) rfl
theorem wd_778 : Cond.methodLink RL 173 yX4_count ∈ base := base_in 778 (by decide +kernel) rfl
theorem wd_779 : Cond.instanceMethod yX4_count ∈ base := base_in 779 (by decide +kernel) rfl
theorem wd_780 : Cond.selects RX4 yX4_count yX4_count ∈ base := base_in 780 (by decide +kernel) rfl
theorem wd_781 : Cond.code yX4_count cX4_count 2 (some .int) ∈ base := base_in 781 (by decide +kernel) rfl
theorem wd_782 : Cond.methodLink RX4 275 yX0_tippedOnes ∈ base := base_in 782 (by decide +kernel) rfl
theorem wd_783 : Cond.instanceMethod yX0_tippedOnes ∈ base := base_in 783 (by decide +kernel) rfl
theorem wd_784 : Cond.selects RX0 yX0_tippedOnes yX0_tippedOnes ∈ base := base_in 784 (by decide +kernel) rfl
theorem wd_785 : Cond.code yX0_tippedOnes cX0_tippedOnes 3 (some .int) ∈ base := base_in 785 (by decide +kernel) rfl
theorem wd_786 : Cond.methodLink RL 177 yX4_status ∈ base := base_in 786 (by decide +kernel) rfl
theorem wd_787 : Cond.instanceMethod yX4_status ∈ base := base_in 787 (by decide +kernel) rfl
theorem wd_788 : Cond.selects RX4 yX4_status yX4_status ∈ base := base_in 788 (by decide +kernel) rfl
theorem wd_789 : Cond.code yX4_status cX4_status 4 (some .int) ∈ base := base_in 789 (by decide +kernel) rfl
theorem wd_792 : Cond.methodLink RL 12 yX5_init ∈ base := base_in 792 (by decide +kernel) rfl
theorem wd_793 : Cond.instanceMethod yX5_init ∈ base := base_in 793 (by decide +kernel) rfl
theorem wd_794 : Cond.code yX5_init cX5_init 1 none ∈ base := base_in 794 (by decide +kernel) rfl
theorem wd_795 : Cond.methodLink RX5 1 ⟨"java/lang/Object", "<init>", "()V"⟩ ∈ base := base_in 795 (by decide +kernel) rfl
theorem wd_796 : Cond.fieldLink RX5 7 "TortoiseShelvesModel" "s" "[I" ∈ base := base_in 796 (by decide +kernel) rfl
theorem wd_797 : Cond.fieldLink RX5 13 "TortoiseShelvesModel" "keptS" "[I" ∈ base := base_in 797 (by decide +kernel) rfl
theorem wd_798 : Cond.fieldLink RX5 16 "TortoiseShelvesModel" "other" "[I" ∈ base := base_in 798 (by decide +kernel) rfl
theorem wd_799 : Cond.fieldLink RX5 19 "TortoiseShelvesModel" "aside" "[I" ∈ base := base_in 799 (by decide +kernel) rfl
theorem wd_800 : Cond.fieldLink RX5 22 "TortoiseShelvesModel" "statuses" "[I" ∈ base := base_in 800 (by decide +kernel) rfl
theorem wd_801 : Cond.fieldLink RX5 341 "TortoiseShelvesModel" "isKept" "Z" ∈ base := base_in 801 (by decide +kernel) rfl
theorem wd_802 : Cond.fieldLink RX5 194 "TortoiseShelvesModel" "readIn" "I" ∈ base := base_in 802 (by decide +kernel) rfl
theorem wd_803 : Cond.fieldLink RX5 25 "TortoiseShelvesModel" "tape" "[I" ∈ base := base_in 803 (by decide +kernel) rfl
theorem wd_804 : Cond.fieldLink RX5 214 "TortoiseShelvesModel" "taped" "I" ∈ base := base_in 804 (by decide +kernel) rfl
theorem wd_805 : Cond.fieldLink RX5 226 "TortoiseShelvesModel" "from" "I" ∈ base := base_in 805 (by decide +kernel) rfl
theorem wd_806 : Cond.fieldLink RX5 223 "TortoiseShelvesModel" "to" "I" ∈ base := base_in 806 (by decide +kernel) rfl
theorem wd_807 : Cond.fieldLink RX5 249 "TortoiseShelvesModel" "value" "I" ∈ base := base_in 807 (by decide +kernel) rfl
theorem wd_808 : Cond.fieldLink RX5 238 "TortoiseShelvesModel" "isWrong" "Z" ∈ base := base_in 808 (by decide +kernel) rfl
theorem wd_809 : Cond.fieldLink RX5 28 "TortoiseShelvesModel" "bitsOf" "[I" ∈ base := base_in 809 (by decide +kernel) rfl
theorem wd_810 : Cond.fieldLink RX5 31 "TortoiseShelvesModel" "sizeOf" "[I" ∈ base := base_in 810 (by decide +kernel) rfl
theorem wd_811 : Cond.fieldLink RX5 34 "TortoiseShelvesModel" "numbers" "[J" ∈ base := base_in 811 (by decide +kernel) rfl
theorem wd_812 : Cond.fieldLink RX5 38 "TortoiseShelvesModel" "moved" "[J" ∈ base := base_in 812 (by decide +kernel) rfl
theorem wd_813 : Cond.laysFinal "TortoiseShelvesModel" "TortoiseShelvesModel" "s" "[I" ∈ base := base_in 813 (by decide +kernel) rfl
theorem wd_815 : Cond.laysFinal "TortoiseShelvesModel" "TortoiseShelvesModel" "keptS" "[I" ∈ base := base_in 815 (by decide +kernel) rfl
theorem wd_817 : Cond.laysFinal "TortoiseShelvesModel" "TortoiseShelvesModel" "other" "[I" ∈ base := base_in 817 (by decide +kernel) rfl
theorem wd_819 : Cond.laysFinal "TortoiseShelvesModel" "TortoiseShelvesModel" "aside" "[I" ∈ base := base_in 819 (by decide +kernel) rfl
theorem wd_821 : Cond.laysFinal "TortoiseShelvesModel" "TortoiseShelvesModel" "statuses" "[I" ∈ base := base_in 821 (by decide +kernel) rfl
theorem wd_823 : Cond.lays "TortoiseShelvesModel" "TortoiseShelvesModel" "isKept" "Z" ∈ base := base_in 823 (by decide +kernel) rfl
theorem wd_825 : Cond.lays "TortoiseShelvesModel" "TortoiseShelvesModel" "readIn" "I" ∈ base := base_in 825 (by decide +kernel) rfl
theorem wd_827 : Cond.laysFinal "TortoiseShelvesModel" "TortoiseShelvesModel" "tape" "[I" ∈ base := base_in 827 (by decide +kernel) rfl
theorem wd_829 : Cond.lays "TortoiseShelvesModel" "TortoiseShelvesModel" "taped" "I" ∈ base := base_in 829 (by decide +kernel) rfl
theorem wd_831 : Cond.lays "TortoiseShelvesModel" "TortoiseShelvesModel" "from" "I" ∈ base := base_in 831 (by decide +kernel) rfl
theorem wd_833 : Cond.lays "TortoiseShelvesModel" "TortoiseShelvesModel" "to" "I" ∈ base := base_in 833 (by decide +kernel) rfl
theorem wd_835 : Cond.lays "TortoiseShelvesModel" "TortoiseShelvesModel" "value" "I" ∈ base := base_in 835 (by decide +kernel) rfl
theorem wd_837 : Cond.lays "TortoiseShelvesModel" "TortoiseShelvesModel" "isWrong" "Z" ∈ base := base_in 837 (by decide +kernel) rfl
theorem wd_839 : Cond.laysFinal "TortoiseShelvesModel" "TortoiseShelvesModel" "bitsOf" "[I" ∈ base := base_in 839 (by decide +kernel) rfl
theorem wd_841 : Cond.laysFinal "TortoiseShelvesModel" "TortoiseShelvesModel" "sizeOf" "[I" ∈ base := base_in 841 (by decide +kernel) rfl
theorem wd_843 : Cond.laysFinal "TortoiseShelvesModel" "TortoiseShelvesModel" "numbers" "[J" ∈ base := base_in 843 (by decide +kernel) rfl
theorem wd_845 : Cond.laysFinal "TortoiseShelvesModel" "TortoiseShelvesModel" "moved" "[J" ∈ base := base_in 845 (by decide +kernel) rfl
theorem wd_848 : Cond.methodLink RL 17 yX5_fence ∈ base := base_in 848 (by decide +kernel) rfl
theorem wd_849 : Cond.instanceMethod yX5_fence ∈ base := base_in 849 (by decide +kernel) rfl
theorem wd_850 : Cond.selects RX5 yX5_fence yX5_fence ∈ base := base_in 850 (by decide +kernel) rfl
theorem wd_851 : Cond.code yX5_fence cX5_fence 4 (some .int) ∈ base := base_in 851 (by decide +kernel) rfl
theorem wd_852 : Cond.methodLink RX5 62 yX5_isCell ∈ base := base_in 852 (by decide +kernel) rfl
theorem wd_853 : Cond.static yX5_isCell ∈ base := base_in 853 (by decide +kernel) rfl
theorem wd_854 : Cond.code yX5_isCell cX5_isCell 1 (some .boolean) ∈ base := base_in 854 (by decide +kernel) rfl
theorem wd_855 : Cond.constantLong RX5 42 (29) ∈ base := base_in 855 (by decide +kernel) rfl
theorem wd_856 : Cond.methodLink RX5 44 yX5_in ∈ base := base_in 856 (by decide +kernel) rfl
theorem wd_857 : Cond.static yX5_in ∈ base := base_in 857 (by decide +kernel) rfl
theorem wd_858 : Cond.code yX5_in cX5_in 6 (some .boolean) ∈ base := base_in 858 (by decide +kernel) rfl
theorem wd_859 : Cond.constant RX5 41 (-1000000001) ∈ base := base_in 859 (by decide +kernel) rfl
theorem wd_860 : Cond.methodLink RX5 65 yX5_finds ∈ base := base_in 860 (by decide +kernel) rfl
theorem wd_862 : Cond.instanceMethod yX5_finds ∈ base := base_in 862 (by decide +kernel) rfl
theorem wd_863 : Cond.code yX5_finds cX5_finds 2 (some .int) ∈ base := base_in 863 (by decide +kernel) rfl
theorem wd_864 : Cond.methodLink RX5 69 yX5_isFenced ∈ base := base_in 864 (by decide +kernel) rfl
theorem wd_866 : Cond.instanceMethod yX5_isFenced ∈ base := base_in 866 (by decide +kernel) rfl
theorem wd_867 : Cond.code yX5_isFenced cX5_isFenced 2 (some .boolean) ∈ base := base_in 867 (by decide +kernel) rfl
theorem wd_868 : Cond.methodLink RX5 72 yX5_fences ∈ base := base_in 868 (by decide +kernel) rfl
theorem wd_870 : Cond.instanceMethod yX5_fences ∈ base := base_in 870 (by decide +kernel) rfl
theorem wd_871 : Cond.code yX5_fences cX5_fences 3 none ∈ base := base_in 871 (by decide +kernel) rfl
theorem wd_872 : Cond.methodLink RL 21 yX5_spot ∈ base := base_in 872 (by decide +kernel) rfl
theorem wd_873 : Cond.instanceMethod yX5_spot ∈ base := base_in 873 (by decide +kernel) rfl
theorem wd_874 : Cond.selects RX5 yX5_spot yX5_spot ∈ base := base_in 874 (by decide +kernel) rfl
theorem wd_875 : Cond.code yX5_spot cX5_spot 3 (some .int) ∈ base := base_in 875 (by decide +kernel) rfl
theorem wd_876 : Cond.constantLong RX5 76 (2) ∈ base := base_in 876 (by decide +kernel) rfl
theorem wd_877 : Cond.methodLink RX5 78 yX5_becomes ∈ base := base_in 877 (by decide +kernel) rfl
theorem wd_879 : Cond.instanceMethod yX5_becomes ∈ base := base_in 879 (by decide +kernel) rfl
theorem wd_880 : Cond.code yX5_becomes cX5_becomes 4 (some .int) ∈ base := base_in 880 (by decide +kernel) rfl
theorem wd_881 : Cond.methodLink RL 26 yX5_rain ∈ base := base_in 881 (by decide +kernel) rfl
theorem wd_882 : Cond.instanceMethod yX5_rain ∈ base := base_in 882 (by decide +kernel) rfl
theorem wd_883 : Cond.selects RX5 yX5_rain yX5_rain ∈ base := base_in 883 (by decide +kernel) rfl
theorem wd_884 : Cond.code yX5_rain cX5_rain 2 (some .int) ∈ base := base_in 884 (by decide +kernel) rfl
theorem wd_885 : Cond.constantLong RX5 81 (16777215) ∈ base := base_in 885 (by decide +kernel) rfl
theorem wd_886 : Cond.methodLink RL 30 yX5_cell ∈ base := base_in 886 (by decide +kernel) rfl
theorem wd_887 : Cond.instanceMethod yX5_cell ∈ base := base_in 887 (by decide +kernel) rfl
theorem wd_888 : Cond.selects RX5 yX5_cell yX5_cell ∈ base := base_in 888 (by decide +kernel) rfl
theorem wd_889 : Cond.code yX5_cell cX5_cell 3 (some .int) ∈ base := base_in 889 (by decide +kernel) rfl
theorem wd_890 : Cond.methodLink RX5 86 yX5_those ∈ base := base_in 890 (by decide +kernel) rfl
theorem wd_892 : Cond.instanceMethod yX5_those ∈ base := base_in 892 (by decide +kernel) rfl
theorem wd_893 : Cond.code yX5_those cX5_those 4 (some .int) ∈ base := base_in 893 (by decide +kernel) rfl
theorem wd_894 : Cond.methodLink RX5 83 yX5_its ∈ base := base_in 894 (by decide +kernel) rfl
theorem wd_896 : Cond.instanceMethod yX5_its ∈ base := base_in 896 (by decide +kernel) rfl
theorem wd_897 : Cond.code yX5_its cX5_its 3 (some .int) ∈ base := base_in 897 (by decide +kernel) rfl
theorem wd_898 : Cond.methodLink RX5 58 yX5_spotOf ∈ base := base_in 898 (by decide +kernel) rfl
theorem wd_899 : Cond.static yX5_spotOf ∈ base := base_in 899 (by decide +kernel) rfl
theorem wd_900 : Cond.code yX5_spotOf cX5_spotOf 2 (some .int) ∈ base := base_in 900 (by decide +kernel) rfl
theorem wd_901 : Cond.methodLink RX5 89 yX5_booksIn ∈ base := base_in 901 (by decide +kernel) rfl
theorem wd_903 : Cond.instanceMethod yX5_booksIn ∈ base := base_in 903 (by decide +kernel) rfl
theorem wd_904 : Cond.code yX5_booksIn cX5_booksIn 4 (some .int) ∈ base := base_in 904 (by decide +kernel) rfl
theorem wd_905 : Cond.methodLink RL 35 yX5_tortoise ∈ base := base_in 905 (by decide +kernel) rfl
theorem wd_906 : Cond.instanceMethod yX5_tortoise ∈ base := base_in 906 (by decide +kernel) rfl
theorem wd_907 : Cond.selects RX5 yX5_tortoise yX5_tortoise ∈ base := base_in 907 (by decide +kernel) rfl
theorem wd_908 : Cond.code yX5_tortoise cX5_tortoise 4 (some .int) ∈ base := base_in 908 (by decide +kernel) rfl
theorem wd_909 : Cond.methodLink RX5 107 yX5_isKind ∈ base := base_in 909 (by decide +kernel) rfl
theorem wd_910 : Cond.static yX5_isKind ∈ base := base_in 910 (by decide +kernel) rfl
theorem wd_911 : Cond.code yX5_isKind cX5_isKind 1 (some .boolean) ∈ base := base_in 911 (by decide +kernel) rfl
theorem wd_912 : Cond.constantLong RX5 48 (5) ∈ base := base_in 912 (by decide +kernel) rfl
theorem wd_913 : Cond.methodLink RX5 110 yX5_isSet ∈ base := base_in 913 (by decide +kernel) rfl
theorem wd_914 : Cond.static yX5_isSet ∈ base := base_in 914 (by decide +kernel) rfl
theorem wd_915 : Cond.code yX5_isSet cX5_isSet 2 (some .boolean) ∈ base := base_in 915 (by decide +kernel) rfl
theorem wd_916 : Cond.constantLong RX5 52 (4095) ∈ base := base_in 916 (by decide +kernel) rfl
theorem wd_917 : Cond.constant RX5 114 (-1000000002) ∈ base := base_in 917 (by decide +kernel) rfl
theorem wd_918 : Cond.methodLink RX5 115 yX5_adds ∈ base := base_in 918 (by decide +kernel) rfl
theorem wd_920 : Cond.instanceMethod yX5_adds ∈ base := base_in 920 (by decide +kernel) rfl
theorem wd_921 : Cond.code yX5_adds cX5_adds 5 (some .int) ∈ base := base_in 921 (by decide +kernel) rfl
theorem wd_922 : Cond.methodLink RL 39 yX5_of ∈ base := base_in 922 (by decide +kernel) rfl
theorem wd_923 : Cond.instanceMethod yX5_of ∈ base := base_in 923 (by decide +kernel) rfl
theorem wd_924 : Cond.selects RX5 yX5_of yX5_of ∈ base := base_in 924 (by decide +kernel) rfl
theorem wd_925 : Cond.code yX5_of cX5_of 3 (some .int) ∈ base := base_in 925 (by decide +kernel) rfl
theorem wd_926 : Cond.methodLink RX5 54 yX5_isOne ∈ base := base_in 926 (by decide +kernel) rfl
theorem wd_928 : Cond.instanceMethod yX5_isOne ∈ base := base_in 928 (by decide +kernel) rfl
theorem wd_929 : Cond.code yX5_isOne cX5_isOne 2 (some .boolean) ∈ base := base_in 929 (by decide +kernel) rfl
theorem wd_930 : Cond.methodLink RX5 119 yX5_aimOf ∈ base := base_in 930 (by decide +kernel) rfl
theorem wd_932 : Cond.instanceMethod yX5_aimOf ∈ base := base_in 932 (by decide +kernel) rfl
theorem wd_933 : Cond.code yX5_aimOf cX5_aimOf 2 (some .int) ∈ base := base_in 933 (by decide +kernel) rfl
theorem wd_934 : Cond.methodLink RX5 100 yX5_lawful ∈ base := base_in 934 (by decide +kernel) rfl
theorem wd_936 : Cond.instanceMethod yX5_lawful ∈ base := base_in 936 (by decide +kernel) rfl
theorem wd_937 : Cond.code yX5_lawful cX5_lawful 1 (some .int) ∈ base := base_in 937 (by decide +kernel) rfl
theorem wd_938 : Cond.methodLink RX5 92 yX5_clock ∈ base := base_in 938 (by decide +kernel) rfl
theorem wd_940 : Cond.instanceMethod yX5_clock ∈ base := base_in 940 (by decide +kernel) rfl
theorem wd_941 : Cond.code yX5_clock cX5_clock 1 (some .int) ∈ base := base_in 941 (by decide +kernel) rfl
theorem wd_942 : Cond.constantLong RX5 96 (10) ∈ base := base_in 942 (by decide +kernel) rfl
theorem wd_943 : Cond.constantLong RX5 98 (15) ∈ base := base_in 943 (by decide +kernel) rfl
theorem wd_944 : Cond.methodLink RX5 103 yX5_rains ∈ base := base_in 944 (by decide +kernel) rfl
theorem wd_946 : Cond.instanceMethod yX5_rains ∈ base := base_in 946 (by decide +kernel) rfl
theorem wd_947 : Cond.code yX5_rains cX5_rains 1 (some .boolean) ∈ base := base_in 947 (by decide +kernel) rfl
theorem wd_948 : Cond.methodLink RX5 122 yX5_paceOf ∈ base := base_in 948 (by decide +kernel) rfl
theorem wd_950 : Cond.instanceMethod yX5_paceOf ∈ base := base_in 950 (by decide +kernel) rfl
theorem wd_951 : Cond.code yX5_paceOf cX5_paceOf 2 (some .int) ∈ base := base_in 951 (by decide +kernel) rfl
theorem wd_952 : Cond.methodLink RL 43 yX5_set ∈ base := base_in 952 (by decide +kernel) rfl
theorem wd_953 : Cond.instanceMethod yX5_set ∈ base := base_in 953 (by decide +kernel) rfl
theorem wd_954 : Cond.selects RX5 yX5_set yX5_set ∈ base := base_in 954 (by decide +kernel) rfl
theorem wd_955 : Cond.code yX5_set cX5_set 5 (some .int) ∈ base := base_in 955 (by decide +kernel) rfl
theorem wd_956 : Cond.methodLink RL 47 yX5_turn ∈ base := base_in 956 (by decide +kernel) rfl
theorem wd_957 : Cond.instanceMethod yX5_turn ∈ base := base_in 957 (by decide +kernel) rfl
theorem wd_958 : Cond.selects RX5 yX5_turn yX5_turn ∈ base := base_in 958 (by decide +kernel) rfl
theorem wd_959 : Cond.code yX5_turn cX5_turn 3 (some .int) ∈ base := base_in 959 (by decide +kernel) rfl
theorem wd_960 : Cond.methodLink RL 51 yX5_as ∈ base := base_in 960 (by decide +kernel) rfl
theorem wd_961 : Cond.instanceMethod yX5_as ∈ base := base_in 961 (by decide +kernel) rfl
theorem wd_962 : Cond.selects RX5 yX5_as yX5_as ∈ base := base_in 962 (by decide +kernel) rfl
theorem wd_963 : Cond.code yX5_as cX5_as 4 (some .int) ∈ base := base_in 963 (by decide +kernel) rfl
theorem wd_964 : Cond.methodLink RX5 125 yX5_above ∈ base := base_in 964 (by decide +kernel) rfl
theorem wd_965 : Cond.static yX5_above ∈ base := base_in 965 (by decide +kernel) rfl
theorem wd_966 : Cond.code yX5_above cX5_above 1 (some .int) ∈ base := base_in 966 (by decide +kernel) rfl
theorem wd_967 : Cond.constant RX5 128 (-1000000003) ∈ base := base_in 967 (by decide +kernel) rfl
theorem wd_968 : Cond.methodLink RL 55 yX5_lend ∈ base := base_in 968 (by decide +kernel) rfl
theorem wd_969 : Cond.instanceMethod yX5_lend ∈ base := base_in 969 (by decide +kernel) rfl
theorem wd_970 : Cond.selects RX5 yX5_lend yX5_lend ∈ base := base_in 970 (by decide +kernel) rfl
theorem wd_971 : Cond.code yX5_lend cX5_lend 4 (some .int) ∈ base := base_in 971 (by decide +kernel) rfl
theorem wd_972 : Cond.methodLink RX5 129 yX5_areTwo ∈ base := base_in 972 (by decide +kernel) rfl
theorem wd_974 : Cond.instanceMethod yX5_areTwo ∈ base := base_in 974 (by decide +kernel) rfl
theorem wd_975 : Cond.code yX5_areTwo cX5_areTwo 3 (some .boolean) ∈ base := base_in 975 (by decide +kernel) rfl
theorem wd_976 : Cond.methodLink RX5 133 yX5_isSubject ∈ base := base_in 976 (by decide +kernel) rfl
theorem wd_977 : Cond.static yX5_isSubject ∈ base := base_in 977 (by decide +kernel) rfl
theorem wd_978 : Cond.code yX5_isSubject cX5_isSubject 1 (some .boolean) ∈ base := base_in 978 (by decide +kernel) rfl
theorem wd_979 : Cond.constantLong RX5 50 (11) ∈ base := base_in 979 (by decide +kernel) rfl
theorem wd_980 : Cond.constant RX5 136 (-1000000005) ∈ base := base_in 980 (by decide +kernel) rfl
theorem wd_981 : Cond.constant RX5 137 (-1000000004) ∈ base := base_in 981 (by decide +kernel) rfl
theorem wd_982 : Cond.methodLink RX5 138 yX5_lends ∈ base := base_in 982 (by decide +kernel) rfl
theorem wd_984 : Cond.instanceMethod yX5_lends ∈ base := base_in 984 (by decide +kernel) rfl
theorem wd_985 : Cond.code yX5_lends cX5_lends 4 none ∈ base := base_in 985 (by decide +kernel) rfl
theorem wd_986 : Cond.methodLink RL 59 yX5_hours ∈ base := base_in 986 (by decide +kernel) rfl
theorem wd_987 : Cond.instanceMethod yX5_hours ∈ base := base_in 987 (by decide +kernel) rfl
theorem wd_988 : Cond.selects RX5 yX5_hours yX5_hours ∈ base := base_in 988 (by decide +kernel) rfl
theorem wd_989 : Cond.code yX5_hours cX5_hours 2 (some .int) ∈ base := base_in 989 (by decide +kernel) rfl
theorem wd_990 : Cond.constantLong RX5 158 (72) ∈ base := base_in 990 (by decide +kernel) rfl
theorem wd_991 : Cond.methodLink RX5 160 yX5_go ∈ base := base_in 991 (by decide +kernel) rfl
theorem wd_993 : Cond.instanceMethod yX5_go ∈ base := base_in 993 (by decide +kernel) rfl
theorem wd_994 : Cond.code yX5_go cX5_go 3 none ∈ base := base_in 994 (by decide +kernel) rfl
theorem wd_995 : Cond.methodLink RX5 155 yX5_hour ∈ base := base_in 995 (by decide +kernel) rfl
theorem wd_997 : Cond.instanceMethod yX5_hour ∈ base := base_in 997 (by decide +kernel) rfl
theorem wd_998 : Cond.code yX5_hour cX5_hour 3 none ∈ base := base_in 998 (by decide +kernel) rfl
theorem wd_999 : Cond.methodLink RX5 148 yX5_goes ∈ base := base_in 999 (by decide +kernel) rfl
theorem wd_1001 : Cond.instanceMethod yX5_goes ∈ base := base_in 1001 (by decide +kernel) rfl
theorem wd_1002 : Cond.code yX5_goes cX5_goes 4 none ∈ base := base_in 1002 (by decide +kernel) rfl
theorem wd_1003 : Cond.methodLink RX5 142 yX5_nearer ∈ base := base_in 1003 (by decide +kernel) rfl
theorem wd_1005 : Cond.instanceMethod yX5_nearer ∈ base := base_in 1005 (by decide +kernel) rfl
theorem wd_1006 : Cond.code yX5_nearer cX5_nearer 5 (some .int) ∈ base := base_in 1006 (by decide +kernel) rfl
theorem wd_1007 : Cond.methodLink RX5 152 yX5_meets ∈ base := base_in 1007 (by decide +kernel) rfl
theorem wd_1009 : Cond.instanceMethod yX5_meets ∈ base := base_in 1009 (by decide +kernel) rfl
theorem wd_1010 : Cond.code yX5_meets cX5_meets 5 none ∈ base := base_in 1010 (by decide +kernel) rfl
theorem wd_1011 : Cond.methodLink RX5 145 yX5_ones ∈ base := base_in 1011 (by decide +kernel) rfl
theorem wd_1012 : Cond.static yX5_ones ∈ base := base_in 1012 (by decide +kernel) rfl
theorem wd_1013 : Cond.code yX5_ones cX5_ones 3 (some .int) ∈ base := base_in 1013 (by decide +kernel) rfl
theorem wd_1014 : Cond.methodLink RX5 163 yX5_allBooks ∈ base := base_in 1014 (by decide +kernel) rfl
theorem wd_1016 : Cond.instanceMethod yX5_allBooks ∈ base := base_in 1016 (by decide +kernel) rfl
theorem wd_1017 : Cond.code yX5_allBooks cX5_allBooks 3 (some .int) ∈ base := base_in 1017 (by decide +kernel) rfl
theorem wd_1018 : Cond.methodLink RL 63 yX5_now ∈ base := base_in 1018 (by decide +kernel) rfl
theorem wd_1019 : Cond.instanceMethod yX5_now ∈ base := base_in 1019 (by decide +kernel) rfl
theorem wd_1020 : Cond.selects RX5 yX5_now yX5_now ∈ base := base_in 1020 (by decide +kernel) rfl
theorem wd_1021 : Cond.code yX5_now cX5_now 2 (some .int) ∈ base := base_in 1021 (by decide +kernel) rfl
theorem wd_1022 : Cond.methodLink RX5 166 yX5_allSubjects ∈ base := base_in 1022 (by decide +kernel) rfl
theorem wd_1024 : Cond.instanceMethod yX5_allSubjects ∈ base := base_in 1024 (by decide +kernel) rfl
theorem wd_1025 : Cond.code yX5_allSubjects cX5_allSubjects 3 (some .int) ∈ base := base_in 1025 (by decide +kernel) rfl
theorem wd_1026 : Cond.methodLink RX5 169 yX5_allCells ∈ base := base_in 1026 (by decide +kernel) rfl
theorem wd_1028 : Cond.instanceMethod yX5_allCells ∈ base := base_in 1028 (by decide +kernel) rfl
theorem wd_1029 : Cond.code yX5_allCells cX5_allCells 3 (some .int) ∈ base := base_in 1029 (by decide +kernel) rfl
theorem wd_1030 : Cond.methodLink RL 67 yX5_on ∈ base := base_in 1030 (by decide +kernel) rfl
theorem wd_1031 : Cond.instanceMethod yX5_on ∈ base := base_in 1031 (by decide +kernel) rfl
theorem wd_1032 : Cond.selects RX5 yX5_on yX5_on ∈ base := base_in 1032 (by decide +kernel) rfl
theorem wd_1033 : Cond.code yX5_on cX5_on 4 (some .int) ∈ base := base_in 1033 (by decide +kernel) rfl
theorem wd_1034 : Cond.methodLink RX5 172 yX5_laysAside ∈ base := base_in 1034 (by decide +kernel) rfl
theorem wd_1036 : Cond.instanceMethod yX5_laysAside ∈ base := base_in 1036 (by decide +kernel) rfl
theorem wd_1037 : Cond.code yX5_laysAside cX5_laysAside 2 none ∈ base := base_in 1037 (by decide +kernel) rfl
theorem wd_1038 : Cond.methodLink RX5 175 yX5_takesBack ∈ base := base_in 1038 (by decide +kernel) rfl
theorem wd_1040 : Cond.instanceMethod yX5_takesBack ∈ base := base_in 1040 (by decide +kernel) rfl
theorem wd_1041 : Cond.code yX5_takesBack cX5_takesBack 3 (some .int) ∈ base := base_in 1041 (by decide +kernel) rfl
theorem wd_1042 : Cond.methodLink RL 71 yX5_when ∈ base := base_in 1042 (by decide +kernel) rfl
theorem wd_1043 : Cond.instanceMethod yX5_when ∈ base := base_in 1043 (by decide +kernel) rfl
theorem wd_1044 : Cond.selects RX5 yX5_when yX5_when ∈ base := base_in 1044 (by decide +kernel) rfl
theorem wd_1045 : Cond.code yX5_when cX5_when 3 (some .int) ∈ base := base_in 1045 (by decide +kernel) rfl
theorem wd_1046 : Cond.methodLink RX5 178 yX5_whenOf ∈ base := base_in 1046 (by decide +kernel) rfl
theorem wd_1048 : Cond.instanceMethod yX5_whenOf ∈ base := base_in 1048 (by decide +kernel) rfl
theorem wd_1049 : Cond.code yX5_whenOf cX5_whenOf 4 (some .int) ∈ base := base_in 1049 (by decide +kernel) rfl
theorem wd_1050 : Cond.methodLink RX5 181 yX5_orNone ∈ base := base_in 1050 (by decide +kernel) rfl
theorem wd_1052 : Cond.instanceMethod yX5_orNone ∈ base := base_in 1052 (by decide +kernel) rfl
theorem wd_1053 : Cond.code yX5_orNone cX5_orNone 3 (some .int) ∈ base := base_in 1053 (by decide +kernel) rfl
theorem wd_1054 : Cond.methodLink RL 75 yX5_meet ∈ base := base_in 1054 (by decide +kernel) rfl
theorem wd_1055 : Cond.instanceMethod yX5_meet ∈ base := base_in 1055 (by decide +kernel) rfl
theorem wd_1056 : Cond.selects RX5 yX5_meet yX5_meet ∈ base := base_in 1056 (by decide +kernel) rfl
theorem wd_1057 : Cond.code yX5_meet cX5_meet 4 (some .int) ∈ base := base_in 1057 (by decide +kernel) rfl
theorem wd_1058 : Cond.methodLink RL 79 yX5_carries ∈ base := base_in 1058 (by decide +kernel) rfl
theorem wd_1059 : Cond.instanceMethod yX5_carries ∈ base := base_in 1059 (by decide +kernel) rfl
theorem wd_1060 : Cond.selects RX5 yX5_carries yX5_carries ∈ base := base_in 1060 (by decide +kernel) rfl
theorem wd_1061 : Cond.code yX5_carries cX5_carries 3 (some .int) ∈ base := base_in 1061 (by decide +kernel) rfl
theorem wd_1062 : Cond.methodLink RX5 184 yX5_carriers ∈ base := base_in 1062 (by decide +kernel) rfl
theorem wd_1064 : Cond.instanceMethod yX5_carriers ∈ base := base_in 1064 (by decide +kernel) rfl
theorem wd_1065 : Cond.code yX5_carriers cX5_carriers 4 (some .int) ∈ base := base_in 1065 (by decide +kernel) rfl
theorem wd_1066 : Cond.methodLink RL 83 yX5_soonest ∈ base := base_in 1066 (by decide +kernel) rfl
theorem wd_1067 : Cond.instanceMethod yX5_soonest ∈ base := base_in 1067 (by decide +kernel) rfl
theorem wd_1068 : Cond.selects RX5 yX5_soonest yX5_soonest ∈ base := base_in 1068 (by decide +kernel) rfl
theorem wd_1069 : Cond.code yX5_soonest cX5_soonest 4 (some .int) ∈ base := base_in 1069 (by decide +kernel) rfl
theorem wd_1070 : Cond.methodLink RX5 201 yX5_wrongReader ∈ base := base_in 1070 (by decide +kernel) rfl
theorem wd_1072 : Cond.instanceMethod yX5_wrongReader ∈ base := base_in 1072 (by decide +kernel) rfl
theorem wd_1073 : Cond.code yX5_wrongReader cX5_wrongReader 3 (some .int) ∈ base := base_in 1073 (by decide +kernel) rfl
theorem wd_1074 : Cond.methodLink RX5 204 yX5_soonestOf ∈ base := base_in 1074 (by decide +kernel) rfl
theorem wd_1076 : Cond.instanceMethod yX5_soonestOf ∈ base := base_in 1076 (by decide +kernel) rfl
theorem wd_1077 : Cond.code yX5_soonestOf cX5_soonestOf 6 (some .int) ∈ base := base_in 1077 (by decide +kernel) rfl
theorem wd_1078 : Cond.methodLink RX5 191 yX5_places ∈ base := base_in 1078 (by decide +kernel) rfl
theorem wd_1080 : Cond.instanceMethod yX5_places ∈ base := base_in 1080 (by decide +kernel) rfl
theorem wd_1081 : Cond.code yX5_places cX5_places 4 (some .int) ∈ base := base_in 1081 (by decide +kernel) rfl
theorem wd_1082 : Cond.methodLink RX5 198 yX5_spread ∈ base := base_in 1082 (by decide +kernel) rfl
theorem wd_1084 : Cond.instanceMethod yX5_spread ∈ base := base_in 1084 (by decide +kernel) rfl
theorem wd_1085 : Cond.code yX5_spread cX5_spread 4 (some .int) ∈ base := base_in 1085 (by decide +kernel) rfl
theorem wd_1086 : Cond.methodLink RX5 188 yX5_open ∈ base := base_in 1086 (by decide +kernel) rfl
theorem wd_1088 : Cond.instanceMethod yX5_open ∈ base := base_in 1088 (by decide +kernel) rfl
theorem wd_1089 : Cond.code yX5_open cX5_open 1 (some .int) ∈ base := base_in 1089 (by decide +kernel) rfl
theorem wd_1090 : Cond.constant RX5 187 (1073741823) ∈ base := base_in 1090 (by decide +kernel) rfl
theorem wd_1091 : Cond.methodLink RL 87 yX5_where ∈ base := base_in 1091 (by decide +kernel) rfl
theorem wd_1092 : Cond.instanceMethod yX5_where ∈ base := base_in 1092 (by decide +kernel) rfl
theorem wd_1093 : Cond.selects RX5 yX5_where yX5_where ∈ base := base_in 1093 (by decide +kernel) rfl
theorem wd_1094 : Cond.code yX5_where cX5_where 5 (some .int) ∈ base := base_in 1094 (by decide +kernel) rfl
theorem wd_1095 : Cond.methodLink RL 91 yX5_waits ∈ base := base_in 1095 (by decide +kernel) rfl
theorem wd_1096 : Cond.instanceMethod yX5_waits ∈ base := base_in 1096 (by decide +kernel) rfl
theorem wd_1097 : Cond.selects RX5 yX5_waits yX5_waits ∈ base := base_in 1097 (by decide +kernel) rfl
theorem wd_1098 : Cond.code yX5_waits cX5_waits 5 (some .int) ∈ base := base_in 1098 (by decide +kernel) rfl
theorem wd_1099 : Cond.methodLink RL 95 yX5_waterhole ∈ base := base_in 1099 (by decide +kernel) rfl
theorem wd_1100 : Cond.instanceMethod yX5_waterhole ∈ base := base_in 1100 (by decide +kernel) rfl
theorem wd_1101 : Cond.selects RX5 yX5_waterhole yX5_waterhole ∈ base := base_in 1101 (by decide +kernel) rfl
theorem wd_1102 : Cond.code yX5_waterhole cX5_waterhole 6 (some .int) ∈ base := base_in 1102 (by decide +kernel) rfl
theorem wd_1103 : Cond.methodLink RL 99 yX5_many ∈ base := base_in 1103 (by decide +kernel) rfl
theorem wd_1104 : Cond.instanceMethod yX5_many ∈ base := base_in 1104 (by decide +kernel) rfl
theorem wd_1105 : Cond.selects RX5 yX5_many yX5_many ∈ base := base_in 1105 (by decide +kernel) rfl
theorem wd_1106 : Cond.code yX5_many cX5_many 5 (some .int) ∈ base := base_in 1106 (by decide +kernel) rfl
theorem wd_1107 : Cond.constantLong RX5 207 (48) ∈ base := base_in 1107 (by decide +kernel) rfl
theorem wd_1108 : Cond.methodLink RL 103 yX5_both ∈ base := base_in 1108 (by decide +kernel) rfl
theorem wd_1109 : Cond.instanceMethod yX5_both ∈ base := base_in 1109 (by decide +kernel) rfl
theorem wd_1110 : Cond.selects RX5 yX5_both yX5_both ∈ base := base_in 1110 (by decide +kernel) rfl
theorem wd_1111 : Cond.code yX5_both cX5_both 10 (some .int) ∈ base := base_in 1111 (by decide +kernel) rfl
theorem wd_1112 : Cond.methodLink RL 107 yX5_censors ∈ base := base_in 1112 (by decide +kernel) rfl
theorem wd_1113 : Cond.instanceMethod yX5_censors ∈ base := base_in 1113 (by decide +kernel) rfl
theorem wd_1114 : Cond.selects RX5 yX5_censors yX5_censors ∈ base := base_in 1114 (by decide +kernel) rfl
theorem wd_1115 : Cond.code yX5_censors cX5_censors 8 (some .int) ∈ base := base_in 1115 (by decide +kernel) rfl
theorem wd_1116 : Cond.methodLink RL 111 yX5_tips ∈ base := base_in 1116 (by decide +kernel) rfl
theorem wd_1117 : Cond.instanceMethod yX5_tips ∈ base := base_in 1117 (by decide +kernel) rfl
theorem wd_1118 : Cond.selects RX5 yX5_tips yX5_tips ∈ base := base_in 1118 (by decide +kernel) rfl
theorem wd_1119 : Cond.code yX5_tips cX5_tips 8 (some .int) ∈ base := base_in 1119 (by decide +kernel) rfl
theorem wd_1120 : Cond.methodLink RX5 209 yX5_isSooner ∈ base := base_in 1120 (by decide +kernel) rfl
theorem wd_1121 : Cond.static yX5_isSooner ∈ base := base_in 1121 (by decide +kernel) rfl
theorem wd_1122 : Cond.code yX5_isSooner cX5_isSooner 2 (some .boolean) ∈ base := base_in 1122 (by decide +kernel) rfl
theorem wd_1123 : Cond.methodLink RL 115 yX5_spring ∈ base := base_in 1123 (by decide +kernel) rfl
theorem wd_1124 : Cond.instanceMethod yX5_spring ∈ base := base_in 1124 (by decide +kernel) rfl
theorem wd_1125 : Cond.selects RX5 yX5_spring yX5_spring ∈ base := base_in 1125 (by decide +kernel) rfl
theorem wd_1126 : Cond.code yX5_spring cX5_spring 9 (some .int) ∈ base := base_in 1126 (by decide +kernel) rfl
theorem wd_1127 : Cond.methodLink RL 119 yX5_kind ∈ base := base_in 1127 (by decide +kernel) rfl
theorem wd_1128 : Cond.instanceMethod yX5_kind ∈ base := base_in 1128 (by decide +kernel) rfl
theorem wd_1129 : Cond.selects RX5 yX5_kind yX5_kind ∈ base := base_in 1129 (by decide +kernel) rfl
theorem wd_1130 : Cond.code yX5_kind cX5_kind 8 (some .int) ∈ base := base_in 1130 (by decide +kernel) rfl
theorem wd_1131 : Cond.methodLink RL 123 yX5_feed ∈ base := base_in 1131 (by decide +kernel) rfl
theorem wd_1132 : Cond.instanceMethod yX5_feed ∈ base := base_in 1132 (by decide +kernel) rfl
theorem wd_1133 : Cond.selects RX5 yX5_feed yX5_feed ∈ base := base_in 1133 (by decide +kernel) rfl
theorem wd_1134 : Cond.code yX5_feed cX5_feed 4 (some .int) ∈ base := base_in 1134 (by decide +kernel) rfl
theorem wd_1135 : Cond.constantLong RX5 212 (4) ∈ base := base_in 1135 (by decide +kernel) rfl
theorem wd_1136 : Cond.methodLink RL 128 yX5_wipe ∈ base := base_in 1136 (by decide +kernel) rfl
theorem wd_1137 : Cond.instanceMethod yX5_wipe ∈ base := base_in 1137 (by decide +kernel) rfl
theorem wd_1138 : Cond.selects RX5 yX5_wipe yX5_wipe ∈ base := base_in 1138 (by decide +kernel) rfl
theorem wd_1139 : Cond.code yX5_wipe cX5_wipe 2 (some .int) ∈ base := base_in 1139 (by decide +kernel) rfl
theorem wd_1140 : Cond.methodLink RL 132 yX5_island ∈ base := base_in 1140 (by decide +kernel) rfl
theorem wd_1141 : Cond.instanceMethod yX5_island ∈ base := base_in 1141 (by decide +kernel) rfl
theorem wd_1142 : Cond.selects RX5 yX5_island yX5_island ∈ base := base_in 1142 (by decide +kernel) rfl
theorem wd_1143 : Cond.code yX5_island cX5_island 2 (some .int) ∈ base := base_in 1143 (by decide +kernel) rfl
theorem wd_1144 : Cond.methodLink RX5 312 yX5_saves ∈ base := base_in 1144 (by decide +kernel) rfl
theorem wd_1146 : Cond.instanceMethod yX5_saves ∈ base := base_in 1146 (by decide +kernel) rfl
theorem wd_1147 : Cond.code yX5_saves cX5_saves 2 none ∈ base := base_in 1147 (by decide +kernel) rfl
theorem wd_1148 : Cond.methodLink RX5 242 yX5_token ∈ base := base_in 1148 (by decide +kernel) rfl
theorem wd_1150 : Cond.instanceMethod yX5_token ∈ base := base_in 1150 (by decide +kernel) rfl
theorem wd_1151 : Cond.code yX5_token cX5_token 3 none ∈ base := base_in 1151 (by decide +kernel) rfl
theorem wd_1152 : Cond.methodLink RX5 229 yX5_byteAt ∈ base := base_in 1152 (by decide +kernel) rfl
theorem wd_1154 : Cond.instanceMethod yX5_byteAt ∈ base := base_in 1154 (by decide +kernel) rfl
theorem wd_1155 : Cond.code yX5_byteAt cX5_byteAt 2 (some .int) ∈ base := base_in 1155 (by decide +kernel) rfl
theorem wd_1156 : Cond.methodLink RX5 232 yX5_isLetter ∈ base := base_in 1156 (by decide +kernel) rfl
theorem wd_1157 : Cond.static yX5_isLetter ∈ base := base_in 1157 (by decide +kernel) rfl
theorem wd_1158 : Cond.code yX5_isLetter cX5_isLetter 1 (some .boolean) ∈ base := base_in 1158 (by decide +kernel) rfl
theorem wd_1159 : Cond.constantLong RX5 217 (97) ∈ base := base_in 1159 (by decide +kernel) rfl
theorem wd_1160 : Cond.constantLong RX5 219 (122) ∈ base := base_in 1160 (by decide +kernel) rfl
theorem wd_1161 : Cond.methodLink RX5 235 yX5_isDigit ∈ base := base_in 1161 (by decide +kernel) rfl
theorem wd_1162 : Cond.static yX5_isDigit ∈ base := base_in 1162 (by decide +kernel) rfl
theorem wd_1163 : Cond.code yX5_isDigit cX5_isDigit 1 (some .boolean) ∈ base := base_in 1163 (by decide +kernel) rfl
theorem wd_1164 : Cond.constantLong RX5 221 (57) ∈ base := base_in 1164 (by decide +kernel) rfl
theorem wd_1165 : Cond.methodLink RX5 315 yX5_item ∈ base := base_in 1165 (by decide +kernel) rfl
theorem wd_1167 : Cond.instanceMethod yX5_item ∈ base := base_in 1167 (by decide +kernel) rfl
theorem wd_1168 : Cond.code yX5_item cX5_item 4 none ∈ base := base_in 1168 (by decide +kernel) rfl
theorem wd_1169 : Cond.methodLink RX5 288 yX5_kindHere ∈ base := base_in 1169 (by decide +kernel) rfl
theorem wd_1171 : Cond.instanceMethod yX5_kindHere ∈ base := base_in 1171 (by decide +kernel) rfl
theorem wd_1172 : Cond.code yX5_kindHere cX5_kindHere 3 (some .int) ∈ base := base_in 1172 (by decide +kernel) rfl
theorem wd_1173 : Cond.methodLink RX5 256 yX5_word ∈ base := base_in 1173 (by decide +kernel) rfl
theorem wd_1175 : Cond.instanceMethod yX5_word ∈ base := base_in 1175 (by decide +kernel) rfl
theorem wd_1176 : Cond.code yX5_word cX5_word 4 (some .long) ∈ base := base_in 1176 (by decide +kernel) rfl
theorem wd_1177 : Cond.constantLong RX5 245 (36028797018963967) ∈ base := base_in 1177 (by decide +kernel) rfl
theorem wd_1178 : Cond.constantLong RX5 247 (32) ∈ base := base_in 1178 (by decide +kernel) rfl
theorem wd_1179 : Cond.constantLong RX5 260 (703926347365) ∈ base := base_in 1179 (by decide +kernel) rfl
theorem wd_1180 : Cond.constantLong RX5 262 (26727879) ∈ base := base_in 1180 (by decide +kernel) rfl
theorem wd_1181 : Cond.constantLong RX5 264 (12343) ∈ base := base_in 1181 (by decide +kernel) rfl
theorem wd_1182 : Cond.constantLong RX5 266 (15748) ∈ base := base_in 1182 (by decide +kernel) rfl
theorem wd_1183 : Cond.constantLong RX5 268 (551282815156) ∈ base := base_in 1183 (by decide +kernel) rfl
theorem wd_1184 : Cond.constantLong RX5 270 (3193326) ∈ base := base_in 1184 (by decide +kernel) rfl
theorem wd_1185 : Cond.methodLink RX5 291 yX5_tortoiseItem ∈ base := base_in 1185 (by decide +kernel) rfl
theorem wd_1187 : Cond.instanceMethod yX5_tortoiseItem ∈ base := base_in 1187 (by decide +kernel) rfl
theorem wd_1188 : Cond.code yX5_tortoiseItem cX5_tortoiseItem 5 none ∈ base := base_in 1188 (by decide +kernel) rfl
theorem wd_1189 : Cond.methodLink RX5 252 yX5_wants ∈ base := base_in 1189 (by decide +kernel) rfl
theorem wd_1191 : Cond.instanceMethod yX5_wants ∈ base := base_in 1191 (by decide +kernel) rfl
theorem wd_1192 : Cond.code yX5_wants cX5_wants 2 none ∈ base := base_in 1192 (by decide +kernel) rfl
theorem wd_1193 : Cond.constantLong RX5 281 (52) ∈ base := base_in 1193 (by decide +kernel) rfl
theorem wd_1194 : Cond.methodLink RX5 283 yX5_cellHere ∈ base := base_in 1194 (by decide +kernel) rfl
theorem wd_1196 : Cond.instanceMethod yX5_cellHere ∈ base := base_in 1196 (by decide +kernel) rfl
theorem wd_1197 : Cond.code yX5_cellHere cX5_cellHere 1 none ∈ base := base_in 1197 (by decide +kernel) rfl
theorem wd_1198 : Cond.methodLink RX5 278 yX5_number ∈ base := base_in 1198 (by decide +kernel) rfl
theorem wd_1200 : Cond.instanceMethod yX5_number ∈ base := base_in 1200 (by decide +kernel) rfl
theorem wd_1201 : Cond.code yX5_number cX5_number 6 none ∈ base := base_in 1201 (by decide +kernel) rfl
theorem wd_1202 : Cond.constantLong RX5 294 (6469733) ∈ base := base_in 1202 (by decide +kernel) rfl
theorem wd_1203 : Cond.constantLong RX5 296 (215205) ∈ base := base_in 1203 (by decide +kernel) rfl
theorem wd_1204 : Cond.methodLink RX5 298 yX5_fenceItem ∈ base := base_in 1204 (by decide +kernel) rfl
theorem wd_1206 : Cond.instanceMethod yX5_fenceItem ∈ base := base_in 1206 (by decide +kernel) rfl
theorem wd_1207 : Cond.code yX5_fenceItem cX5_fenceItem 2 none ∈ base := base_in 1207 (by decide +kernel) rfl
theorem wd_1208 : Cond.constantLong RX5 301 (591150) ∈ base := base_in 1208 (by decide +kernel) rfl
theorem wd_1209 : Cond.methodLink RX5 303 yX5_rainItem ∈ base := base_in 1209 (by decide +kernel) rfl
theorem wd_1211 : Cond.instanceMethod yX5_rainItem ∈ base := base_in 1211 (by decide +kernel) rfl
theorem wd_1212 : Cond.code yX5_rainItem cX5_rainItem 4 none ∈ base := base_in 1212 (by decide +kernel) rfl
theorem wd_1213 : Cond.constantLong RX5 286 (655) ∈ base := base_in 1213 (by decide +kernel) rfl
theorem wd_1214 : Cond.methodLink RX5 306 yX5_placeHere ∈ base := base_in 1214 (by decide +kernel) rfl
theorem wd_1216 : Cond.instanceMethod yX5_placeHere ∈ base := base_in 1216 (by decide +kernel) rfl
theorem wd_1217 : Cond.code yX5_placeHere cX5_placeHere 3 (some .int) ∈ base := base_in 1217 (by decide +kernel) rfl
theorem wd_1218 : Cond.constantLong RX5 272 (654910919) ∈ base := base_in 1218 (by decide +kernel) rfl
theorem wd_1219 : Cond.constantLong RX5 274 (20186245) ∈ base := base_in 1219 (by decide +kernel) rfl
theorem wd_1220 : Cond.constantLong RX5 276 (2262120) ∈ base := base_in 1220 (by decide +kernel) rfl
theorem wd_1221 : Cond.methodLink RX5 309 yX5_placeItem ∈ base := base_in 1221 (by decide +kernel) rfl
theorem wd_1223 : Cond.instanceMethod yX5_placeItem ∈ base := base_in 1223 (by decide +kernel) rfl
theorem wd_1224 : Cond.code yX5_placeItem cX5_placeItem 2 none ∈ base := base_in 1224 (by decide +kernel) rfl
theorem wd_1225 : Cond.methodLink RX5 318 yX5_putsBack ∈ base := base_in 1225 (by decide +kernel) rfl
theorem wd_1227 : Cond.instanceMethod yX5_putsBack ∈ base := base_in 1227 (by decide +kernel) rfl
theorem wd_1228 : Cond.code yX5_putsBack cX5_putsBack 2 none ∈ base := base_in 1228 (by decide +kernel) rfl
theorem wd_1229 : Cond.methodLink RL 136 yX5_sheet ∈ base := base_in 1229 (by decide +kernel) rfl
theorem wd_1230 : Cond.instanceMethod yX5_sheet ∈ base := base_in 1230 (by decide +kernel) rfl
theorem wd_1231 : Cond.selects RX5 yX5_sheet yX5_sheet ∈ base := base_in 1231 (by decide +kernel) rfl
theorem wd_1232 : Cond.code yX5_sheet cX5_sheet 5 (some .int) ∈ base := base_in 1232 (by decide +kernel) rfl
theorem wd_1233 : Cond.methodLink RX5 323 yX5_isRow ∈ base := base_in 1233 (by decide +kernel) rfl
theorem wd_1234 : Cond.static yX5_isRow ∈ base := base_in 1234 (by decide +kernel) rfl
theorem wd_1235 : Cond.code yX5_isRow cX5_isRow 1 (some .boolean) ∈ base := base_in 1235 (by decide +kernel) rfl
theorem wd_1236 : Cond.constantLong RX5 321 (3) ∈ base := base_in 1236 (by decide +kernel) rfl
theorem wd_1237 : Cond.constant RX5 326 (-1000000007) ∈ base := base_in 1237 (by decide +kernel) rfl
theorem wd_1238 : Cond.methodLink RL 143 yX5_write ∈ base := base_in 1238 (by decide +kernel) rfl
theorem wd_1239 : Cond.instanceMethod yX5_write ∈ base := base_in 1239 (by decide +kernel) rfl
theorem wd_1240 : Cond.selects RX5 yX5_write yX5_write ∈ base := base_in 1240 (by decide +kernel) rfl
theorem wd_1241 : Cond.code yX5_write cX5_write 8 (some .long) ∈ base := base_in 1241 (by decide +kernel) rfl
theorem wd_1242 : Cond.methodLink RX5 328 yX5_wrong ∈ base := base_in 1242 (by decide +kernel) rfl
theorem wd_1244 : Cond.instanceMethod yX5_wrong ∈ base := base_in 1244 (by decide +kernel) rfl
theorem wd_1245 : Cond.code yX5_wrong cX5_wrong 2 (some .int) ∈ base := base_in 1245 (by decide +kernel) rfl
theorem wd_1246 : Cond.constant RX5 327 (-1000000006) ∈ base := base_in 1246 (by decide +kernel) rfl
theorem wd_1247 : Cond.methodLink RX5 331 yX5_narrowed ∈ base := base_in 1247 (by decide +kernel) rfl
theorem wd_1248 : Cond.static yX5_narrowed ∈ base := base_in 1248 (by decide +kernel) rfl
theorem wd_1249 : Cond.code yX5_narrowed cX5_narrowed 3 (some .long) ∈ base := base_in 1249 (by decide +kernel) rfl
theorem wd_1250 : Cond.methodLink RL 148 yX5_copy ∈ base := base_in 1250 (by decide +kernel) rfl
theorem wd_1251 : Cond.instanceMethod yX5_copy ∈ base := base_in 1251 (by decide +kernel) rfl
theorem wd_1252 : Cond.selects RX5 yX5_copy yX5_copy ∈ base := base_in 1252 (by decide +kernel) rfl
theorem wd_1253 : Cond.code yX5_copy cX5_copy 7 (some .int) ∈ base := base_in 1253 (by decide +kernel) rfl
theorem wd_1254 : Cond.methodLink RL 152 yX5_lays ∈ base := base_in 1254 (by decide +kernel) rfl
theorem wd_1255 : Cond.instanceMethod yX5_lays ∈ base := base_in 1255 (by decide +kernel) rfl
theorem wd_1256 : Cond.selects RX5 yX5_lays yX5_lays ∈ base := base_in 1256 (by decide +kernel) rfl
theorem wd_1257 : Cond.code yX5_lays cX5_lays 7 (some .int) ∈ base := base_in 1257 (by decide +kernel) rfl
theorem wd_1258 : Cond.methodLink RL 156 yX5_book ∈ base := base_in 1258 (by decide +kernel) rfl
theorem wd_1259 : Cond.instanceMethod yX5_book ∈ base := base_in 1259 (by decide +kernel) rfl
theorem wd_1260 : Cond.selects RX5 yX5_book yX5_book ∈ base := base_in 1260 (by decide +kernel) rfl
theorem wd_1261 : Cond.code yX5_book cX5_book 5 (some .int) ∈ base := base_in 1261 (by decide +kernel) rfl
theorem wd_1262 : Cond.methodLink RX5 335 yX5_wrongBook ∈ base := base_in 1262 (by decide +kernel) rfl
theorem wd_1264 : Cond.instanceMethod yX5_wrongBook ∈ base := base_in 1264 (by decide +kernel) rfl
theorem wd_1265 : Cond.code yX5_wrongBook cX5_wrongBook 4 (some .int) ∈ base := base_in 1265 (by decide +kernel) rfl
theorem wd_1266 : Cond.methodLink RL 160 yX5_read ∈ base := base_in 1266 (by decide +kernel) rfl
theorem wd_1267 : Cond.instanceMethod yX5_read ∈ base := base_in 1267 (by decide +kernel) rfl
theorem wd_1268 : Cond.selects RX5 yX5_read yX5_read ∈ base := base_in 1268 (by decide +kernel) rfl
theorem wd_1269 : Cond.code yX5_read cX5_read 7 (some .int) ∈ base := base_in 1269 (by decide +kernel) rfl
theorem wd_1270 : Cond.methodLink RX5 338 yX5_isSo ∈ base := base_in 1270 (by decide +kernel) rfl
theorem wd_1272 : Cond.instanceMethod yX5_isSo ∈ base := base_in 1272 (by decide +kernel) rfl
theorem wd_1273 : Cond.code yX5_isSo cX5_isSo 5 (some .int) ∈ base := base_in 1273 (by decide +kernel) rfl
theorem wd_1274 : Cond.methodLink RL 164 yX5_image ∈ base := base_in 1274 (by decide +kernel) rfl
theorem wd_1275 : Cond.instanceMethod yX5_image ∈ base := base_in 1275 (by decide +kernel) rfl
theorem wd_1276 : Cond.selects RX5 yX5_image yX5_image ∈ base := base_in 1276 (by decide +kernel) rfl
theorem wd_1277 : Cond.code yX5_image cX5_image 2 (some .int) ∈ base := base_in 1277 (by decide +kernel) rfl
theorem wd_1278 : Cond.methodLink RL 168 yX5_undo ∈ base := base_in 1278 (by decide +kernel) rfl
theorem wd_1279 : Cond.instanceMethod yX5_undo ∈ base := base_in 1279 (by decide +kernel) rfl
theorem wd_1280 : Cond.selects RX5 yX5_undo yX5_undo ∈ base := base_in 1280 (by decide +kernel) rfl
theorem wd_1281 : Cond.code yX5_undo cX5_undo 2 (some .int) ∈ base := base_in 1281 (by decide +kernel) rfl
theorem wd_1282 : Cond.methodLink RL 172 yX5_tear ∈ base := base_in 1282 (by decide +kernel) rfl
theorem wd_1283 : Cond.instanceMethod yX5_tear ∈ base := base_in 1283 (by decide +kernel) rfl
theorem wd_1284 : Cond.selects RX5 yX5_tear yX5_tear ∈ base := base_in 1284 (by decide +kernel) rfl
theorem wd_1285 : Cond.code yX5_tear cX5_tear 2 (some .int) ∈ base := base_in 1285 (by decide +kernel) rfl
theorem wd_1286 : Cond.methodLink RL 176 yX5_count ∈ base := base_in 1286 (by decide +kernel) rfl
theorem wd_1287 : Cond.instanceMethod yX5_count ∈ base := base_in 1287 (by decide +kernel) rfl
theorem wd_1288 : Cond.selects RX5 yX5_count yX5_count ∈ base := base_in 1288 (by decide +kernel) rfl
theorem wd_1289 : Cond.code yX5_count cX5_count 2 (some .int) ∈ base := base_in 1289 (by decide +kernel) rfl
theorem wd_1290 : Cond.methodLink RX5 344 yX5_tipped ∈ base := base_in 1290 (by decide +kernel) rfl
theorem wd_1292 : Cond.instanceMethod yX5_tipped ∈ base := base_in 1292 (by decide +kernel) rfl
theorem wd_1293 : Cond.code yX5_tipped cX5_tipped 3 (some .int) ∈ base := base_in 1293 (by decide +kernel) rfl
theorem wd_1294 : Cond.methodLink RL 180 yX5_status ∈ base := base_in 1294 (by decide +kernel) rfl
theorem wd_1295 : Cond.instanceMethod yX5_status ∈ base := base_in 1295 (by decide +kernel) rfl
theorem wd_1296 : Cond.selects RX5 yX5_status yX5_status ∈ base := base_in 1296 (by decide +kernel) rfl
theorem wd_1297 : Cond.code yX5_status cX5_status 4 (some .int) ∈ base := base_in 1297 (by decide +kernel) rfl
theorem wd_1298 : Cond.constantLong RX5 347 (-1) ∈ base := base_in 1298 (by decide +kernel) rfl
theorem wd_1299 : Cond.constantLong RX5 349 (6) ∈ base := base_in 1299 (by decide +kernel) rfl
theorem wd_1300 : Cond.constantLong RL 137 (4294967295) ∈ base := base_in 1300 (by decide +kernel) rfl
theorem wd_1301 : Cond.fieldLink RJ0 9 "java/lang/String" "value" "[B" ∈ base := base_in 1301 (by decide +kernel) rfl
theorem wd_1302 : Cond.fieldLink RJ0 15 "java/lang/String" "coder" "B" ∈ base := base_in 1302 (by decide +kernel) rfl
theorem us_X0 : ∀ w ∈ u_ws RX0 TX0 9, w ∈ base := by
  intro w hw
  obtain ⟨k, hk, rfl⟩ := List.mem_map.mp hw
  have hk := List.mem_range.mp hk
  by_cases h0 : k = 0
  · subst h0; exact wd_128
  by_cases h1 : k = 1
  · subst h1; exact wd_130
  by_cases h2 : k = 2
  · subst h2; exact wd_132
  by_cases h3 : k = 3
  · subst h3; exact wd_134
  by_cases h4 : k = 4
  · subst h4; exact wd_136
  by_cases h5 : k = 5
  · subst h5; exact wd_138
  by_cases h6 : k = 6
  · subst h6; exact wd_140
  by_cases h7 : k = 7
  · subst h7; exact wd_142
  by_cases h8 : k = 8
  · subst h8; exact wd_144
  omega
theorem us_X1 : ∀ w ∈ u_ws RX1 TX1 4, w ∈ base := by
  intro w hw
  obtain ⟨k, hk, rfl⟩ := List.mem_map.mp hw
  have hk := List.mem_range.mp hk
  by_cases h0 : k = 0
  · subst h0; exact wd_163
  by_cases h1 : k = 1
  · subst h1; exact wd_165
  by_cases h2 : k = 2
  · subst h2; exact wd_167
  by_cases h3 : k = 3
  · subst h3; exact wd_169
  omega
theorem us_X2 : ∀ w ∈ u_ws RX2 TX2 3, w ∈ base := by
  intro w hw
  obtain ⟨k, hk, rfl⟩ := List.mem_map.mp hw
  have hk := List.mem_range.mp hk
  by_cases h0 : k = 0
  · subst h0; exact wd_216
  by_cases h1 : k = 1
  · subst h1; exact wd_218
  by_cases h2 : k = 2
  · subst h2; exact wd_220
  omega
theorem us_X3 : ∀ w ∈ u_ws RX3 TX3 7, w ∈ base := by
  intro w hw
  obtain ⟨k, hk, rfl⟩ := List.mem_map.mp hw
  have hk := List.mem_range.mp hk
  by_cases h0 : k = 0
  · subst h0; exact wd_186
  by_cases h1 : k = 1
  · subst h1; exact wd_188
  by_cases h2 : k = 2
  · subst h2; exact wd_190
  by_cases h3 : k = 3
  · subst h3; exact wd_192
  by_cases h4 : k = 4
  · subst h4; exact wd_194
  by_cases h5 : k = 5
  · subst h5; exact wd_196
  by_cases h6 : k = 6
  · subst h6; exact wd_198
  omega
theorem us_X4 : ∀ w ∈ u_ws RX4 TX4 8, w ∈ base := by
  intro w hw
  obtain ⟨k, hk, rfl⟩ := List.mem_map.mp hw
  have hk := List.mem_range.mp hk
  by_cases h0 : k = 0
  · subst h0; exact wd_232
  by_cases h1 : k = 1
  · subst h1; exact wd_234
  by_cases h2 : k = 2
  · subst h2; exact wd_236
  by_cases h3 : k = 3
  · subst h3; exact wd_238
  by_cases h4 : k = 4
  · subst h4; exact wd_240
  by_cases h5 : k = 5
  · subst h5; exact wd_242
  by_cases h6 : k = 6
  · subst h6; exact wd_244
  by_cases h7 : k = 7
  · subst h7; exact wd_246
  omega
theorem us_X5 : ∀ w ∈ u_ws RX5 TX5 17, w ∈ base := by
  intro w hw
  obtain ⟨k, hk, rfl⟩ := List.mem_map.mp hw
  have hk := List.mem_range.mp hk
  by_cases h0 : k = 0
  · subst h0; exact wd_813
  by_cases h1 : k = 1
  · subst h1; exact wd_815
  by_cases h2 : k = 2
  · subst h2; exact wd_817
  by_cases h3 : k = 3
  · subst h3; exact wd_819
  by_cases h4 : k = 4
  · subst h4; exact wd_821
  by_cases h5 : k = 5
  · subst h5; exact wd_823
  by_cases h6 : k = 6
  · subst h6; exact wd_825
  by_cases h7 : k = 7
  · subst h7; exact wd_827
  by_cases h8 : k = 8
  · subst h8; exact wd_829
  by_cases h9 : k = 9
  · subst h9; exact wd_831
  by_cases h10 : k = 10
  · subst h10; exact wd_833
  by_cases h11 : k = 11
  · subst h11; exact wd_835
  by_cases h12 : k = 12
  · subst h12; exact wd_837
  by_cases h13 : k = 13
  · subst h13; exact wd_839
  by_cases h14 : k = 14
  · subst h14; exact wd_841
  by_cases h15 : k = 15
  · subst h15; exact wd_843
  by_cases h16 : k = 16
  · subst h16; exact wd_845
  omega
end
section
abbrev tysC (cy : Nat → ClassId) : List (ClassId × FieldType) := [(cy 0, .int), (cy 1, .long), (cy 2, .boolean), (cy 3, .object "TortoiseShelves$Sheet")]
abbrev nestF : List (String × Nat × String × String × String × String) := [("TortoiseShelves", 104, "TortoiseShelves$Island", "kinds", "[I", "TortoiseShelves"), ("TortoiseShelves", 107, "TortoiseShelves$Island", "cells", "[I", "TortoiseShelves"), ("TortoiseShelves", 110, "TortoiseShelves$Island", "books", "[I", "TortoiseShelves"), ("TortoiseShelves", 113, "TortoiseShelves$Island", "tipped", "[Z", "TortoiseShelves"), ("TortoiseShelves", 136, "TortoiseShelves$Island", "hour", "I", "TortoiseShelves"), ("TortoiseShelves", 196, "TortoiseShelves$Island", "fencedCells", "I", "TortoiseShelves"), ("TortoiseShelves", 210, "TortoiseShelves$Reader", "isle", "LTortoiseShelves$Island;", "TortoiseShelves"), ("TortoiseShelves", 220, "TortoiseShelves$Tape", "length", "I", "TortoiseShelves"), ("TortoiseShelves", 234, "TortoiseShelves$Sheet", "length", "I", "TortoiseShelves"), ("TortoiseShelves", 238, "TortoiseShelves$Sheet", "numbers", "[J", "TortoiseShelves"), ("TortoiseShelves", 249, "TortoiseShelves$Sheet", "bits", "I", "TortoiseShelves"), ("TortoiseShelves", 272, "TortoiseShelves$Island", "size", "I", "TortoiseShelves"), ("TortoiseShelves", 279, "TortoiseShelves$Reader", "readsIn", "I", "TortoiseShelves"), ("TortoiseShelves", 73, "TortoiseShelves$Island", "spots", "[I", "TortoiseShelves"), ("TortoiseShelves", 80, "TortoiseShelves$Island", "wetClocks", "I", "TortoiseShelves"), ("TortoiseShelves$Island", 101, "TortoiseShelves$Sheet", "numbers", "[J", "TortoiseShelves"), ("TortoiseShelves$Island", 96, "TortoiseShelves$Sheet", "length", "I", "TortoiseShelves"), ("TortoiseShelves$Reader", 55, "TortoiseShelves$Island", "fencedCells", "I", "TortoiseShelves"), ("TortoiseShelves$Tape", 110, "TortoiseShelves$Island", "wetClocks", "I", "TortoiseShelves"), ("TortoiseShelves$Tape", 113, "TortoiseShelves$Island", "spots", "[I", "TortoiseShelves")]
abbrev nestM : List (String × Nat × MethodName × String) := [("TortoiseShelves", 11, ⟨"TortoiseShelves$Island", "<init>", "()V"⟩, "TortoiseShelves"), ("TortoiseShelves", 24, ⟨"TortoiseShelves$Reader", "<init>", "()V"⟩, "TortoiseShelves"), ("TortoiseShelves", 31, ⟨"TortoiseShelves$Tape", "<init>", "()V"⟩, "TortoiseShelves"), ("TortoiseShelves", 42, ⟨"TortoiseShelves$Sheet", "<init>", "()V"⟩, "TortoiseShelves"), ("TortoiseShelves$Island", 41, ⟨"TortoiseShelves", "isBelow", "(II)Z"⟩, "TortoiseShelves"), ("TortoiseShelves$Reader", 11, ⟨"TortoiseShelves$Island", "<init>", "()V"⟩, "TortoiseShelves")]
/-! the abstract memory of a world, and the judgement GT: from here the machine ends as the tree t says -/
abbrev Mi : Type := Nat → Nat → Int32
abbrev Ml : Type := Nat → Nat → Int64
def sR {α : Type} (M : Nat → α) (r : Nat) (x : α) : Nat → α := fun q => if q = r then x else M q
theorem sR_same {α : Type} (M : Nat → α) (r : Nat) (x : α) : sR M r x r = x := if_pos rfl
theorem sR_ne {α : Type} (M : Nat → α) {r q : Nat} (x : α) (h : q ≠ r) : sR M r x q = M q := if_neg h
theorem sR_self {α : Type} (M : Nat → α) (r : Nat) : sR M r (M r) = M := by
  funext q
  by_cases h : q = r
  · subst h; exact sR_same _ _ _
  · exact sR_ne _ _ h
theorem sR_sR {α : Type} (M : Nat → α) (r : Nat) (x y : α) : sR (sR M r x) r y = sR M r y := by
  funext q
  by_cases h : q = r
  · subst h; rw [sR_same, sR_same]
  · rw [sR_ne _ _ h, sR_ne _ _ h, sR_ne _ _ h]
/-- a write of an int at a place of a region -/
def wM (M : Mi) (r k : Nat) (v : Int32) : Mi := sR M r (upd (M r) k v)
def wN (N : Ml) (r k : Nat) (v : Int64) : Ml := sR N r (vp_updL (N r) k v)
theorem wM_sR (M : Mi) (r : Nat) (σ : Nat → Int32) (k : Nat) (v : Int32) : wM (sR M r σ) r k v = sR M r (upd σ k v) := by
  unfold wM; rw [sR_same, sR_sR]
theorem sR_at (M : Mi) (r : Nat) (σ : Nat → Int32) (k : Nat) : sR M r σ r k = σ k := by rw [sR_same]
theorem sR_off (M : Mi) {r q : Nat} (σ : Nat → Int32) (k : Nat) (h : q ≠ r) : sR M r σ q k = M q k := by rw [sR_ne _ _ h]
/-- the constants of a world: slots of classes, array classes, addresses, what the cells hold, what else holds -/
abbrev Zt : Type := va_G × (Nat → ClassId) × (Nat → Nat → Nat) × (Nat → (Nat → Int32) → (Nat → Int64) → Nat → Option va_E) × (State → Prop)
abbrev zA (Z : Zt) : Nat → Nat → Nat := Z.2.2.1
abbrev zL (Z : Zt) : Nat → (Nat → Int32) → (Nat → Int64) → Nat → Option va_E := Z.2.2.2.1
abbrev zS (Z : Zt) : State → Prop := Z.2.2.2.2
def InA (Z : Zt) (q : Nat) : Prop := ∃ (g p : Nat) (σ : Nat → Int32) (ν : Nat → Int64) (e : va_E), zL Z g σ ν p = some e ∧ q = zA Z g p
def Rep (Z : Zt) (M : Mi) (N : Ml) (H : Heap) : Prop := ∀ (g p : Nat) (e : va_E), zL Z g (M g) (N g) p = some e → va_at Z.1 vwCl (zA Z g p, e) H
def Apart (Z : Zt) : Prop := ∀ (g p g' p' : Nat) (σ σ' : Nat → Int32) (ν ν' : Nat → Int64) (e e' : va_E), zL Z g σ ν p = some e → zL Z g' σ' ν' p' = some e' → zA Z g p = zA Z g' p' → g = g' ∧ p = p'
def Fr (Z : Zt) (H0 H : Heap) : Prop := H.size = H0.size ∧ ∀ q : Nat, ¬ InA Z q → H[q]? = H0[q]?
theorem Fr.rf {Z : Zt} {H : Heap} : Fr Z H H := ⟨rfl, fun _ _ => rfl⟩
theorem Fr.trans {Z : Zt} {H0 H1 H2 : Heap} (h : Fr Z H0 H1) (k : Fr Z H1 H2) : Fr Z H0 H2 := ⟨k.1.trans h.1, fun q hq => (k.2 q hq).trans (h.2 q hq)⟩
theorem Fr.set {Z : Zt} {H0 H H1 : Heap} {a : Nat} (h : Fr Z H0 H) (ha : InA Z a) (hz : H1.size = H.size) (oq : ∀ q : Nat, q ≠ a → H1[q]? = H[q]?) : Fr Z H0 H1 :=
  ⟨hz.trans h.1, fun q hq => (oq q (fun e => hq (e ▸ ha))).trans (h.2 q hq)⟩
theorem Rep.put {Z : Zt} {M : Mi} {N : Ml} {H H1 : Heap} {g p : Nat} {σ : Nat → Int32} {ν : Nat → Int64} {e0 e1 : va_E} (h : Rep Z M N H) (hA : Apart Z) (h0 : zL Z g (M g) (N g) p = some e0) (h1 : zL Z g σ ν p = some e1) (he : va_at Z.1 vwCl (zA Z g p, e1) H1) (oq : ∀ q : Nat, q ≠ zA Z g p → H1[q]? = H[q]?)
    (ho : ∀ (p' : Nat) (e : va_E), p' ≠ p → zL Z g σ ν p' = some e → zL Z g (M g) (N g) p' = some e) : Rep Z (sR M g σ) (sR N g ν) H1 := by
  intro g' p' e he'
  by_cases hg : g' = g
  · subst hg
    rw [sR_same, sR_same] at he'
    by_cases hp : p' = p
    · subst hp
      rw [h1] at he'
      cases he'
      exact he
    · exact (h g' p' e (ho p' e hp he')).kept (oq _ (fun q => hp (hA _ _ _ _ _ _ _ _ _ _ he' h1 q).2))
  · rw [sR_ne _ _ hg, sR_ne _ _ hg] at he'
    exact (h g' p' e he').kept (oq _ (fun q => hg (hA _ _ _ _ _ _ _ _ _ _ he' h0 q).1))
/-! tables -/
def KN (D : va_G) (cy : Nat → ClassId) (U : State) : Prop :=
  va_K D vwCl (tysC cy) U ∧ (∀ q ∈ nestF, va_Nw (.fieldLinkNest q.1 q.2.1 q.2.2.1 q.2.2.2.1 q.2.2.2.2.1 q.2.2.2.2.2) U) ∧ ∀ q ∈ nestM, va_Nw (.methodLinkNest q.1 q.2.1 q.2.2.1 q.2.2.2) U
theorem KN.warm {D : va_G} {cy : Nat → ClassId} {s U : State} (hW : s.WarmedH U.vm) (h : KN D cy s) : KN D cy U :=
  ⟨va_K.moved hW.alike h.1, fun q hq => va_Nw.warmF hW (h.2.1 q hq), fun q hq => va_Nw.warmM hW (h.2.2 q hq)⟩
theorem KN.same {D : va_G} {cy : Nat → ClassId} {u U : State} (hv : u.vm = U.vm) (h : KN D cy u) : KN D cy U :=
  ⟨va_K.moved (by rw [hv]; exact Vm.Alike.refl _) h.1, fun q hq => va_Nw.same rfl hv (h.2.1 q hq), fun q hq => va_Nw.same rfl hv (h.2.2 q hq)⟩
theorem KN.f {D : va_G} {cy : Nat → ClassId} {s : State} (h : KN D cy s) (i : Nat) {a : String} {k : Nat} {b n d o : String} (hi : nestF[i]? = some (a, k, b, n, d, o)) {args : Array Value} : (Cond.fieldLinkNest a k b n d o).before args s = true :=
  va_Nw.use rfl (h.2.1 (a, k, b, n, d, o) (List.mem_of_getElem? hi))
theorem KN.m {D : va_G} {cy : Nat → ClassId} {s : State} (h : KN D cy s) (i : Nat) {a : String} {k : Nat} {y : MethodName} {o : String} (hi : nestM[i]? = some (a, k, y, o)) : va_Nw (.methodLinkNest a k y o) s :=
  h.2.2 (a, k, y, o) (List.mem_of_getElem? hi)
/-! what the cells of the two worlds hold -/
def layI (A : Nat → Nat → Nat) (cy : Nat → ClassId) (g : Nat) (σ : Nat → Int32) (p : Nat) : Option va_E := match p with
  | 0 => some (.inr (0, [.int (σ 2), .int (σ 6), .int (σ 0), .int (σ 1), .ref (A g 1), .ref (A g 2), .ref (A g 3), .ref (A g 4), .ref (A g 5)]))
  | 1 => some (.inl (cy 0, 3, .inl (fun i => σ (if i < 3 then 3 + i else 100 + i))))
  | 2 => some (.inl (cy 0, 8, .inl (fun i => σ (7 + 4 * i))))
  | 3 => some (.inl (cy 0, 8, .inl (fun i => σ (8 + 4 * i))))
  | 4 => some (.inl (cy 0, 8, .inl (fun i => σ (9 + 4 * i))))
  | 5 => some (.inl (cy 2, 8, .inl (fun i => σ (10 + 4 * i))))
  | _ => none
def layS (A : Nat → Nat → Nat) (cy : Nat → ClassId) (g : Nat) (σ : Nat → Int32) (ν : Nat → Int64) (p : Nat) : Option va_E := match p with
  | 0 => some (.inr (2, [.ref (A g 1), .int (σ 0), .int (σ 1)]))
  | 1 => some (.inl (cy 1, 40, .inr (.inl ν)))
  | _ => none
def layO (A : Nat → Nat → Nat) (cy : Nat → ClassId) (g : Nat) (σ : Nat → Int32) (p : Nat) : Option va_E := match g, p with
  | 4, 0 => some (.inr (1, [.ref (A 3 0), .int (σ 0), .int (σ 1), .int (σ 2)]))
  | 5, 0 => some (.inr (3, [.ref (A 5 1), .int (σ 0), .int (σ 1), .int (σ 2), .int (σ 3), .int (σ 4), .int (σ 5)]))
  | 5, 1 => some (.inl (cy 0, 120, .inl (fun i => σ (10 + i))))
  | 6, 0 => some (.inl (cy 3, 4, .inr (.inr (.inr (.inr (fun i => some (A (20 + i) 0)))))))
  | 7, 0 => some (.inl (cy 0, 7, .inl σ))
  | 8, 0 => some (.inr (4, [.ref (A 0 0), .ref (A 1 0), .ref (A 2 0), .ref (A 4 0), .ref (A 5 0), .ref (A 6 0), .ref (A 7 0), .int (σ 0)]))
  | _, _ => none
def layX (A : Nat → Nat → Nat) (cy : Nat → ClassId) (g : Nat) (σ : Nat → Int32) (ν : Nat → Int64) (p : Nat) : Option va_E :=
  if g < 4 then layI A cy g σ p else if 20 ≤ g ∧ g < 24 then layS A cy g σ ν p else layO A cy g σ p
def layM (B : Nat → Nat → Nat) (cy : Nat → ClassId) (g : Nat) (σ : Nat → Int32) (ν : Nat → Int64) (p : Nat) : Option va_E := match g, p with
  | 0, 0 => some (.inl (cy 0, 39, .inl σ))
  | 1, 0 => some (.inl (cy 0, 39, .inl σ))
  | 2, 0 => some (.inl (cy 0, 39, .inl σ))
  | 3, 0 => some (.inl (cy 0, 39, .inl σ))
  | 4, 0 => some (.inl (cy 0, 7, .inl σ))
  | 5, 0 => some (.inl (cy 0, 120, .inl σ))
  | 6, 0 => some (.inr (5, [.ref (B 0 0), .ref (B 1 0), .ref (B 2 0), .ref (B 3 0), .ref (B 4 0), .int (σ 0), .int (σ 1), .ref (B 5 0), .int (σ 2), .int (σ 3), .int (σ 4), .int (σ 5), .int (σ 6), .ref (B 7 0), .ref (B 8 0), .ref (B 9 0), .ref (B 10 0)]))
  | 7, 0 => some (.inl (cy 0, 4, .inl σ))
  | 8, 0 => some (.inl (cy 0, 4, .inl σ))
  | 9, 0 => some (.inl (cy 1, 160, .inr (.inl ν)))
  | 10, 0 => some (.inl (cy 1, 40, .inr (.inl ν)))
  | _, _ => none
/-- the class's row of kinds, and the words of its text -/
def kab (i : Nat) : Int32 := match i with
  | 0 => -1
  | 4 => 1
  | 5 => 2
  | _ => 0
def sTxt : List (Nat × String) := [(73, "young"), (75, "law"), (77, "old"), (79, "pamphlet"), (81, "canon"), (83, "tortoise"), (91, "at"), (43, "fence"), (53, "free"), (55, "rain"), (108, "to"), (60, "spring"), (65, "shade"), (67, "beach")]
def sLen : List Nat := [5, 3, 3, 8, 5, 8, 2, 5, 4, 4, 2, 6, 5, 5]
def sByt : List (List Int32) := [[121, 111, 117, 110, 103], [108, 97, 119], [111, 108, 100], [112, 97, 109, 112, 104, 108, 101, 116], [99, 97, 110, 111, 110], [116, 111, 114, 116, 111, 105, 115, 101], [97, 116], [102, 101, 110, 99, 101], [102, 114, 101, 101], [114, 97, 105, 110], [116, 111], [115, 112, 114, 105, 110, 103], [115, 104, 97, 100, 101], [98, 101, 97, 99, 104]]
def StaX (A : Nat → Nat → Nat) (I : Nat → Prop) (U : State) : Prop :=
  va_Z "TortoiseShelves" "KIND_ABOVE" "[I" (.ref (A 42 0)) I U U.heap ∧ va_T .int (A 42 0) 6 (fun i => .int (kab i)) I U U.heap ∧ vk_S 14 sLen sByt (A 40) (A 41) I U U.heap ∧ (∀ (k i : Nat) (tx : String), sTxt[k]? = some (i, tx) → vk_R "TortoiseShelves$Tape" i tx (A 40 k) U) ∧ va_Z "java/lang/String" "COMPACT_STRINGS" "Z" (.int 1) I U U.heap ∧ va_Zq "jdk/internal/util/Preconditions" "SIOOBE_FORMATTER" "Ljava/util/function/BiFunction;" I U U.heap
def Knd (k : Nat) (Z : Zt) : Prop := if k = 1 then zL Z = layX (zA Z) Z.2.1 ∧ ∀ U, zS Z U → StaX (zA Z) (InA Z) U else zL Z = layM (zA Z) Z.2.1
def StaOk (Z : Zt) : Prop := (∀ s U : State, s.WarmedH U.vm → Fr Z s.heap U.heap → zS Z s → zS Z U) ∧ ∀ u U : State, u.vm = U.vm → u.heap = U.heap → zS Z u → zS Z U
def Zok (k : Nat) (Z : Zt) : Prop := Apart Z ∧ StaOk Z ∧ Knd k Z
theorem Zok.X {Z : Zt} (h : Zok 1 Z) : zL Z = layX (zA Z) Z.2.1 := h.2.2.1
theorem Zok.S {Z : Zt} (h : Zok 1 Z) : ∀ U, zS Z U → StaX (zA Z) (InA Z) U := h.2.2.2
theorem Zok.M {Z : Zt} (h : Zok 2 Z) : zL Z = layM (zA Z) Z.2.1 := h.2.2
/-! the machine's things in one -/
abbrev Ec : Type := Program × Launch × Env × Room × State × MethodId × Array Value × List Frame × Method × Code
abbrev eL (E : Ec) : Launch := E.2.1
abbrev eS (E : Ec) : State := E.2.2.2.2.1
abbrev eM (E : Ec) : MethodId := E.2.2.2.2.2.1
abbrev Wc (E : Ec) (H : Heap) (locs : List Loc) (Q : State → Prop) (g : JFrame) : Prop := W E.1 E.2.1 E.2.2.1 E.2.2.2.1 E.2.2.2.2.1 E.2.2.2.2.2.1 E.2.2.2.2.2.2.1 E.2.2.2.2.2.2.2.1 E.2.2.2.2.2.2.2.2.1 E.2.2.2.2.2.2.2.2.2 H locs 0 0 Q g
abbrev rmH (h : Nat) : Room := { frames := h, cells := 0, slots := 0, locals := 30 * h }
def qo (Z : Zt) (r : Option Value × Mi × Ml) : Array Value → State → Outcome → State → Prop := fun _ st o t => o = .returned r.1 ∧ Rep Z r.2.1 r.2.2 t.heap ∧ Fr Z st.heap t.heap
def pcZ (k : Nat) (Z : Zt) (av : List Value) (M : Mi) (N : Ml) : Array Value → State → Prop := fun v U => v = av.toArray ∧ Rep Z M N U.heap ∧ KN Z.1 Z.2.1 U ∧ zS Z U ∧ Zok k Z
def Ct (k : Nat) (Z : Zt) (l : Launch) (y : MethodName) (cc : ByteArray) (maxL : Nat) (ret : Option FieldType) (h : Nat) (av : List Value) (M : Mi) (N : Ml) (r : Option Value × Mi × Ml) : Prop :=
  Met l y (Cond.code y cc maxL ret :: base) (rmH h) (pcZ k Z av M N) (qo Z r) 0 0 (InA Z)
def Ok (k : Nat) (Z : Zt) (E : Ec) (cc : ByteArray) (nL : Nat) (own : String) (ret : Option FieldType) (h : Nat) : Prop :=
  E.1.tables.exec = Jvm.exec ∧ E.2.2.2.2.2.2.2.2.2.code = cc ∧ E.2.2.2.2.2.2.2.2.2.maxLocals = nL ∧ (eS E).vm.findClass own = some (eM E).cls ∧ (∀ w ∈ base, w.before E.2.2.2.2.2.2.1 (eS E) = true) ∧ E.2.2.2.2.2.2.2.2.1.sig.returnType = ret ∧ E.2.2.2.2.2.2.2.2.1.locks = false ∧ E.2.2.2.1 = rmH h ∧ KN Z.1 Z.2.1 (eS E) ∧ zS Z (eS E) ∧ Zok k Z
def GT (Z : Zt) (E : Ec) (nL : Nat) {β : Type} (fin : β → Option Value × Mi × Ml) (pc : Nat) (lv : List (Nat × Value)) (st : List Value) (M : Mi) (N : Ml) (t : Option β) : Prop :=
  ∀ b : β, t = some b → ∀ (H : Heap) (locs : List Loc) (ls : Array Slot), Rep Z M N H → Fr Z (eS E).heap H → (∀ q ∈ locs, InA Z q.base) → lv_has ls nL lv →
    Wc E H locs (MQ E.2.2.2.2.2.2.2.1 (qo Z (fin b)) E.2.2.2.2.2.2.1 (eS E) 0 0 (InA Z)) (F0 (eM E) pc ls st)
section OKS
variable {k : Nat} {Z : Zt} {E : Ec} {cc : ByteArray} {nL : Nat} {own : String} {ret : Option FieldType} {h : Nat}
theorem Ok.x (C : Ok k Z E cc nL own ret h) : E.1.tables.exec = Jvm.exec := C.1
theorem Ok.b (C : Ok k Z E cc nL own ret h) : E.2.2.2.2.2.2.2.2.2.code = cc := C.2.1
theorem Ok.ml (C : Ok k Z E cc nL own ret h) : E.2.2.2.2.2.2.2.2.2.maxLocals = nL := C.2.2.1
theorem Ok.ow (C : Ok k Z E cc nL own ret h) : (eS E).vm.findClass own = some (eM E).cls := C.2.2.2.1
theorem Ok.ts (C : Ok k Z E cc nL own ret h) : ∀ w ∈ base, w.before E.2.2.2.2.2.2.1 (eS E) = true := C.2.2.2.2.1
theorem Ok.rt (C : Ok k Z E cc nL own ret h) : E.2.2.2.2.2.2.2.2.1.sig.returnType = ret := C.2.2.2.2.2.1
theorem Ok.lk (C : Ok k Z E cc nL own ret h) : E.2.2.2.2.2.2.2.2.1.locks = false := C.2.2.2.2.2.2.1
theorem Ok.rm (C : Ok k Z E cc nL own ret h) : E.2.2.2.1 = rmH h := C.2.2.2.2.2.2.2.1
theorem Ok.kn (C : Ok k Z E cc nL own ret h) : KN Z.1 Z.2.1 (eS E) := C.2.2.2.2.2.2.2.2.1
theorem Ok.sta (C : Ok k Z E cc nL own ret h) : zS Z (eS E) := C.2.2.2.2.2.2.2.2.2.1
theorem Ok.z (C : Ok k Z E cc nL own ret h) : Zok k Z := C.2.2.2.2.2.2.2.2.2.2
end OKS
theorem metG {k : Nat} {Z : Zt} {l : Launch} {y : MethodName} {cc : ByteArray} {maxL : Nat} {ret : Option FieldType} {h : Nat} {av : List Value} {M : Mi} {N : Ml} {β : Type} {fin : β → Option Value × Mi × Ml} {t : Option β} (hy : plainName y.cls = true) (hlen : (lg_sl av).length ≤ maxL)
    (body : ∀ E : Ec, eL E = l → Ok k Z E cc maxL y.cls ret h → GT Z E maxL fin 0 (lv_args 0 av) [] M N t) {b : β} (ht : t = some b) : Ct k Z l y cc maxL ret h av M N (fin b) := by
  refine Met.ofW (cc := cc) (maxL := maxL) (ret := ret) hy rfl ?_
  intro p e s m args below meth c s₁ B hml hv
  obtain ⟨rfl, hR, hK, hS, hZ⟩ := hv
  rw [lg_entry_eq]
  have hts := atoms_spec (ws := Cond.code y cc maxL ret :: base) B.pre
  exact body (p, l, e, rmH h, s, m, av.toArray, below, meth, c) rfl ⟨B.exec, B.bytes, hml, findClass_of_methodNamed B.named, fun w hw => hts w (List.mem_cons_of_mem _ hw), B.returns, B.notSynchronized, rfl, hK, hS, hZ⟩ b ht s.heap [] _ hR Fr.rf (fun _ h => by cases h) (lv_entry av hlen)
section ROWS
variable {wk : Nat} {Z : Zt} {E : Ec} {cc : ByteArray} {nL : Nat} {own : String} {ret : Option FieldType} {h : Nat} {β : Type} {fin : β → Option Value × Mi × Ml} {pc : Nat} {lv lv' : List (Nat × Value)} {st rest : List Value} {M M' : Mi} {N N' : Ml} {t t1 t2 : Option β}
theorem r_bind {α : Type} {o : Option α} {kk : α → Option β} (k : ∀ a, o = some a → GT Z E nL fin pc lv st M N (kk a)) : GT Z E nL fin pc lv st M N (o.bind kk) := by
  intro b hb
  cases o with
  | none => cases hb
  | some a => exact k a rfl b hb
theorem r_guard {P : Prop} [Decidable P] (k : P → GT Z E nL fin pc lv st M N t) : GT Z E nL fin pc lv st M N (if P then t else none) := by
  intro b hb
  by_cases hp : P
  · rw [if_pos hp] at hb; exact k hp b hb
  · rw [if_neg hp] at hb; cases hb
theorem r_ite {P : Prop} [Decidable P] (k1 : P → GT Z E nL fin pc lv st M N t1) (k2 : ¬ P → GT Z E nL fin pc lv st M N t2) : GT Z E nL fin pc lv st M N (if P then t1 else t2) := by
  by_cases hp : P
  · rw [if_pos hp]; exact k1 hp
  · rw [if_neg hp]; exact k2 hp
theorem r_none : GT Z E nL fin pc lv st M N none := fun _ h => by cases h
theorem r_st {P : Prop} [Decidable P] {a b : β} (k : GT Z E nL fin pc lv st M N (if P then some a else some b)) : GT Z E nL fin pc lv st M N (some (if P then a else b)) := by
  by_cases hp : P
  · rw [if_pos hp] at k ⊢; exact k
  · rw [if_neg hp] at k ⊢; exact k
theorem r_lv (ks : List Nat) (hl : lv_pick lv ks = lv') (k : GT Z E nL fin pc lv' st M N t) : GT Z E nL fin pc lv st M N t :=
  fun b hb H locs ls h1 h2 h3 h4 => k b hb H locs ls h1 h2 h3 (lv_sub h4 ks hl)
theorem r_iret {b : β} {v : Int32} (C : Ok wk Z E cc nL own (some .int) h) (hd : decode cc pc = .ok (.ireturn, 1)) (hf : fin b = (some (.int v), M, N)) : GT Z E nL fin pc lv [.int v] M N (some b) := by
  intro b' hb' H locs ls h1 h2 h3 h4
  cases hb'
  exact W.iret C.x C.b C.rt (fun t ht _ => ⟨by rw [hf], by rw [hf, ht]; exact h1, by rw [ht]; exact h2⟩) h3 hd C.lk
theorem r_lret {b : β} {v : Int64} (C : Ok wk Z E cc nL own (some .long) h) (hd : decode cc pc = .ok (.lreturn, 1)) (hf : fin b = (some (.long v), M, N)) : GT Z E nL fin pc lv [.long v] M N (some b) := by
  intro b' hb' H locs ls h1 h2 h3 h4
  cases hb'
  exact W.lret C.x C.b C.rt (fun t ht _ => ⟨by rw [hf], by rw [hf, ht]; exact h1, by rw [ht]; exact h2⟩) h3 hd C.lk
theorem r_vret {b : β} (C : Ok wk Z E cc nL own none h) (hd : decode cc pc = .ok (.return_, 1)) (hf : fin b = (none, M, N)) : GT Z E nL fin pc lv [] M N (some b) := by
  intro b' hb' H locs ls h1 h2 h3 h4
  cases hb'
  exact W.vret C.x C.b C.rt (fun t ht _ => ⟨by rw [hf], by rw [hf, ht]; exact h1, by rw [ht]; exact h2⟩) h3 hd C.lk
theorem r_aret {b : β} {a : Nat} {cn : String} (C : Ok wk Z E cc nL own (some (.object cn)) h) (hd : decode cc pc = .ok (.areturn, 1)) (hf : fin b = (some (.ref a), M, N)) : GT Z E nL fin pc lv [.ref a] M N (some b) := by
  intro b' hb' H locs ls h1 h2 h3 h4
  cases hb'
  exact W.aret C.x C.b C.rt (Or.inl ⟨_, rfl⟩) (Or.inr ⟨_, rfl⟩) (fun t ht _ => ⟨by rw [hf], by rw [hf, ht]; exact h1, by rw [ht]; exact h2⟩) h3 hd C.lk
/-- what a boolean method answers of an int -/
def zn (v : Int32) : Int32 := v &&& 1
theorem zn_zn (v : Int32) : zn v &&& 1 = zn v := by unfold zn; rw [Int32.and_assoc]; rfl
end ROWS

section ROWS2
variable {wk : Nat} {Z : Zt} {E : Ec} {cc : ByteArray} {nL : Nat} {own : String} {ret : Option FieldType} {h : Nat} {β : Type} {fin : β → Option Value × Mi × Ml} {pc : Nat} {lv lv' : List (Nat × Value)} {st rest : List Value} {M M' : Mi} {N N' : Ml} {t t1 t2 : Option β}
theorem r_iconst {n : Int} {v : Int32} (C : Ok wk Z E cc nL own ret h) (hd : decode cc pc = .ok (.iconst n, 1)) (hv : Int32.ofInt n = v) (k : GT Z E nL fin (pc + 1) lv (.int v :: rest) M N t) : GT Z E nL fin pc lv (rest) M N t :=
  fun b hb H locs ls h1 h2 h3 h4 => lv_iconst C.x C.b hd hv (k b hb H locs ls h1 h2 h3 h4)
theorem r_bipush {n : Int} {v : Int32} (C : Ok wk Z E cc nL own ret h) (hd : decode cc pc = .ok (.bipush n, 2)) (hv : (Int8.ofInt n).toInt32 = v) (k : GT Z E nL fin (pc + 2) lv (.int v :: rest) M N t) : GT Z E nL fin pc lv (rest) M N t :=
  fun b hb H locs ls h1 h2 h3 h4 => lv_bipush C.x C.b hd hv (k b hb H locs ls h1 h2 h3 h4)
theorem r_sipush {n : Int} {v : Int32} (C : Ok wk Z E cc nL own ret h) (hd : decode cc pc = .ok (.sipush n, 3)) (hv : (Int16.ofInt n).toInt32 = v) (k : GT Z E nL fin (pc + 3) lv (.int v :: rest) M N t) : GT Z E nL fin pc lv (rest) M N t :=
  fun b hb H locs ls h1 h2 h3 h4 => lv_sipush C.x C.b hd hv (k b hb H locs ls h1 h2 h3 h4)
theorem r_lconst {n : Fin 2} {v : Int64} (C : Ok wk Z E cc nL own ret h) (hd : decode cc pc = .ok (.lconst n, 1)) (hv : Int64.ofNat (n : Nat) = v) (k : GT Z E nL fin (pc + 1) lv (.long v :: rest) M N t) : GT Z E nL fin pc lv (rest) M N t :=
  fun b hb H locs ls h1 h2 h3 h4 => lv_lconst C.x C.b hd hv (k b hb H locs ls h1 h2 h3 h4)
theorem r_iload_n {q : Fin 4} {x : Int32} (C : Ok wk Z E cc nL own ret h) (hd : decode cc pc = .ok (.iload_n q, 1)) (i j : Nat) (hi : (q : Nat) = i) (hl : lv[j]? = some (i, .int x)) (k : GT Z E nL fin (pc + 1) lv (.int x :: rest) M N t) : GT Z E nL fin pc lv (rest) M N t :=
  fun b hb H locs ls h1 h2 h3 h4 => lv_iload_n C.x C.b hd hi (lv_at h4 j hl) (k b hb H locs ls h1 h2 h3 h4)
theorem r_iload {i : Nat} {x : Int32} (C : Ok wk Z E cc nL own ret h) (hd : decode cc pc = .ok (.iload i, 2)) (j : Nat) (hl : lv[j]? = some (i, .int x)) (k : GT Z E nL fin (pc + 2) lv (.int x :: rest) M N t) : GT Z E nL fin pc lv (rest) M N t :=
  fun b hb H locs ls h1 h2 h3 h4 => lv_iload C.x C.b hd (lv_at h4 j hl) (k b hb H locs ls h1 h2 h3 h4)
theorem r_lload_n {q : Fin 4} {x : Int64} (C : Ok wk Z E cc nL own ret h) (hd : decode cc pc = .ok (.lload_n q, 1)) (i j : Nat) (hi : (q : Nat) = i) (hl : lv[j]? = some (i, .long x)) (k : GT Z E nL fin (pc + 1) lv (.long x :: rest) M N t) : GT Z E nL fin pc lv (rest) M N t :=
  fun b hb H locs ls h1 h2 h3 h4 => lv_lload_n C.x C.b hd hi (lv_at h4 j hl) (k b hb H locs ls h1 h2 h3 h4)
theorem r_lload {i : Nat} {x : Int64} (C : Ok wk Z E cc nL own ret h) (hd : decode cc pc = .ok (.lload i, 2)) (j : Nat) (hl : lv[j]? = some (i, .long x)) (k : GT Z E nL fin (pc + 2) lv (.long x :: rest) M N t) : GT Z E nL fin pc lv (rest) M N t :=
  fun b hb H locs ls h1 h2 h3 h4 => lv_lload C.x C.b hd (lv_at h4 j hl) (k b hb H locs ls h1 h2 h3 h4)
theorem r_aload_n {q : Fin 4} {x : Nat} (C : Ok wk Z E cc nL own ret h) (hd : decode cc pc = .ok (.aload_n q, 1)) (i j : Nat) (hi : (q : Nat) = i) (hl : lv[j]? = some (i, .ref x)) (k : GT Z E nL fin (pc + 1) lv (.ref x :: rest) M N t) : GT Z E nL fin pc lv (rest) M N t :=
  fun b hb H locs ls h1 h2 h3 h4 => lv_aload_n C.x C.b hd hi (lv_at h4 j hl) (k b hb H locs ls h1 h2 h3 h4)
theorem r_aload {i : Nat} {x : Nat} (C : Ok wk Z E cc nL own ret h) (hd : decode cc pc = .ok (.aload i, 2)) (j : Nat) (hl : lv[j]? = some (i, .ref x)) (k : GT Z E nL fin (pc + 2) lv (.ref x :: rest) M N t) : GT Z E nL fin pc lv (rest) M N t :=
  fun b hb H locs ls h1 h2 h3 h4 => lv_aload C.x C.b hd (lv_at h4 j hl) (k b hb H locs ls h1 h2 h3 h4)
theorem r_istore_n {q : Fin 4} {x : Int32} (C : Ok wk Z E cc nL own ret h) (hd : decode cc pc = .ok (.istore_n q, 1)) (i : Nat) (hi : (q : Nat) = i) (hn : i < nL) (hl : (i, Value.int x) :: lv.filter (fun q => !(q.1 == i) && !(q.1 + 1 == i && q.2.category == 2)) = lv') (k : GT Z E nL fin (pc + 1) lv' (rest) M N t) : GT Z E nL fin pc lv (.int x :: rest) M N t :=
  fun b hb H locs ls h1 h2 h3 h4 => lv_istore_n C.x C.b hd hi h4 hn hl (fun ls2 h5 => k b hb H locs ls2 h1 h2 h3 h5)
theorem r_istore {i : Nat} {x : Int32} (C : Ok wk Z E cc nL own ret h) (hd : decode cc pc = .ok (.istore i, 2)) (hn : i < nL) (hl : (i, Value.int x) :: lv.filter (fun q => !(q.1 == i) && !(q.1 + 1 == i && q.2.category == 2)) = lv') (k : GT Z E nL fin (pc + 2) lv' (rest) M N t) : GT Z E nL fin pc lv (.int x :: rest) M N t :=
  fun b hb H locs ls h1 h2 h3 h4 => lv_istore C.x C.b hd h4 hn hl (fun ls2 h5 => k b hb H locs ls2 h1 h2 h3 h5)
theorem r_lstore_n {q : Fin 4} {x : Int64} (C : Ok wk Z E cc nL own ret h) (hd : decode cc pc = .ok (.lstore_n q, 1)) (i : Nat) (hi : (q : Nat) = i) (hn : i + 1 < nL) (hl : (i, Value.long x) :: lv.filter (fun q => !(q.1 == i) && (!(q.1 == i + 1) && !(q.1 + 1 == i && q.2.category == 2))) = lv') (k : GT Z E nL fin (pc + 1) lv' (rest) M N t) : GT Z E nL fin pc lv (.long x :: rest) M N t :=
  fun b hb H locs ls h1 h2 h3 h4 => lv_lstore_n C.x C.b hd hi h4 hn hl (fun ls2 h5 => k b hb H locs ls2 h1 h2 h3 h5)
theorem r_lstore {i : Nat} {x : Int64} (C : Ok wk Z E cc nL own ret h) (hd : decode cc pc = .ok (.lstore i, 2)) (hn : i + 1 < nL) (hl : (i, Value.long x) :: lv.filter (fun q => !(q.1 == i) && (!(q.1 == i + 1) && !(q.1 + 1 == i && q.2.category == 2))) = lv') (k : GT Z E nL fin (pc + 2) lv' (rest) M N t) : GT Z E nL fin pc lv (.long x :: rest) M N t :=
  fun b hb H locs ls h1 h2 h3 h4 => lv_lstore C.x C.b hd h4 hn hl (fun ls2 h5 => k b hb H locs ls2 h1 h2 h3 h5)
theorem r_astore_n {q : Fin 4} {x : Nat} (C : Ok wk Z E cc nL own ret h) (hd : decode cc pc = .ok (.astore_n q, 1)) (i : Nat) (hi : (q : Nat) = i) (hn : i < nL) (hl : (i, Value.ref x) :: lv.filter (fun q => !(q.1 == i) && !(q.1 + 1 == i && q.2.category == 2)) = lv') (k : GT Z E nL fin (pc + 1) lv' (rest) M N t) : GT Z E nL fin pc lv (.ref x :: rest) M N t :=
  fun b hb H locs ls h1 h2 h3 h4 => lv_astore_n C.x C.b hd hi h4 hn hl (fun ls2 h5 => k b hb H locs ls2 h1 h2 h3 h5)
theorem r_astore {i : Nat} {x : Nat} (C : Ok wk Z E cc nL own ret h) (hd : decode cc pc = .ok (.astore i, 2)) (hn : i < nL) (hl : (i, Value.ref x) :: lv.filter (fun q => !(q.1 == i) && !(q.1 + 1 == i && q.2.category == 2)) = lv') (k : GT Z E nL fin (pc + 2) lv' (rest) M N t) : GT Z E nL fin pc lv (.ref x :: rest) M N t :=
  fun b hb H locs ls h1 h2 h3 h4 => lv_astore C.x C.b hd h4 hn hl (fun ls2 h5 => k b hb H locs ls2 h1 h2 h3 h5)
theorem r_iinc {i : Nat} {n : Int} {x v : Int32} (C : Ok wk Z E cc nL own ret h) (hd : decode cc pc = .ok (.iinc i n, 3)) (j : Nat) (hj : lv[j]? = some (i, .int x)) (hv : x + Int32.ofInt n = v) (hn : i < nL) (hl : (i, Value.int v) :: lv.filter (fun q => !(q.1 == i) && !(q.1 + 1 == i && q.2.category == 2)) = lv') (k : GT Z E nL fin (pc + 3) lv' (rest) M N t) : GT Z E nL fin pc lv (rest) M N t :=
  fun b hb H locs ls h1 h2 h3 h4 => lv_iinc C.x C.b hd h4 hj hv hn hl (fun ls2 h5 => k b hb H locs ls2 h1 h2 h3 h5)
theorem r_iadd {x y : Int32} (C : Ok wk Z E cc nL own ret h) (hd : decode cc pc = .ok (.iadd, 1))  (k : GT Z E nL fin (pc + 1) lv (.int (x + y) :: rest) M N t) : GT Z E nL fin pc lv (.int y :: .int x :: rest) M N t :=
  fun b hb H locs ls h1 h2 h3 h4 => lv_iadd C.x C.b hd (k b hb H locs ls h1 h2 h3 h4)
theorem r_isub {x y : Int32} (C : Ok wk Z E cc nL own ret h) (hd : decode cc pc = .ok (.isub, 1))  (k : GT Z E nL fin (pc + 1) lv (.int (x - y) :: rest) M N t) : GT Z E nL fin pc lv (.int y :: .int x :: rest) M N t :=
  fun b hb H locs ls h1 h2 h3 h4 => lv_isub C.x C.b hd (k b hb H locs ls h1 h2 h3 h4)
theorem r_imul {x y : Int32} (C : Ok wk Z E cc nL own ret h) (hd : decode cc pc = .ok (.imul, 1))  (k : GT Z E nL fin (pc + 1) lv (.int (x * y) :: rest) M N t) : GT Z E nL fin pc lv (.int y :: .int x :: rest) M N t :=
  fun b hb H locs ls h1 h2 h3 h4 => lv_imul C.x C.b hd (k b hb H locs ls h1 h2 h3 h4)
theorem r_iand {x y : Int32} (C : Ok wk Z E cc nL own ret h) (hd : decode cc pc = .ok (.iand, 1))  (k : GT Z E nL fin (pc + 1) lv (.int (x &&& y) :: rest) M N t) : GT Z E nL fin pc lv (.int y :: .int x :: rest) M N t :=
  fun b hb H locs ls h1 h2 h3 h4 => lv_iand C.x C.b hd (k b hb H locs ls h1 h2 h3 h4)
theorem r_ior {x y : Int32} (C : Ok wk Z E cc nL own ret h) (hd : decode cc pc = .ok (.ior, 1))  (k : GT Z E nL fin (pc + 1) lv (.int (x ||| y) :: rest) M N t) : GT Z E nL fin pc lv (.int y :: .int x :: rest) M N t :=
  fun b hb H locs ls h1 h2 h3 h4 => lv_ior C.x C.b hd (k b hb H locs ls h1 h2 h3 h4)
theorem r_ixor {x y : Int32} (C : Ok wk Z E cc nL own ret h) (hd : decode cc pc = .ok (.ixor, 1))  (k : GT Z E nL fin (pc + 1) lv (.int (x ^^^ y) :: rest) M N t) : GT Z E nL fin pc lv (.int y :: .int x :: rest) M N t :=
  fun b hb H locs ls h1 h2 h3 h4 => lv_ixor C.x C.b hd (k b hb H locs ls h1 h2 h3 h4)
theorem r_ishl {x y : Int32} (C : Ok wk Z E cc nL own ret h) (hd : decode cc pc = .ok (.ishl, 1))  (k : GT Z E nL fin (pc + 1) lv (.int (x <<< (y &&& 31)) :: rest) M N t) : GT Z E nL fin pc lv (.int y :: .int x :: rest) M N t :=
  fun b hb H locs ls h1 h2 h3 h4 => lv_ishl C.x C.b hd (k b hb H locs ls h1 h2 h3 h4)
theorem r_ishr {x y : Int32} (C : Ok wk Z E cc nL own ret h) (hd : decode cc pc = .ok (.ishr, 1))  (k : GT Z E nL fin (pc + 1) lv (.int (x >>> (y &&& 31)) :: rest) M N t) : GT Z E nL fin pc lv (.int y :: .int x :: rest) M N t :=
  fun b hb H locs ls h1 h2 h3 h4 => lv_ishr C.x C.b hd (k b hb H locs ls h1 h2 h3 h4)
theorem r_idiv {x y : Int32} (C : Ok wk Z E cc nL own ret h) (hd : decode cc pc = .ok (.idiv, 1)) (hne : ¬ y = 0) (k : GT Z E nL fin (pc + 1) lv (.int (x / y) :: rest) M N t) : GT Z E nL fin pc lv (.int y :: .int x :: rest) M N t :=
  fun b hb H locs ls h1 h2 h3 h4 => lv_idiv C.x C.b hd hne (k b hb H locs ls h1 h2 h3 h4)
theorem r_irem {x y : Int32} (C : Ok wk Z E cc nL own ret h) (hd : decode cc pc = .ok (.irem, 1)) (hne : ¬ y = 0) (k : GT Z E nL fin (pc + 1) lv (.int (x - x / y * y) :: rest) M N t) : GT Z E nL fin pc lv (.int y :: .int x :: rest) M N t :=
  fun b hb H locs ls h1 h2 h3 h4 => lv_irem C.x C.b hd hne (k b hb H locs ls h1 h2 h3 h4)
theorem r_iushr {x y v : Int32} (C : Ok wk Z E cc nL own ret h) (hd : decode cc pc = .ok (.iushr, 1)) (hv : (x.toUInt32 >>> (y.toUInt32 &&& Int32.toUInt32 31)).toInt32 = v) (k : GT Z E nL fin (pc + 1) lv (.int v :: rest) M N t) : GT Z E nL fin pc lv (.int y :: .int x :: rest) M N t :=
  fun b hb H locs ls h1 h2 h3 h4 => lv_iushr C.x C.b hd hv (k b hb H locs ls h1 h2 h3 h4)
theorem r_ineg {x : Int32} (C : Ok wk Z E cc nL own ret h) (hd : decode cc pc = .ok (.ineg, 1))  (k : GT Z E nL fin (pc + 1) lv (.int (-x) :: rest) M N t) : GT Z E nL fin pc lv (.int x :: rest) M N t :=
  fun b hb H locs ls h1 h2 h3 h4 => lv_ineg C.x C.b hd (k b hb H locs ls h1 h2 h3 h4)
theorem r_ladd {x y : Int64} (C : Ok wk Z E cc nL own ret h) (hd : decode cc pc = .ok (.ladd, 1))  (k : GT Z E nL fin (pc + 1) lv (.long (x + y) :: rest) M N t) : GT Z E nL fin pc lv (.long y :: .long x :: rest) M N t :=
  fun b hb H locs ls h1 h2 h3 h4 => lv_ladd C.x C.b hd (k b hb H locs ls h1 h2 h3 h4)
theorem r_lmul {x y : Int64} (C : Ok wk Z E cc nL own ret h) (hd : decode cc pc = .ok (.lmul, 1))  (k : GT Z E nL fin (pc + 1) lv (.long (x * y) :: rest) M N t) : GT Z E nL fin pc lv (.long y :: .long x :: rest) M N t :=
  fun b hb H locs ls h1 h2 h3 h4 => lv_lmul C.x C.b hd (k b hb H locs ls h1 h2 h3 h4)
theorem r_i2l {x : Int32} (C : Ok wk Z E cc nL own ret h) (hd : decode cc pc = .ok (.i2l, 1))  (k : GT Z E nL fin (pc + 1) lv (.long x.toInt64 :: rest) M N t) : GT Z E nL fin pc lv (.int x :: rest) M N t :=
  fun b hb H locs ls h1 h2 h3 h4 => lv_i2l C.x C.b hd rfl (k b hb H locs ls h1 h2 h3 h4)
theorem r_l2i {x : Int64} (C : Ok wk Z E cc nL own ret h) (hd : decode cc pc = .ok (.l2i, 1))  (k : GT Z E nL fin (pc + 1) lv (.int x.toInt32 :: rest) M N t) : GT Z E nL fin pc lv (.long x :: rest) M N t :=
  fun b hb H locs ls h1 h2 h3 h4 => lv_l2i C.x C.b hd rfl (k b hb H locs ls h1 h2 h3 h4)
theorem r_i2b {x : Int32} (C : Ok wk Z E cc nL own ret h) (hd : decode cc pc = .ok (.i2b, 1))  (k : GT Z E nL fin (pc + 1) lv (.int x.toInt8.toInt32 :: rest) M N t) : GT Z E nL fin pc lv (.int x :: rest) M N t :=
  fun b hb H locs ls h1 h2 h3 h4 => lv_i2b C.x C.b hd rfl (k b hb H locs ls h1 h2 h3 h4)
theorem r_i2s {x : Int32} (C : Ok wk Z E cc nL own ret h) (hd : decode cc pc = .ok (.i2s, 1))  (k : GT Z E nL fin (pc + 1) lv (.int x.toInt16.toInt32 :: rest) M N t) : GT Z E nL fin pc lv (.int x :: rest) M N t :=
  fun b hb H locs ls h1 h2 h3 h4 => lv_i2s C.x C.b hd rfl (k b hb H locs ls h1 h2 h3 h4)
theorem r_dup {v : Value} (C : Ok wk Z E cc nL own ret h) (hd : decode cc pc = .ok (.dup, 1)) (hc : v.category = 1) (k : GT Z E nL fin (pc + 1) lv (v :: v :: rest) M N t) : GT Z E nL fin pc lv (v :: rest) M N t :=
  fun b hb H locs ls h1 h2 h3 h4 => lv_dup C.x C.b hd hc (k b hb H locs ls h1 h2 h3 h4)
theorem r_pop {v : Value} (C : Ok wk Z E cc nL own ret h) (hd : decode cc pc = .ok (.pop, 1)) (hc : v.category = 1) (k : GT Z E nL fin (pc + 1) lv (rest) M N t) : GT Z E nL fin pc lv (v :: rest) M N t :=
  fun b hb H locs ls h1 h2 h3 h4 => lv_pop C.x C.b hd hc (k b hb H locs ls h1 h2 h3 h4)
theorem r_dup2 {v w : Value} (C : Ok wk Z E cc nL own ret h) (hd : decode cc pc = .ok (.dup2, 1)) (hc : v.category = 1) (hc2 : w.category = 1) (k : GT Z E nL fin (pc + 1) lv (v :: w :: v :: w :: rest) M N t) : GT Z E nL fin pc lv (v :: w :: rest) M N t :=
  fun b hb H locs ls h1 h2 h3 h4 => lv_dup2_11 C.x C.b hd hc hc2 (k b hb H locs ls h1 h2 h3 h4)
theorem r_ldc {i : Nat} {v : Int32} (C : Ok wk Z E cc nL own ret h) (hd : decode cc pc = .ok (.ldc i, 2)) (hw : Cond.constant own i v ∈ base) (k : GT Z E nL fin (pc + 2) lv (.int v :: rest) M N t) : GT Z E nL fin pc lv (rest) M N t :=
  fun b hb H locs ls h1 h2 h3 h4 => lv_ldc C.x C.b C.ow (C.ts _ hw) hd (k b hb H locs ls h1 h2 h3 h4)
theorem r_ldcw {i : Nat} {v : Int32} (C : Ok wk Z E cc nL own ret h) (hd : decode cc pc = .ok (.ldc_w i, 3)) (hw : Cond.constant own i v ∈ base) (k : GT Z E nL fin (pc + 3) lv (.int v :: rest) M N t) : GT Z E nL fin pc lv (rest) M N t :=
  fun b hb H locs ls h1 h2 h3 h4 => lv_ldcw C.x C.b C.ow (C.ts _ hw) hd (k b hb H locs ls h1 h2 h3 h4)
theorem r_ldc2 {i : Nat} {v : Int64} (C : Ok wk Z E cc nL own ret h) (hd : decode cc pc = .ok (.ldc2_w i, 3)) (hw : Cond.constantLong own i v ∈ base) (k : GT Z E nL fin (pc + 3) lv (.long v :: rest) M N t) : GT Z E nL fin pc lv (rest) M N t :=
  fun b hb H locs ls h1 h2 h3 h4 => lv_ldc2 C.x C.b C.ow (C.ts _ hw) hd (k b hb H locs ls h1 h2 h3 h4)
theorem r_goto {off : Int} {tgt : Nat} (C : Ok wk Z E cc nL own ret h) (hd : decode cc pc = .ok (.goto off, 3)) (ht : (pc : Int) + off = (tgt : Int)) (k : GT Z E nL fin tgt lv (st) M N t) : GT Z E nL fin pc lv (st) M N t :=
  fun b hb H locs ls h1 h2 h3 h4 => lv_goto C.x C.b hd ht (k b hb H locs ls h1 h2 h3 h4)
theorem r_if_eq {x : Int32} {off : Int} {tgt : Nat} (C : Ok wk Z E cc nL own ret h) (hd : decode cc pc = .ok (.ifCond .eq off, 3)) (ht : (pc : Int) + off = (tgt : Int)) (kt : x = 0 → GT Z E nL fin tgt lv (rest) M N t1) (kf : ¬ x = 0 → GT Z E nL fin (pc + 3) lv (rest) M N t2) : GT Z E nL fin pc lv (.int x :: rest) M N (if x = 0 then t1 else t2) := by
  intro b hb H locs ls h1 h2 h3 h4
  by_cases hc : x = 0
  · rw [if_pos hc] at hb; exact lv_if_eq C.x C.b hd ht (fun _ => kt hc b hb H locs ls h1 h2 h3 h4) (fun z => absurd hc z)
  · rw [if_neg hc] at hb; exact lv_if_eq C.x C.b hd ht (fun z => absurd z hc) (fun _ => kf hc b hb H locs ls h1 h2 h3 h4)
theorem r_ic_eq {x y : Int32} {off : Int} {tgt : Nat} (C : Ok wk Z E cc nL own ret h) (hd : decode cc pc = .ok (.if_icmp .eq off, 3)) (ht : (pc : Int) + off = (tgt : Int)) (kt : x = y → GT Z E nL fin tgt lv (rest) M N t1) (kf : ¬ x = y → GT Z E nL fin (pc + 3) lv (rest) M N t2) : GT Z E nL fin pc lv (.int y :: .int x :: rest) M N (if x = y then t1 else t2) := by
  intro b hb H locs ls h1 h2 h3 h4
  by_cases hc : x = y
  · rw [if_pos hc] at hb; exact lv_icmp_eq C.x C.b hd ht (fun _ => kt hc b hb H locs ls h1 h2 h3 h4) (fun z => absurd hc z)
  · rw [if_neg hc] at hb; exact lv_icmp_eq C.x C.b hd ht (fun z => absurd z hc) (fun _ => kf hc b hb H locs ls h1 h2 h3 h4)
theorem r_if_ne {x : Int32} {off : Int} {tgt : Nat} (C : Ok wk Z E cc nL own ret h) (hd : decode cc pc = .ok (.ifCond .ne off, 3)) (ht : (pc : Int) + off = (tgt : Int)) (kt : ¬ x = 0 → GT Z E nL fin tgt lv (rest) M N t2) (kf : x = 0 → GT Z E nL fin (pc + 3) lv (rest) M N t1) : GT Z E nL fin pc lv (.int x :: rest) M N (if x = 0 then t1 else t2) := by
  intro b hb H locs ls h1 h2 h3 h4
  by_cases hc : x = 0
  · rw [if_pos hc] at hb; exact lv_if_ne C.x C.b hd ht (fun z => absurd hc z) (fun _ => kf hc b hb H locs ls h1 h2 h3 h4)
  · rw [if_neg hc] at hb; exact lv_if_ne C.x C.b hd ht (fun _ => kt hc b hb H locs ls h1 h2 h3 h4) (fun z => absurd z hc)
theorem r_ic_ne {x y : Int32} {off : Int} {tgt : Nat} (C : Ok wk Z E cc nL own ret h) (hd : decode cc pc = .ok (.if_icmp .ne off, 3)) (ht : (pc : Int) + off = (tgt : Int)) (kt : ¬ x = y → GT Z E nL fin tgt lv (rest) M N t2) (kf : x = y → GT Z E nL fin (pc + 3) lv (rest) M N t1) : GT Z E nL fin pc lv (.int y :: .int x :: rest) M N (if x = y then t1 else t2) := by
  intro b hb H locs ls h1 h2 h3 h4
  by_cases hc : x = y
  · rw [if_pos hc] at hb; exact lv_icmp_ne C.x C.b hd ht (fun z => absurd hc z) (fun _ => kf hc b hb H locs ls h1 h2 h3 h4)
  · rw [if_neg hc] at hb; exact lv_icmp_ne C.x C.b hd ht (fun _ => kt hc b hb H locs ls h1 h2 h3 h4) (fun z => absurd z hc)
theorem r_if_lt {x : Int32} {off : Int} {tgt : Nat} (C : Ok wk Z E cc nL own ret h) (hd : decode cc pc = .ok (.ifCond .lt off, 3)) (ht : (pc : Int) + off = (tgt : Int)) (kt : x < 0 → GT Z E nL fin tgt lv (rest) M N t1) (kf : ¬ x < 0 → GT Z E nL fin (pc + 3) lv (rest) M N t2) : GT Z E nL fin pc lv (.int x :: rest) M N (if x < 0 then t1 else t2) := by
  intro b hb H locs ls h1 h2 h3 h4
  by_cases hc : x < 0
  · rw [if_pos hc] at hb; exact lv_if_lt C.x C.b hd ht (fun _ => kt hc b hb H locs ls h1 h2 h3 h4) (fun z => absurd hc z)
  · rw [if_neg hc] at hb; exact lv_if_lt C.x C.b hd ht (fun z => absurd z hc) (fun _ => kf hc b hb H locs ls h1 h2 h3 h4)
theorem r_ic_lt {x y : Int32} {off : Int} {tgt : Nat} (C : Ok wk Z E cc nL own ret h) (hd : decode cc pc = .ok (.if_icmp .lt off, 3)) (ht : (pc : Int) + off = (tgt : Int)) (kt : x < y → GT Z E nL fin tgt lv (rest) M N t1) (kf : ¬ x < y → GT Z E nL fin (pc + 3) lv (rest) M N t2) : GT Z E nL fin pc lv (.int y :: .int x :: rest) M N (if x < y then t1 else t2) := by
  intro b hb H locs ls h1 h2 h3 h4
  by_cases hc : x < y
  · rw [if_pos hc] at hb; exact lv_icmp_lt C.x C.b hd ht (fun _ => kt hc b hb H locs ls h1 h2 h3 h4) (fun z => absurd hc z)
  · rw [if_neg hc] at hb; exact lv_icmp_lt C.x C.b hd ht (fun z => absurd z hc) (fun _ => kf hc b hb H locs ls h1 h2 h3 h4)
theorem r_if_ge {x : Int32} {off : Int} {tgt : Nat} (C : Ok wk Z E cc nL own ret h) (hd : decode cc pc = .ok (.ifCond .ge off, 3)) (ht : (pc : Int) + off = (tgt : Int)) (kt : 0 ≤ x → GT Z E nL fin tgt lv (rest) M N t1) (kf : ¬ 0 ≤ x → GT Z E nL fin (pc + 3) lv (rest) M N t2) : GT Z E nL fin pc lv (.int x :: rest) M N (if 0 ≤ x then t1 else t2) := by
  intro b hb H locs ls h1 h2 h3 h4
  by_cases hc : 0 ≤ x
  · rw [if_pos hc] at hb; exact lv_if_ge C.x C.b hd ht (fun _ => kt hc b hb H locs ls h1 h2 h3 h4) (fun z => absurd hc z)
  · rw [if_neg hc] at hb; exact lv_if_ge C.x C.b hd ht (fun z => absurd z hc) (fun _ => kf hc b hb H locs ls h1 h2 h3 h4)
theorem r_ic_ge {x y : Int32} {off : Int} {tgt : Nat} (C : Ok wk Z E cc nL own ret h) (hd : decode cc pc = .ok (.if_icmp .ge off, 3)) (ht : (pc : Int) + off = (tgt : Int)) (kt : y ≤ x → GT Z E nL fin tgt lv (rest) M N t1) (kf : ¬ y ≤ x → GT Z E nL fin (pc + 3) lv (rest) M N t2) : GT Z E nL fin pc lv (.int y :: .int x :: rest) M N (if y ≤ x then t1 else t2) := by
  intro b hb H locs ls h1 h2 h3 h4
  by_cases hc : y ≤ x
  · rw [if_pos hc] at hb; exact lv_icmp_ge C.x C.b hd ht (fun _ => kt hc b hb H locs ls h1 h2 h3 h4) (fun z => absurd hc z)
  · rw [if_neg hc] at hb; exact lv_icmp_ge C.x C.b hd ht (fun z => absurd z hc) (fun _ => kf hc b hb H locs ls h1 h2 h3 h4)
theorem r_if_gt {x : Int32} {off : Int} {tgt : Nat} (C : Ok wk Z E cc nL own ret h) (hd : decode cc pc = .ok (.ifCond .gt off, 3)) (ht : (pc : Int) + off = (tgt : Int)) (kt : 0 < x → GT Z E nL fin tgt lv (rest) M N t1) (kf : ¬ 0 < x → GT Z E nL fin (pc + 3) lv (rest) M N t2) : GT Z E nL fin pc lv (.int x :: rest) M N (if 0 < x then t1 else t2) := by
  intro b hb H locs ls h1 h2 h3 h4
  by_cases hc : 0 < x
  · rw [if_pos hc] at hb; exact lv_if_gt C.x C.b hd ht (fun _ => kt hc b hb H locs ls h1 h2 h3 h4) (fun z => absurd hc z)
  · rw [if_neg hc] at hb; exact lv_if_gt C.x C.b hd ht (fun z => absurd z hc) (fun _ => kf hc b hb H locs ls h1 h2 h3 h4)
theorem r_ic_gt {x y : Int32} {off : Int} {tgt : Nat} (C : Ok wk Z E cc nL own ret h) (hd : decode cc pc = .ok (.if_icmp .gt off, 3)) (ht : (pc : Int) + off = (tgt : Int)) (kt : y < x → GT Z E nL fin tgt lv (rest) M N t1) (kf : ¬ y < x → GT Z E nL fin (pc + 3) lv (rest) M N t2) : GT Z E nL fin pc lv (.int y :: .int x :: rest) M N (if y < x then t1 else t2) := by
  intro b hb H locs ls h1 h2 h3 h4
  by_cases hc : y < x
  · rw [if_pos hc] at hb; exact lv_icmp_gt C.x C.b hd ht (fun _ => kt hc b hb H locs ls h1 h2 h3 h4) (fun z => absurd hc z)
  · rw [if_neg hc] at hb; exact lv_icmp_gt C.x C.b hd ht (fun z => absurd z hc) (fun _ => kf hc b hb H locs ls h1 h2 h3 h4)
theorem r_if_le {x : Int32} {off : Int} {tgt : Nat} (C : Ok wk Z E cc nL own ret h) (hd : decode cc pc = .ok (.ifCond .le off, 3)) (ht : (pc : Int) + off = (tgt : Int)) (kt : x ≤ 0 → GT Z E nL fin tgt lv (rest) M N t1) (kf : ¬ x ≤ 0 → GT Z E nL fin (pc + 3) lv (rest) M N t2) : GT Z E nL fin pc lv (.int x :: rest) M N (if x ≤ 0 then t1 else t2) := by
  intro b hb H locs ls h1 h2 h3 h4
  by_cases hc : x ≤ 0
  · rw [if_pos hc] at hb; exact lv_if_le C.x C.b hd ht (fun _ => kt hc b hb H locs ls h1 h2 h3 h4) (fun z => absurd hc z)
  · rw [if_neg hc] at hb; exact lv_if_le C.x C.b hd ht (fun z => absurd z hc) (fun _ => kf hc b hb H locs ls h1 h2 h3 h4)
theorem r_ic_le {x y : Int32} {off : Int} {tgt : Nat} (C : Ok wk Z E cc nL own ret h) (hd : decode cc pc = .ok (.if_icmp .le off, 3)) (ht : (pc : Int) + off = (tgt : Int)) (kt : x ≤ y → GT Z E nL fin tgt lv (rest) M N t1) (kf : ¬ x ≤ y → GT Z E nL fin (pc + 3) lv (rest) M N t2) : GT Z E nL fin pc lv (.int y :: .int x :: rest) M N (if x ≤ y then t1 else t2) := by
  intro b hb H locs ls h1 h2 h3 h4
  by_cases hc : x ≤ y
  · rw [if_pos hc] at hb; exact lv_icmp_le C.x C.b hd ht (fun _ => kt hc b hb H locs ls h1 h2 h3 h4) (fun z => absurd hc z)
  · rw [if_neg hc] at hb; exact lv_icmp_le C.x C.b hd ht (fun z => absurd z hc) (fun _ => kf hc b hb H locs ls h1 h2 h3 h4)
end ROWS2
section XROWS
variable {p : Program} {l : Launch} {e : Env} {R : Room} {s : State} {m : MethodId} {args : Array Value} {below : List Frame} {meth : Method} {c : Code} {H : Heap} {locs : List Loc} {cells slots : Nat} {Q : State → Prop}
variable {cc : ByteArray} {pc : Nat} {ls : Array Slot} {rest : List Value} {D : va_G} {cl : List vw_C} {a : Nat} {tys : List (ClassId × FieldType)}
/-- a field written, by its cell alone -/
theorem x_put (hexec : p.tables.exec = Jvm.exec) (hb : c.code = cc) {own C : String} {T : u_T} {N ci index : Nat} {Ts : List Cond} (hts : ∀ w ∈ Ts, w.before args s = true) (hin : ∀ w ∈ u_ws C T N, w ∈ Ts) (ty0 : Nat → FieldType) (hty : ∀ k, k < N → parseFieldDescriptor (T k).2.2.1 = some (ty0 k)) (hnm : ∀ a, a < N → ∀ b, b < N → a ≠ b → (T a).2.1 ≠ (T b).2.1) (hown : s.vm.findClass own = some m.cls) (hK : va_K D cl tys s) {fs : List Value} (he : va_at D cl (a, .inr (ci, fs)) H) (hc : cl[ci]? = some (C, T, N)) (k : Nat) (hk : k < N) (hlink : (Cond.fieldLink own index (T k).1 (T k).2.1 (T k).2.2.1).before args s = true) (hfin : (T k).2.2.2 = false) {ty : FieldType} {v : Value} (hd : parseFieldDescriptor (T k).2.2.1 = some ty) (hn : narrow ty v = v) (hfit : fits ty v = true) (hl : k < fs.length)
    (hdg : decode cc pc = .ok (.putfield index, 3)) (kk : ∀ (H1 : Heap) (j : Nat), va_at D cl (a, .inr (ci, fs.set k v)) H1 → H1.size = H.size → (∀ q : Nat, q ≠ a → H1[q]? = H[q]?) → W p l e R s m args below meth c H1 (locs ++ [⟨a, j⟩]) cells slots Q (F0 m (pc + 3) ls rest)) : W p l e R s m args below meth c H locs cells slots Q (F0 m pc ls (v :: .ref a :: rest)) := by
  have hap := va_apart (own := own) hts hin ty0 hty hnm hK hc
  obtain ⟨r, h1, cell, q1, q2, q3, q4⟩ := he
  have hr : r = (C, T, N) := Option.some.inj (h1.symm.trans hc)
  subst hr
  obtain ⟨hS, hfc, kC, hkC, hkind⟩ := hK.1 ci _ hc
  obtain ⟨cf, kf, fi, f, hi, hsl⟩ := hS k hk
  have hlay := hts _ (hin _ (u_in_lay hk))
  unfold u_lay at hlay
  rw [if_neg (by rw [hfin]; decide)] at hlay
  have hst := (u_facts hfc hkC (u_lays hts hin hk) hi).1
  have h6 := u_store hfc hkC hkind hlay hi hd hn hfit
  refine W.putK hexec hb (f := f) ⟨hown, hlink, ⟨_, _, _, hi⟩, hst⟩ (by rw [q2]; exact h6) q1 q3 (by rw [hsl]; exact k2_hasslot (q4 k hk)) rfl rfl hdg fun H' e1 e2 e3 => ?_
  rw [hsl] at e1 ⊢
  exact kk H' _ ⟨_, hc, t_OB.to (V := updV (vp_V fs) k v) ⟨_, e1, q2, q3, t_set q4 hap hk v⟩ (fun j _ => vp_updV_set hl v j)⟩ e2 e3
theorem x_putN (hexec : p.tables.exec = Jvm.exec) (hb : c.code = cc) {own C host : String} {T : u_T} {N ci index : Nat} {Ts : List Cond} (hts : ∀ w ∈ Ts, w.before args s = true) (hin : ∀ w ∈ u_ws C T N, w ∈ Ts) (ty0 : Nat → FieldType) (hty : ∀ k, k < N → parseFieldDescriptor (T k).2.2.1 = some (ty0 k)) (hnm : ∀ a, a < N → ∀ b, b < N → a ≠ b → (T a).2.1 ≠ (T b).2.1) (hown : s.vm.findClass own = some m.cls) (hK : va_K D cl tys s) {fs : List Value} (he : va_at D cl (a, .inr (ci, fs)) H) (hc : cl[ci]? = some (C, T, N)) (k : Nat) (hk : k < N) (hlink : (Cond.fieldLinkNest own index (T k).1 (T k).2.1 (T k).2.2.1 host).before args s = true) (hfin : (T k).2.2.2 = false) {ty : FieldType} {v : Value} (hd : parseFieldDescriptor (T k).2.2.1 = some ty) (hn : narrow ty v = v) (hfit : fits ty v = true) (hl : k < fs.length)
    (hdg : decode cc pc = .ok (.putfield index, 3)) (kk : ∀ (H1 : Heap) (j : Nat), va_at D cl (a, .inr (ci, fs.set k v)) H1 → H1.size = H.size → (∀ q : Nat, q ≠ a → H1[q]? = H[q]?) → W p l e R s m args below meth c H1 (locs ++ [⟨a, j⟩]) cells slots Q (F0 m (pc + 3) ls rest)) : W p l e R s m args below meth c H locs cells slots Q (F0 m pc ls (v :: .ref a :: rest)) := by
  have hap := va_apart (own := own) hts hin ty0 hty hnm hK hc
  obtain ⟨r, h1, cell, q1, q2, q3, q4⟩ := he
  have hr : r = (C, T, N) := Option.some.inj (h1.symm.trans hc)
  subst hr
  obtain ⟨hS, hfc, kC, hkC, hkind⟩ := hK.1 ci _ hc
  obtain ⟨cf, kf, fi, f, hi, hsl⟩ := hS k hk
  have hlay := hts _ (hin _ (u_in_lay hk))
  unfold u_lay at hlay
  rw [if_neg (by rw [hfin]; decide)] at hlay
  have hst := (u_facts hfc hkC (u_lays hts hin hk) hi).1
  have h6 := u_store hfc hkC hkind hlay hi hd hn hfit
  refine va_WputK hexec hb (f := f) hown hlink hi hst (by rw [q2]; exact h6) q1 q3 (by rw [hsl]; exact k2_hasslot (q4 k hk)) rfl rfl hdg fun H' e1 e2 e3 => ?_
  rw [hsl] at e1 ⊢
  exact kk H' _ ⟨_, hc, t_OB.to (V := updV (vp_V fs) k v) ⟨_, e1, q2, q3, t_set q4 hap hk v⟩ (fun j _ => vp_updV_set hl v j)⟩ e2 e3
theorem x_iast (hexec : p.tables.exec = Jvm.exec) (hb : c.code = cc) (hK : va_K D cl tys s) (t0 : Nat) {cA : ClassId} {n : Nat} {f : Nat → Int32} (ha : va_at D cl (a, .inl (cA, n, .inl f)) H) (ht : tys[t0]? = some (cA, .int)) {i : Int32} {x : Int32} (hin : vp_in i n) (hdg : decode cc pc = .ok (.iastore, 1))
    (kk : ∀ H1 : Heap, va_at D cl (a, .inl (cA, n, .inl (upd f i.toNatClampNeg x))) H1 → H1.size = H.size → (∀ q : Nat, q ≠ a → H1[q]? = H[q]?) → W p l e R s m args below meth c H1 (locs ++ [⟨a, i.toNatClampNeg⟩]) cells slots Q (F0 m (pc + 1) ls rest)) : W p l e R s m args below meth c H locs cells slots Q (F0 m pc ls (.int x :: .int i :: .ref a :: rest)) := by
  refine W.iast hexec hb ha ((hK.2 t0 _ ht).1 n (fun j => .int (f j))) (fun q => by cases q) (by show ¬ (i < 0 ∨ (arrV _ _ _).slots.size ≤ _); rw [arrV_size]; exact hin) rfl rfl hdg fun H1 e z oq => ?_
  refine kk H1 ?_ z oq
  show H1[a]? = some (vp_cell _ _)
  rw [e, vp_cell_i, vp_cell_i, arrV_store]
  congr 2
  funext q
  by_cases hq : q = i.toNatClampNeg
  · subst hq
    simp [updV, upd]
  · simp [updV, upd, hq]
theorem x_zast (hexec : p.tables.exec = Jvm.exec) (hb : c.code = cc) (hK : va_K D cl tys s) (t0 : Nat) {cA : ClassId} {n : Nat} {f : Nat → Int32} (ha : va_at D cl (a, .inl (cA, n, .inl f)) H) (ht : tys[t0]? = some (cA, .boolean)) {i : Int32} {x : Int32} (hin : vp_in i n) (hdg : decode cc pc = .ok (.bastore, 1))
    (kk : ∀ H1 : Heap, va_at D cl (a, .inl (cA, n, .inl (upd f i.toNatClampNeg (zn x)))) H1 → H1.size = H.size → (∀ q : Nat, q ≠ a → H1[q]? = H[q]?) → W p l e R s m args below meth c H1 (locs ++ [⟨a, i.toNatClampNeg⟩]) cells slots Q (F0 m (pc + 1) ls rest)) : W p l e R s m args below meth c H locs cells slots Q (F0 m pc ls (.int x :: .int i :: .ref a :: rest)) := by
  refine W.zast hexec hb ha ((hK.2 t0 _ ht).1 n (fun j => .int (f j))) (fun q => by cases q) (by show ¬ (i < 0 ∨ (arrV _ _ _).slots.size ≤ _); rw [arrV_size]; exact hin) rfl rfl hdg fun H1 e z oq => ?_
  refine kk H1 ?_ z oq
  show H1[a]? = some (vp_cell _ _)
  rw [e, vp_cell_i, vp_cell_i, arrV_store]
  congr 2
  funext q
  by_cases hq : q = i.toNatClampNeg
  · subst hq
    simp [updV, upd, narrow, zn]
  · simp [updV, upd, hq]
theorem x_last (hexec : p.tables.exec = Jvm.exec) (hb : c.code = cc) (hK : va_K D cl tys s) (t0 : Nat) {cA : ClassId} {n : Nat} {f : Nat → Int64} (ha : va_at D cl (a, .inl (cA, n, .inr (.inl f))) H) (ht : tys[t0]? = some (cA, .long)) {i : Int32} {x : Int64} (hin : vp_in i n) (hdg : decode cc pc = .ok (.lastore, 1))
    (kk : ∀ H1 : Heap, va_at D cl (a, .inl (cA, n, .inr (.inl (vp_updL f i.toNatClampNeg x)))) H1 → H1.size = H.size → (∀ q : Nat, q ≠ a → H1[q]? = H[q]?) → W p l e R s m args below meth c H1 (locs ++ [⟨a, i.toNatClampNeg⟩]) cells slots Q (F0 m (pc + 1) ls rest)) : W p l e R s m args below meth c H locs cells slots Q (F0 m pc ls (.long x :: .int i :: .ref a :: rest)) := by
  refine W.last hexec hb ha ((hK.2 t0 _ ht).1 n (fun j => .long (f j))) (fun q => by cases q) (by show ¬ (i < 0 ∨ (arrV _ _ _).slots.size ≤ _); rw [arrV_size]; exact hin) rfl rfl hdg fun H1 e z oq => ?_
  refine kk H1 ?_ z oq
  show H1[a]? = some (vp_cell _ _)
  rw [e, vp_cell_l, vp_cell_l, arrV_store]
  congr 2
  funext q
  by_cases hq : q = i.toNatClampNeg
  · subst hq
    simp [updV, vp_updL]
  · simp [updV, vp_updL, hq]
end XROWS
theorem sing {D : va_G} {cl : List vw_C} {q : Nat × va_E} {H : Heap} (h : va_at D cl q H) : va_P D cl [q] H := fun k x hk => by
  match k, hk with
  | 0, hk => cases hk; exact h
section MROWS
variable {wk : Nat} {Z : Zt} {E : Ec} {cc : ByteArray} {nL : Nat} {own : String} {ret : Option FieldType} {h : Nat} {β : Type} {fin : β → Option Value × Mi × Ml} {pc : Nat} {lv lv' : List (Nat × Value)} {st rest : List Value} {M M' : Mi} {N N' : Ml} {t t1 t2 : Option β}
theorem locs_put {locs : List Loc} {g p j : Nat} {σ : Nat → Int32} {ν : Nat → Int64} {e : va_E} (h3 : ∀ q ∈ locs, InA Z q.base) (he : zL Z g σ ν p = some e) : ∀ q ∈ locs ++ [(⟨zA Z g p, j⟩ : Loc)], InA Z q.base := fun q hq => by
  rcases List.mem_append.mp hq with h1 | h1
  · exact h3 q h1
  · rw [List.mem_singleton.mp h1]
    exact ⟨g, p, σ, ν, e, he, rfl⟩
theorem r_get (C : Ok wk Z E cc nL own ret h) {Cn : String} {T : u_T} {n ci index g p : Nat} {fs : List Value} {v : Value} (hin : ∀ w ∈ u_ws Cn T n, w ∈ base) (hc : vwCl[ci]? = some (Cn, T, n)) (k : Nat) (hk : k < n) (hw : Cond.fieldLink own index (T k).1 (T k).2.1 (T k).2.2.1 ∈ base) (hlay : zL Z g (M g) (N g) p = some (.inr (ci, fs))) (hv : fs[k]? = some v) (hd : decode cc pc = .ok (.getfield index, 3))
    (kk : GT Z E nL fin (pc + 3) lv (v :: rest) M N t) : GT Z E nL fin pc lv (.ref (zA Z g p) :: rest) M N t :=
  fun b hb H locs ls h1 h2 h3 h4 => va_get C.x C.b C.ts hin C.ow C.kn.1 (sing (h1 g p _ hlay)) 0 rfl hc k hk (C.ts _ hw) (fun _ q => q) hv hd (kk b hb H locs ls h1 h2 h3 h4)
theorem r_getN (C : Ok wk Z E cc nL own ret h) {Cn host : String} {T : u_T} {n ci index g p : Nat} {fs : List Value} {v : Value} (hin : ∀ w ∈ u_ws Cn T n, w ∈ base) (hc : vwCl[ci]? = some (Cn, T, n)) (k : Nat) (hk : k < n) (i : Nat) (hw : nestF[i]? = some (own, index, (T k).1, (T k).2.1, (T k).2.2.1, host)) (hlay : zL Z g (M g) (N g) p = some (.inr (ci, fs))) (hv : fs[k]? = some v) (hd : decode cc pc = .ok (.getfield index, 3))
    (kk : GT Z E nL fin (pc + 3) lv (v :: rest) M N t) : GT Z E nL fin pc lv (.ref (zA Z g p) :: rest) M N t :=
  fun b hb H locs ls h1 h2 h3 h4 => va_getN C.x C.b C.ts hin C.ow C.kn.1 (sing (h1 g p _ hlay)) 0 rfl hc k hk (C.kn.f i hw) (fun _ q => q) hv hd (kk b hb H locs ls h1 h2 h3 h4)
theorem r_put (C : Ok wk Z E cc nL own ret h) {Cn : String} {T : u_T} {n ci index g p : Nat} {fs : List Value} {v : Value} {σ : Nat → Int32} {ty : FieldType} (hin : ∀ w ∈ u_ws Cn T n, w ∈ base) (ty0 : Nat → FieldType) (hty : ∀ k, k < n → parseFieldDescriptor (T k).2.2.1 = some (ty0 k)) (hnm : ∀ a, a < n → ∀ b, b < n → a ≠ b → (T a).2.1 ≠ (T b).2.1) (hc : vwCl[ci]? = some (Cn, T, n)) (k : Nat) (hk : k < n) (hw : Cond.fieldLink own index (T k).1 (T k).2.1 (T k).2.2.1 ∈ base) (hfin : (T k).2.2.2 = false) (hdd : parseFieldDescriptor (T k).2.2.1 = some ty) (hn : narrow ty v = v) (hfit : fits ty v = true) (hl : k < fs.length)
    (hlay : zL Z g (M g) (N g) p = some (.inr (ci, fs))) (hlay1 : zL Z g σ (N g) p = some (.inr (ci, fs.set k v))) (ho : ∀ (p' : Nat) (e : va_E), p' ≠ p → zL Z g σ (N g) p' = some e → zL Z g (M g) (N g) p' = some e) (hM : sR M g σ = M') (hd : decode cc pc = .ok (.putfield index, 3))
    (kk : GT Z E nL fin (pc + 3) lv rest M' N t) : GT Z E nL fin pc lv (v :: .ref (zA Z g p) :: rest) M N t := by
  intro b hb H locs ls h1 h2 h3 h4
  refine x_put C.x C.b C.ts hin ty0 hty hnm C.ow C.kn.1 (h1 g p _ hlay) hc k hk (C.ts _ hw) hfin hdd hn hfit hl hd (fun H1 j he hz oq => ?_)
  have hR := h1.put C.z.1 hlay hlay1 he oq ho
  rw [sR_self, hM] at hR
  exact kk b hb H1 _ ls hR (h2.set ⟨g, p, _, _, _, hlay, rfl⟩ hz oq) (locs_put h3 hlay) h4
theorem r_putN (C : Ok wk Z E cc nL own ret h) {Cn host : String} {T : u_T} {n ci index g p : Nat} {fs : List Value} {v : Value} {σ : Nat → Int32} {ty : FieldType} (hin : ∀ w ∈ u_ws Cn T n, w ∈ base) (ty0 : Nat → FieldType) (hty : ∀ k, k < n → parseFieldDescriptor (T k).2.2.1 = some (ty0 k)) (hnm : ∀ a, a < n → ∀ b, b < n → a ≠ b → (T a).2.1 ≠ (T b).2.1) (hc : vwCl[ci]? = some (Cn, T, n)) (k : Nat) (hk : k < n) (i : Nat) (hw : nestF[i]? = some (own, index, (T k).1, (T k).2.1, (T k).2.2.1, host)) (hfin : (T k).2.2.2 = false) (hdd : parseFieldDescriptor (T k).2.2.1 = some ty) (hn : narrow ty v = v) (hfit : fits ty v = true) (hl : k < fs.length)
    (hlay : zL Z g (M g) (N g) p = some (.inr (ci, fs))) (hlay1 : zL Z g σ (N g) p = some (.inr (ci, fs.set k v))) (ho : ∀ (p' : Nat) (e : va_E), p' ≠ p → zL Z g σ (N g) p' = some e → zL Z g (M g) (N g) p' = some e) (hM : sR M g σ = M') (hd : decode cc pc = .ok (.putfield index, 3))
    (kk : GT Z E nL fin (pc + 3) lv rest M' N t) : GT Z E nL fin pc lv (v :: .ref (zA Z g p) :: rest) M N t := by
  intro b hb H locs ls h1 h2 h3 h4
  refine x_putN C.x C.b C.ts hin ty0 hty hnm C.ow C.kn.1 (h1 g p _ hlay) hc k hk (C.kn.f i hw) hfin hdd hn hfit hl hd (fun H1 j he hz oq => ?_)
  have hR := h1.put C.z.1 hlay hlay1 he oq ho
  rw [sR_self, hM] at hR
  exact kk b hb H1 _ ls hR (h2.set ⟨g, p, _, _, _, hlay, rfl⟩ hz oq) (locs_put h3 hlay) h4
theorem r_iald (C : Ok wk Z E cc nL own ret h) {g p n : Nat} {f : Nat → Int32} {i v : Int32} (hlay : zL Z g (M g) (N g) p = some (.inl (Z.2.1 0, n, .inl f))) (hin : vp_in i n) (hv : f i.toNatClampNeg = v) (hd : decode cc pc = .ok (.iaload, 1))
    (kk : GT Z E nL fin (pc + 1) lv (.int v :: rest) M N t) : GT Z E nL fin pc lv (.int i :: .ref (zA Z g p) :: rest) M N t :=
  fun b hb H locs ls h1 h2 h3 h4 => va_iald C.x C.b C.kn.1 (sing (h1 g p _ hlay)) 0 0 rfl rfl hin hd (hv ▸ kk b hb H locs ls h1 h2 h3 h4)
theorem r_zald (C : Ok wk Z E cc nL own ret h) {g p n : Nat} {f : Nat → Int32} {i v : Int32} (hlay : zL Z g (M g) (N g) p = some (.inl (Z.2.1 2, n, .inl f))) (hin : vp_in i n) (hv : f i.toNatClampNeg = v) (hd : decode cc pc = .ok (.baload, 1))
    (kk : GT Z E nL fin (pc + 1) lv (.int v :: rest) M N t) : GT Z E nL fin pc lv (.int i :: .ref (zA Z g p) :: rest) M N t :=
  fun b hb H locs ls h1 h2 h3 h4 => va_zald C.x C.b C.kn.1 (sing (h1 g p _ hlay)) 0 2 rfl rfl hin hd (hv ▸ kk b hb H locs ls h1 h2 h3 h4)
theorem r_lald (C : Ok wk Z E cc nL own ret h) {g p n : Nat} {f : Nat → Int64} {i : Int32} {v : Int64} (hlay : zL Z g (M g) (N g) p = some (.inl (Z.2.1 1, n, .inr (.inl f)))) (hin : vp_in i n) (hv : f i.toNatClampNeg = v) (hd : decode cc pc = .ok (.laload, 1))
    (kk : GT Z E nL fin (pc + 1) lv (.long v :: rest) M N t) : GT Z E nL fin pc lv (.int i :: .ref (zA Z g p) :: rest) M N t :=
  fun b hb H locs ls h1 h2 h3 h4 => va_lald C.x C.b C.kn.1 (sing (h1 g p _ hlay)) 0 1 rfl rfl hin hd (hv ▸ kk b hb H locs ls h1 h2 h3 h4)
theorem r_iast (C : Ok wk Z E cc nL own ret h) {g p n : Nat} {f : Nat → Int32} {σ : Nat → Int32} {i x : Int32} (hlay : zL Z g (M g) (N g) p = some (.inl (Z.2.1 0, n, .inl f))) (hlay1 : zL Z g σ (N g) p = some (.inl (Z.2.1 0, n, .inl (upd f i.toNatClampNeg x)))) (ho : ∀ (p' : Nat) (e : va_E), p' ≠ p → zL Z g σ (N g) p' = some e → zL Z g (M g) (N g) p' = some e) (hM : sR M g σ = M') (hin : vp_in i n) (hd : decode cc pc = .ok (.iastore, 1))
    (kk : GT Z E nL fin (pc + 1) lv rest M' N t) : GT Z E nL fin pc lv (.int x :: .int i :: .ref (zA Z g p) :: rest) M N t := by
  intro b hb H locs ls h1 h2 h3 h4
  refine x_iast C.x C.b C.kn.1 0 (h1 g p _ hlay) rfl hin hd (fun H1 he hz oq => ?_)
  have hR := h1.put C.z.1 hlay hlay1 he oq ho
  rw [sR_self, hM] at hR
  exact kk b hb H1 _ ls hR (h2.set ⟨g, p, _, _, _, hlay, rfl⟩ hz oq) (locs_put h3 hlay) h4
theorem r_zast (C : Ok wk Z E cc nL own ret h) {g p n : Nat} {f : Nat → Int32} {σ : Nat → Int32} {i x : Int32} (hlay : zL Z g (M g) (N g) p = some (.inl (Z.2.1 2, n, .inl f))) (hlay1 : zL Z g σ (N g) p = some (.inl (Z.2.1 2, n, .inl (upd f i.toNatClampNeg (zn x))))) (ho : ∀ (p' : Nat) (e : va_E), p' ≠ p → zL Z g σ (N g) p' = some e → zL Z g (M g) (N g) p' = some e) (hM : sR M g σ = M') (hin : vp_in i n) (hd : decode cc pc = .ok (.bastore, 1))
    (kk : GT Z E nL fin (pc + 1) lv rest M' N t) : GT Z E nL fin pc lv (.int x :: .int i :: .ref (zA Z g p) :: rest) M N t := by
  intro b hb H locs ls h1 h2 h3 h4
  refine x_zast C.x C.b C.kn.1 2 (h1 g p _ hlay) rfl hin hd (fun H1 he hz oq => ?_)
  have hR := h1.put C.z.1 hlay hlay1 he oq ho
  rw [sR_self, hM] at hR
  exact kk b hb H1 _ ls hR (h2.set ⟨g, p, _, _, _, hlay, rfl⟩ hz oq) (locs_put h3 hlay) h4
theorem r_last (C : Ok wk Z E cc nL own ret h) {g p n : Nat} {f : Nat → Int64} {ν : Nat → Int64} {i : Int32} {x : Int64} (hlay : zL Z g (M g) (N g) p = some (.inl (Z.2.1 1, n, .inr (.inl f)))) (hlay1 : zL Z g (M g) ν p = some (.inl (Z.2.1 1, n, .inr (.inl (vp_updL f i.toNatClampNeg x))))) (ho : ∀ (p' : Nat) (e : va_E), p' ≠ p → zL Z g (M g) ν p' = some e → zL Z g (M g) (N g) p' = some e) (hM : sR N g ν = N') (hin : vp_in i n) (hd : decode cc pc = .ok (.lastore, 1))
    (kk : GT Z E nL fin (pc + 1) lv rest M N' t) : GT Z E nL fin pc lv (.long x :: .int i :: .ref (zA Z g p) :: rest) M N t := by
  intro b hb H locs ls h1 h2 h3 h4
  refine x_last C.x C.b C.kn.1 1 (h1 g p _ hlay) rfl hin hd (fun H1 he hz oq => ?_)
  have hR := h1.put C.z.1 hlay hlay1 he oq ho
  rw [sR_self, hM] at hR
  exact kk b hb H1 _ ls hR (h2.set ⟨g, p, _, _, _, hlay, rfl⟩ hz oq) (locs_put h3 hlay) h4
theorem r_aald (C : Ok wk Z E cc nL own ret h) {g p n : Nat} {f : Nat → Nat} {i : Int32} {a : Nat} (hlay : zL Z g (M g) (N g) p = some (.inl (Z.2.1 3, n, .inr (.inr (.inr (.inr (fun i => some (f i)))))))) (hin : vp_in i n) (hv : f i.toNatClampNeg = a) (hd : decode cc pc = .ok (.aaload, 1))
    (kk : GT Z E nL fin (pc + 1) lv (.ref a :: rest) M N t) : GT Z E nL fin pc lv (.int i :: .ref (zA Z g p) :: rest) M N t :=
  fun b hb H locs ls h1 h2 h3 h4 => va_aldq C.x C.b C.kn.1 (sing (h1 g p _ hlay)) 0 3 rfl rfl hin hd (by subst hv; exact kk b hb H locs ls h1 h2 h3 h4)
/-- a long comparison and its branch -/
theorem r_lc_eq {x y : Int64} {off : Int} {tgt : Nat} (C : Ok wk Z E cc nL own ret h) (hl : decode cc pc = .ok (.lcmp, 1)) (hd : decode cc (pc + 1) = .ok (.ifCond .eq off, 3)) (ht : ((pc + 1 : Nat) : Int) + off = (tgt : Int)) (kt : x = y → GT Z E nL fin tgt lv rest M N t1) (kf : ¬ x = y → GT Z E nL fin (pc + 1 + 3) lv rest M N t2) : GT Z E nL fin pc lv (.long y :: .long x :: rest) M N (if x = y then t1 else t2) := by
  intro b hb H locs ls h1 h2 h3 h4
  refine W.lcmp C.x C.b hl ?_
  by_cases hc : x = y
  · rw [if_pos hc] at hb; exact lv_if_eq C.x C.b hd ht (fun _ => kt hc b hb H locs ls h1 h2 h3 h4) (fun z => absurd ((lg_cmp_eq x y).mpr hc) z)
  · rw [if_neg hc] at hb; exact lv_if_eq C.x C.b hd ht (fun z => absurd ((lg_cmp_eq x y).mp z) hc) (fun _ => kf hc b hb H locs ls h1 h2 h3 h4)
theorem r_lc_ne {x y : Int64} {off : Int} {tgt : Nat} (C : Ok wk Z E cc nL own ret h) (hl : decode cc pc = .ok (.lcmp, 1)) (hd : decode cc (pc + 1) = .ok (.ifCond .ne off, 3)) (ht : ((pc + 1 : Nat) : Int) + off = (tgt : Int)) (kt : ¬ x = y → GT Z E nL fin tgt lv rest M N t2) (kf : x = y → GT Z E nL fin (pc + 1 + 3) lv rest M N t1) : GT Z E nL fin pc lv (.long y :: .long x :: rest) M N (if x = y then t1 else t2) := by
  intro b hb H locs ls h1 h2 h3 h4
  refine W.lcmp C.x C.b hl ?_
  by_cases hc : x = y
  · rw [if_pos hc] at hb; exact lv_if_ne C.x C.b hd ht (fun z => absurd ((lg_cmp_eq x y).mpr hc) z) (fun _ => kf hc b hb H locs ls h1 h2 h3 h4)
  · rw [if_neg hc] at hb; exact lv_if_ne C.x C.b hd ht (fun _ => kt hc b hb H locs ls h1 h2 h3 h4) (fun z => absurd ((lg_cmp_eq x y).mp z) hc)
theorem r_lc_lt {x y : Int64} {off : Int} {tgt : Nat} (C : Ok wk Z E cc nL own ret h) (hl : decode cc pc = .ok (.lcmp, 1)) (hd : decode cc (pc + 1) = .ok (.ifCond .lt off, 3)) (ht : ((pc + 1 : Nat) : Int) + off = (tgt : Int)) (kt : x < y → GT Z E nL fin tgt lv rest M N t1) (kf : ¬ x < y → GT Z E nL fin (pc + 1 + 3) lv rest M N t2) : GT Z E nL fin pc lv (.long y :: .long x :: rest) M N (if x < y then t1 else t2) := by
  intro b hb H locs ls h1 h2 h3 h4
  refine W.lcmp C.x C.b hl ?_
  by_cases hc : x < y
  · rw [if_pos hc] at hb; exact lv_if_lt C.x C.b hd ht (fun _ => kt hc b hb H locs ls h1 h2 h3 h4) (fun z => absurd ((lg_cmp_lt x y).mpr hc) z)
  · rw [if_neg hc] at hb; exact lv_if_lt C.x C.b hd ht (fun z => absurd ((lg_cmp_lt x y).mp z) hc) (fun _ => kf hc b hb H locs ls h1 h2 h3 h4)
theorem r_lc_ge {x y : Int64} {off : Int} {tgt : Nat} (C : Ok wk Z E cc nL own ret h) (hl : decode cc pc = .ok (.lcmp, 1)) (hd : decode cc (pc + 1) = .ok (.ifCond .ge off, 3)) (ht : ((pc + 1 : Nat) : Int) + off = (tgt : Int)) (kt : y ≤ x → GT Z E nL fin tgt lv rest M N t1) (kf : ¬ y ≤ x → GT Z E nL fin (pc + 1 + 3) lv rest M N t2) : GT Z E nL fin pc lv (.long y :: .long x :: rest) M N (if y ≤ x then t1 else t2) := by
  intro b hb H locs ls h1 h2 h3 h4
  refine W.lcmp C.x C.b hl ?_
  by_cases hc : y ≤ x
  · rw [if_pos hc] at hb; exact lv_if_ge C.x C.b hd ht (fun _ => kt hc b hb H locs ls h1 h2 h3 h4) (fun z => absurd ((lg_cmp_ge x y).mpr hc) z)
  · rw [if_neg hc] at hb; exact lv_if_ge C.x C.b hd ht (fun z => absurd ((lg_cmp_ge x y).mp z) hc) (fun _ => kf hc b hb H locs ls h1 h2 h3 h4)
theorem r_lc_gt {x y : Int64} {off : Int} {tgt : Nat} (C : Ok wk Z E cc nL own ret h) (hl : decode cc pc = .ok (.lcmp, 1)) (hd : decode cc (pc + 1) = .ok (.ifCond .gt off, 3)) (ht : ((pc + 1 : Nat) : Int) + off = (tgt : Int)) (kt : y < x → GT Z E nL fin tgt lv rest M N t1) (kf : ¬ y < x → GT Z E nL fin (pc + 1 + 3) lv rest M N t2) : GT Z E nL fin pc lv (.long y :: .long x :: rest) M N (if y < x then t1 else t2) := by
  intro b hb H locs ls h1 h2 h3 h4
  refine W.lcmp C.x C.b hl ?_
  by_cases hc : y < x
  · rw [if_pos hc] at hb; exact lv_if_gt C.x C.b hd ht (fun _ => kt hc b hb H locs ls h1 h2 h3 h4) (fun z => absurd ((lg_cmp_gt x y).mpr hc) z)
  · rw [if_neg hc] at hb; exact lv_if_gt C.x C.b hd ht (fun z => absurd ((lg_cmp_gt x y).mp z) hc) (fun _ => kf hc b hb H locs ls h1 h2 h3 h4)
theorem r_lc_le {x y : Int64} {off : Int} {tgt : Nat} (C : Ok wk Z E cc nL own ret h) (hl : decode cc pc = .ok (.lcmp, 1)) (hd : decode cc (pc + 1) = .ok (.ifCond .le off, 3)) (ht : ((pc + 1 : Nat) : Int) + off = (tgt : Int)) (kt : x ≤ y → GT Z E nL fin tgt lv rest M N t1) (kf : ¬ x ≤ y → GT Z E nL fin (pc + 1 + 3) lv rest M N t2) : GT Z E nL fin pc lv (.long y :: .long x :: rest) M N (if x ≤ y then t1 else t2) := by
  intro b hb H locs ls h1 h2 h3 h4
  refine W.lcmp C.x C.b hl ?_
  by_cases hc : x ≤ y
  · rw [if_pos hc] at hb; exact lv_if_le C.x C.b hd ht (fun _ => kt hc b hb H locs ls h1 h2 h3 h4) (fun z => absurd ((lg_cmp_le x y).mpr hc) z)
  · rw [if_neg hc] at hb; exact lv_if_le C.x C.b hd ht (fun z => absurd ((lg_cmp_le x y).mp z) hc) (fun _ => kf hc b hb H locs ls h1 h2 h3 h4)
/-- a case of a switch -/
theorem r_tsw {dflt lo hi : Int} {offs : Array Int} {len : Nat} {x k : Int32} {off : Int} {tgt : Nat} (C : Ok wk Z E cc nL own ret h) (hd : decode cc pc = .ok (.tableswitch dflt lo hi offs, len)) (hk1 : ¬ k.toInt < lo) (hk2 : ¬ hi < k.toInt) (ho : offs[(k.toInt - lo).toNat]? = some off) (ht : (pc : Int) + off = (tgt : Int))
    (kt : x = k → GT Z E nL fin tgt lv rest M N t1) (kf : ¬ x = k → GT Z E nL fin pc lv (.int x :: rest) M N t2) : GT Z E nL fin pc lv (.int x :: rest) M N (if x = k then t1 else t2) := by
  intro b hb H locs ls h1 h2 h3 h4
  by_cases hc : x = k
  · rw [if_pos hc] at hb
    subst hc
    exact lv_tableIn C.x C.b hd hk1 hk2 ho ht (kt rfl b hb H locs ls h1 h2 h3 h4)
  · rw [if_neg hc] at hb
    exact kf hc b hb H locs ls h1 h2 h3 h4
theorem r_tswd {dflt lo hi : Int} {offs : Array Int} {len : Nat} {x : Int32} {tgt : Nat} (C : Ok wk Z E cc nL own ret h) (hd : decode cc pc = .ok (.tableswitch dflt lo hi offs, len)) (hx : x.toInt < lo ∨ hi < x.toInt) (ht : (pc : Int) + dflt = (tgt : Int))
    (kt : GT Z E nL fin tgt lv rest M N t) : GT Z E nL fin pc lv (.int x :: rest) M N t :=
  fun b hb H locs ls h1 h2 h3 h4 => lv_tableOut C.x C.b hd hx ht (kt b hb H locs ls h1 h2 h3 h4)
theorem r_zret {b : β} {v : Int32} (C : Ok wk Z E cc nL own (some .boolean) h) (hd : decode cc pc = .ok (.ireturn, 1)) (hz : v = 0 ∨ v = 1) (hf : fin b = (some (.int v), M, N)) : GT Z E nL fin pc lv [.int v] M N (some b) := by
  intro b' hb' H locs ls h1 h2 h3 h4
  cases hb'
  exact W.zret C.x C.b C.rt (by rcases hz with rfl | rfl <;> rfl) (fun t ht _ => ⟨by rw [hf], by rw [hf, ht]; exact h1, by rw [ht]; exact h2⟩) h3 hd C.lk
/-! calls -/
theorem pcZ_blind {av : List Value} : FrameBlind (pcZ wk Z av M N) := fun a U g mk q => ⟨q.1, q.2.1, KN.same (u := U) rfl q.2.2.1, q.2.2.2.2.2.1.2 U (U.calling g mk a) rfl rfl q.2.2.2.1, q.2.2.2.2⟩
theorem pcZ_pre {av : List Value} {H : Heap} (C : Ok wk Z E cc nL own ret h) (h1 : Rep Z M N H) (h2 : Fr Z (eS E).heap H) : ∀ U : State, U.heap = H → (eS E).WarmedH U.vm → pcZ wk Z av M N av.toArray U := fun U hU hW => ⟨rfl, by rw [hU]; exact h1, C.kn.warm hW, C.z.2.1.1 _ _ hW (by rw [hU]; exact h2) C.sta, C.z⟩
theorem locs_app {locs L : List Loc} (h3 : ∀ q ∈ locs, InA Z q.base) (h4 : ∀ q ∈ L, InA Z q.base) : ∀ q ∈ locs ++ L, InA Z q.base := fun q hq => (List.mem_append.mp hq).elim (h3 q) (h4 q)
theorem run_GT {g0 : JFrame} {r : Option Value × Mi × Ml} {a0 : Array Value} {H : Heap} {locs : List Loc} {Q : State → Prop} {ls : Array Slot} {s0 : List Value} (hg : g0 = F0 (eM E) pc ls s0) (hr : va_Run E.1 E.2.1 E.2.2.1 E.2.2.2.1 E.2.2.2.2.1 E.2.2.2.2.2.1 E.2.2.2.2.2.2.1 E.2.2.2.2.2.2.2.1 E.2.2.2.2.2.2.2.2.1 E.2.2.2.2.2.2.2.2.2 H locs 0 0 0 0 g0 rest (qo Z r a0) (InA Z))
    (h2 : Fr Z (eS E).heap H) (h3 : ∀ q ∈ locs, InA Z q.base)
    (kk : ∀ (H1 : Heap) (locs1 : List Loc), Rep Z r.2.1 r.2.2 H1 → Fr Z (eS E).heap H1 → (∀ q ∈ locs1, InA Z q.base) → Wc E H1 locs1 Q (F0 (eM E) (pc + 3) ls (r.1.toList ++ rest))) : Wc E H locs Q g0 := by
  intro T hT X
  obtain ⟨v, st₀, t, T', L, h0, X', hL, e1, e2, ⟨hv, hR, hF⟩, st⟩ := hr T hT X
  cases hv
  obtain ⟨t2, a1, b1⟩ := kk t.heap (locs ++ L) hR (h2.trans (by rw [← h0]; exact hF)) (locs_app h3 hL) T' e1 X'
  subst hg
  exact ⟨t2, st t2 a1, b1⟩
/-- what a link needs: static, virtual, of a nest mate -/
def LkS (own : String) (idx : Nat) (y : MethodName) (bytes : ByteArray) (maxL : Nat) (rt : Option FieldType) (n : Nat) : Prop :=
  (∀ w ∈ va_wsS own idx y [Cond.code y bytes maxL rt], w ∈ base) ∧ (y.cls ≠ "java/lang/invoke/MethodHandle" ∧ y.cls ≠ "java/lang/invoke/VarHandle" ∧ (parseMethodDescriptor y.desc).map (fun d => d.parameters.length) = some n) ∧ maxL ≤ 11
def LkV (own : String) (idx : Nat) (y : MethodName) (bytes : ByteArray) (maxL : Nat) (rt : Option FieldType) (n : Nat) : Prop :=
  (∀ w ∈ wsV own idx y.cls y [Cond.code y bytes maxL rt], w ∈ base) ∧ (y.cls ≠ "java/lang/invoke/MethodHandle" ∧ y.cls ≠ "java/lang/invoke/VarHandle" ∧ (parseMethodDescriptor y.desc).map (fun d => d.parameters.length) = some n) ∧ maxL ≤ 11
theorem good_base {ws : List Cond} {w0 : Cond} (pre : List Cond) (hm : ∀ w ∈ pre ++ [w0], w ∈ base) : GoodIn base (pre ++ (w0 :: base)) := fun w hw => by
  rcases List.mem_append.mp hw with h1 | h1
  · exact goodIn_base w (hm w (List.mem_append_left _ h1))
  · rcases List.mem_cons.mp h1 with rfl | h1
    · exact goodIn_base _ (hm _ (List.mem_append_right _ (List.mem_singleton.mpr rfl)))
    · exact goodIn_base w h1
theorem room_ok {h' maxL : Nat} (C : Ok wk Z E cc nL own ret h) (hm : maxL ≤ 11) (hh : h' < h) : (rmH h').frames + 1 ≤ E.2.2.2.1.frames ∧ 8 + (maxL + 11) + (rmH h').locals ≤ E.2.2.2.1.locals := by
  rw [C.rm]
  exact ⟨hh, by show 8 + (maxL + 11) + 30 * h' ≤ 30 * h; omega⟩
theorem cells_ok {n : Nat} : 0 + 0 ≤ n := Nat.zero_le _
theorem r_callS {y : MethodName} {bytes : ByteArray} {maxL h' idx n : Nat} {rt : Option FieldType} {av : List Value} {rv : Option Value} (C : Ok wk Z E cc nL own ret h) (hM : Ct wk Z (eL E) y bytes maxL rt h' av M N (rv, M', N')) (hk : LkS own idx y bytes maxL rt n) (hh : h' < h) (hn : av.length = n) (hst : st = av.reverse ++ rest) (hW : (rest.map fun v => v.category).sum ≤ 8) (hd : decode cc pc = .ok (.invokestatic idx, 3)) {st2 : List Value} (hr2 : rv.toList ++ rest = st2)
    (kk : GT Z E nL fin (pc + 3) lv st2 M' N' t) : GT Z E nL fin pc lv st M N t := by
  intro b hb H locs ls h1 h2 h3 h4
  subst hst; subst hr2
  exact run_GT (r := (rv, M', N')) rfl (va_runS (As := av) (rest := rest) (n := n) ⟨C.x, C.b, C.ml, C.ow, C.ts⟩ hM (va_cwS n C.ts (good_base (ws := []) _ hk.1) rfl rfl rfl hk.2.1 (room_ok C hk.2.2 hh)) ⟨pcZ_blind, pcZ_pre C h1 h2⟩ rfl hn h4.1 rfl (lv_room hW) hd ⟨cells_ok, cells_ok⟩) h2 h3 (fun H1 locs1 g1 g2 g3 => kk b hb H1 locs1 ls g1 g2 g3 h4)
def RcV (Z : Zt) (E : Ec) (M : Mi) (N : Ml) (a : Nat) (Cn : String) : Prop := ∀ H : Heap, Rep Z M N H → Fr Z (eS E).heap H → ∃ cell : Cell, H[a]? = some cell ∧ cell.vm.isStatics = false ∧ (eS E).vm.findClass Cn = some cell.cls
theorem recvZ {ci g p : Nat} {fs : List Value} {Cn : String} {T : u_T} {n : Nat} (C : Ok wk Z E cc nL own ret h) (hc : vwCl[ci]? = some (Cn, T, n)) (hlay : zL Z g (M g) (N g) p = some (.inr (ci, fs))) : RcV Z E M N (zA Z g p) Cn :=
  fun _ h1 _ => va_recv (q0 := 0) C.kn.1 (sing (h1 g p _ hlay)) hc rfl
theorem r_callV {y : MethodName} {bytes : ByteArray} {maxL h' idx n a : Nat} {rt : Option FieldType} {As : List Value} {rv : Option Value} (C : Ok wk Z E cc nL own ret h) (hM : Ct wk Z (eL E) y bytes maxL rt h' (.ref a :: As) M N (rv, M', N')) (hk : LkV own idx y bytes maxL rt n) (hv : RcV Z E M N a y.cls) (hh : h' < h) (hn : As.length = n) (hst : st = As.reverse ++ .ref a :: rest) (hW : (rest.map fun v => v.category).sum ≤ 8) (hd : decode cc pc = .ok (.invokevirtual idx, 3)) {st2 : List Value} (hr2 : rv.toList ++ rest = st2)
    (kk : GT Z E nL fin (pc + 3) lv st2 M' N' t) : GT Z E nL fin pc lv st M N t := by
  intro b hb H locs ls h1 h2 h3 h4
  subst hst; subst hr2
  exact run_GT (r := (rv, M', N')) rfl (va_runV (As := As) (rest := rest) (n := n) ⟨C.x, C.b, C.ml, C.ow, C.ts⟩ hM (cwV n C.ts (good_base (ws := []) _ hk.1) rfl rfl rfl ⟨rfl, hk.2.1⟩ (room_ok C hk.2.2 hh)) ⟨pcZ_blind, hv H h1 h2, pcZ_pre C h1 h2⟩ rfl hn h4.1 rfl (lv_room hW) hd ⟨cells_ok, cells_ok⟩) h2 h3 (fun H1 locs1 g1 g2 g3 => kk b hb H1 locs1 ls g1 g2 g3 h4)
/-- a static method of a nest mate -/
theorem r_callSN {y : MethodName} {host : String} {bytes : ByteArray} {maxL h' idx n : Nat} {rt : Option FieldType} {av : List Value} {rv : Option Value} (C : Ok wk Z E cc nL own ret h) (hM : Ct wk Z (eL E) y bytes maxL rt h' av M N (rv, M', N')) (i : Nat) (hi : nestM[i]? = some (own, idx, y, host)) (hw : Cond.code y bytes maxL rt ∈ base) (hini : Cond.initialized y.cls ∈ base) (hstat : Cond.static y ∈ base) (hdd : y.cls ≠ "java/lang/invoke/MethodHandle" ∧ y.cls ≠ "java/lang/invoke/VarHandle" ∧ (parseMethodDescriptor y.desc).map (fun d => d.parameters.length) = some n) (hm : maxL ≤ 11) (hh : h' < h) (hn : av.length = n) (hst : st = av.reverse ++ rest) (hW : (rest.map fun v => v.category).sum ≤ 8) (hd : decode cc pc = .ok (.invokestatic idx, 3)) {st2 : List Value} (hr2 : rv.toList ++ rest = st2)
    (kk : GT Z E nL fin (pc + 3) lv st2 M' N' t) : GT Z E nL fin pc lv st M N t := by
  intro b hb H locs ls h1 h2 h3 h4
  subst hst; subst hr2
  exact run_GT (r := (rv, M', N')) rfl (va_runSN (As := av) (rest := rest) (n := n) ⟨C.x, C.b, C.ml, C.ow, C.ts⟩ hM ⟨va_cnB n C.ts (fun w q => by rcases List.mem_cons.mp q with rfl | q; exact goodIn_base _ hw; exact goodIn_base w q) rfl rfl rfl (C.kn.m i hi) (C.ts _ hini) hdd (room_ok C hm hh), C.ts _ hstat, trivial⟩ ⟨pcZ_blind, pcZ_pre C h1 h2⟩ rfl hn h4.1 rfl (lv_room hW) hd ⟨cells_ok, cells_ok⟩) h2 h3 (fun H1 locs1 g1 g2 g3 => kk b hb H1 locs1 ls g1 g2 g3 h4)
end MROWS
end
section
/-! where the cells of the worlds lie in the memory; loads and stores of arrays -/
abbrev ix (i : Int32) : Nat := i.toNatClampNeg
abbrev inb (i : Int32) (n : Nat) : Prop := ¬ i < 0 ∧ i.toNatClampNeg < n
theorem inb_in {i : Int32} {n : Nat} (h : inb i n) : vp_in i n := fun q => q.elim h.1 (fun z => absurd h.2 (Nat.not_lt.mpr z))
theorem upd_ne {f : Nat → Int32} {k j : Nat} {x : Int32} (h : j ≠ k) : upd f k x j = f j := pk_un h
theorem lyI {Z : Zt} (hz : Zok 1 Z) {j : Nat} (hj : j < 4) (σ : Nat → Int32) (ν : Nat → Int64) (p : Nat) : zL Z j σ ν p = layI (zA Z) Z.2.1 j σ p := by rw [hz.X]; unfold layX; rw [if_pos hj]
theorem lyS {Z : Zt} (hz : Zok 1 Z) {g : Nat} (hg : 20 ≤ g ∧ g < 24) (σ : Nat → Int32) (ν : Nat → Int64) (p : Nat) : zL Z g σ ν p = layS (zA Z) Z.2.1 g σ ν p := by rw [hz.X]; unfold layX; rw [if_neg (by omega), if_pos hg]
theorem lyO {Z : Zt} (hz : Zok 1 Z) {g : Nat} (h1 : ¬ g < 4) (h2 : ¬ (20 ≤ g ∧ g < 24)) (σ : Nat → Int32) (ν : Nat → Int64) (p : Nat) : zL Z g σ ν p = layO (zA Z) Z.2.1 g σ p := by rw [hz.X]; unfold layX; rw [if_neg h1, if_neg h2]
theorem lyM {Z : Zt} (hz : Zok 2 Z) (g : Nat) (σ : Nat → Int32) (ν : Nat → Int64) (p : Nat) : zL Z g σ ν p = layM (zA Z) Z.2.1 g σ ν p := by rw [hz.M]
section LAYS
variable {A : Nat → Nat → Nat} {cy : Nat → ClassId} {g : Nat}
theorem cI {σ σ' : Nat → Int32} (p : Nat) (h : match p with
    | 0 => σ' 2 = σ 2 ∧ σ' 6 = σ 6 ∧ σ' 0 = σ 0 ∧ σ' 1 = σ 1
    | 1 => ∀ i, σ' (if i < 3 then 3 + i else 100 + i) = σ (if i < 3 then 3 + i else 100 + i)
    | 2 => ∀ i, σ' (7 + 4 * i) = σ (7 + 4 * i)
    | 3 => ∀ i, σ' (8 + 4 * i) = σ (8 + 4 * i)
    | 4 => ∀ i, σ' (9 + 4 * i) = σ (9 + 4 * i)
    | 5 => ∀ i, σ' (10 + 4 * i) = σ (10 + 4 * i)
    | _ => True) : layI A cy g σ' p = layI A cy g σ p := by
  match p, h with
  | 0, h => simp only [layI]; rw [h.1, h.2.1, h.2.2.1, h.2.2.2]
  | 1, h => simp only [layI]; rw [show (fun i => σ' (if i < 3 then 3 + i else 100 + i)) = (fun i => σ (if i < 3 then 3 + i else 100 + i)) from funext h]
  | 2, h => simp only [layI]; rw [show (fun i => σ' (7 + 4 * i)) = (fun i => σ (7 + 4 * i)) from funext h]
  | 3, h => simp only [layI]; rw [show (fun i => σ' (8 + 4 * i)) = (fun i => σ (8 + 4 * i)) from funext h]
  | 4, h => simp only [layI]; rw [show (fun i => σ' (9 + 4 * i)) = (fun i => σ (9 + 4 * i)) from funext h]
  | 5, h => simp only [layI]; rw [show (fun i => σ' (10 + 4 * i)) = (fun i => σ (10 + 4 * i)) from funext h]
  | n + 6, _ => rfl
/-- a write that a part of an island doesn't show -/
theorem cIu {σ : Nat → Int32} {k : Nat} {x : Int32} (p : Nat) (h : match p with
    | 0 => 3 ≤ k ∧ k ≠ 6
    | 1 => ¬ (3 ≤ k ∧ k ≤ 5) ∧ k < 100
    | 2 => k < 7 ∨ k % 4 ≠ 3
    | 3 => k < 8 ∨ k % 4 ≠ 0
    | 4 => k < 9 ∨ k % 4 ≠ 1
    | 5 => k < 10 ∨ k % 4 ≠ 2
    | _ => True) : layI A cy g (upd σ k x) p = layI A cy g σ p := by
  refine cI p ?_
  match p, h with
  | 0, h => have h : 3 ≤ k ∧ k ≠ 6 := h; exact ⟨upd_ne (by omega), upd_ne (by omega), upd_ne (by omega), upd_ne (by omega)⟩
  | 1, h => have h : ¬ (3 ≤ k ∧ k ≤ 5) ∧ k < 100 := h; exact fun i => upd_ne (by split <;> omega)
  | 2, h => have h : k < 7 ∨ k % 4 ≠ 3 := h; exact fun i => upd_ne (by omega)
  | 3, h => have h : k < 8 ∨ k % 4 ≠ 0 := h; exact fun i => upd_ne (by omega)
  | 4, h => have h : k < 9 ∨ k % 4 ≠ 1 := h; exact fun i => upd_ne (by omega)
  | 5, h => have h : k < 10 ∨ k % 4 ≠ 2 := h; exact fun i => upd_ne (by omega)
  | n + 6, _ => trivial
theorem hoO {σ : Nat → Int32} {k : Nat} {x : Int32} (hk : k < 3 ∨ k = 6) (p : Nat) (hp : p ≠ 0) : layI A cy g (upd σ k x) p = layI A cy g σ p := by
  refine cIu p ?_
  match p, hp with
  | 0, hp => exact absurd rfl hp
  | 1, _ => constructor <;> omega
  | 2, _ => left; omega
  | 3, _ => left; omega
  | 4, _ => left; omega
  | 5, _ => left; omega
  | n + 6, _ => trivial
theorem ho1 {σ : Nat → Int32} {k : Nat} {x : Int32} (hk : k < 3) (p : Nat) (hp : p ≠ 1) : layI A cy g (upd σ (3 + k) x) p = layI A cy g σ p := by
  refine cIu p ?_
  match p, hp with
  | 0, _ => constructor <;> omega
  | 1, hp => exact absurd rfl hp
  | 2, _ => left; omega
  | 3, _ => left; omega
  | 4, _ => left; omega
  | 5, _ => left; omega
  | n + 6, _ => trivial
theorem hoA {σ : Nat → Int32} {k d : Nat} {x : Int32} (hk : k < 8) (hd : d < 4) (p : Nat) (hp : p ≠ 2 + d) : layI A cy g (upd σ (7 + d + 4 * k) x) p = layI A cy g σ p := by
  refine cIu p ?_
  match p, hp with
  | 0, _ => constructor <;> omega
  | 1, _ => constructor <;> omega
  | 2, hp => right; omega
  | 3, hp => right; omega
  | 4, hp => right; omega
  | 5, hp => right; omega
  | n + 6, _ => trivial
theorem stI1 {σ : Nat → Int32} {k : Nat} {x : Int32} (hk : k < 3) : layI A cy g (upd σ (3 + k) x) 1 = some (.inl (cy 0, 3, .inl (upd (fun i => σ (if i < 3 then 3 + i else 100 + i)) k x))) := by
  simp only [layI]
  rw [show (fun i => upd σ (3 + k) x (if i < 3 then 3 + i else 100 + i)) = upd (fun i => σ (if i < 3 then 3 + i else 100 + i)) k x from ?_]
  funext i
  by_cases h : i = k
  · subst h; rw [if_pos hk, pk_us, pk_us]
  · rw [upd_ne h, upd_ne (by split <;> omega)]
theorem stA {σ : Nat → Int32} {k d : Nat} {x : Int32} : (fun i => upd σ (d + 4 * k) x (d + 4 * i)) = upd (fun i => σ (d + 4 * i)) k x := by
  funext i
  by_cases h : i = k
  · subst h; rw [pk_us, pk_us]
  · rw [upd_ne h, upd_ne (by omega)]
theorem stB {σ : Nat → Int32} {k d : Nat} {x : Int32} : (fun i => upd σ (d + k) x (d + i)) = upd (fun i => σ (d + i)) k x := by
  funext i
  by_cases h : i = k
  · subst h; rw [pk_us, pk_us]
  · rw [upd_ne h, upd_ne (by omega)]
end LAYS
section AROWS
variable {Z : Zt} {E : Ec} {cc : ByteArray} {nL : Nat} {own : String} {ret : Option FieldType} {h : Nat} {β : Type} {fin : β → Option Value × Mi × Ml} {pc : Nat} {lv lv' : List (Nat × Value)} {st rest : List Value} {M M' : Mi} {N N' : Ml} {t t1 t2 : Option β}
theorem ald_I1 {j : Nat} {i v : Int32} (C : Ok 1 Z E cc nL own ret h) (hj : j < 4) (hin : inb i 3) (hv : M j (3 + ix i) = v) (hd : decode cc pc = .ok (.iaload, 1)) (kk : GT Z E nL fin (pc + 1) lv (.int v :: rest) M N t) : GT Z E nL fin pc lv (.int i :: .ref (zA Z j 1) :: rest) M N t :=
  r_iald C (lyI C.z hj _ _ 1) (inb_in hin) (by show M j (if ix i < 3 then 3 + ix i else 100 + ix i) = v; rw [if_pos hin.2]; exact hv) hd kk
theorem ast_I1 {j : Nat} {i v : Int32} (C : Ok 1 Z E cc nL own ret h) (hj : j < 4) (hin : inb i 3) (hM : wM M j (3 + ix i) v = M') (hd : decode cc pc = .ok (.iastore, 1)) (kk : GT Z E nL fin (pc + 1) lv rest M' N t) : GT Z E nL fin pc lv (.int v :: .int i :: .ref (zA Z j 1) :: rest) M N t :=
  r_iast C (σ := upd (M j) (3 + ix i) v) (lyI C.z hj _ _ 1) ((lyI C.z hj _ _ 1).trans (stI1 hin.2)) (fun p e hp q => by rw [lyI C.z hj] at q ⊢; rw [← q]; exact (ho1 hin.2 p hp).symm) hM (inb_in hin) hd kk
theorem ald_I2 {j : Nat} {i v : Int32} (C : Ok 1 Z E cc nL own ret h) (hj : j < 4) (hin : inb i 8) (hv : M j (7 + 4 * ix i) = v) (hd : decode cc pc = .ok (.iaload, 1)) (kk : GT Z E nL fin (pc + 1) lv (.int v :: rest) M N t) : GT Z E nL fin pc lv (.int i :: .ref (zA Z j 2) :: rest) M N t :=
  r_iald C (lyI C.z hj _ _ 2) (inb_in hin) hv hd kk
theorem ald_I3 {j : Nat} {i v : Int32} (C : Ok 1 Z E cc nL own ret h) (hj : j < 4) (hin : inb i 8) (hv : M j (8 + 4 * ix i) = v) (hd : decode cc pc = .ok (.iaload, 1)) (kk : GT Z E nL fin (pc + 1) lv (.int v :: rest) M N t) : GT Z E nL fin pc lv (.int i :: .ref (zA Z j 3) :: rest) M N t :=
  r_iald C (lyI C.z hj _ _ 3) (inb_in hin) hv hd kk
theorem ald_I4 {j : Nat} {i v : Int32} (C : Ok 1 Z E cc nL own ret h) (hj : j < 4) (hin : inb i 8) (hv : M j (9 + 4 * ix i) = v) (hd : decode cc pc = .ok (.iaload, 1)) (kk : GT Z E nL fin (pc + 1) lv (.int v :: rest) M N t) : GT Z E nL fin pc lv (.int i :: .ref (zA Z j 4) :: rest) M N t :=
  r_iald C (lyI C.z hj _ _ 4) (inb_in hin) hv hd kk
theorem ald_I5 {j : Nat} {i v : Int32} (C : Ok 1 Z E cc nL own ret h) (hj : j < 4) (hin : inb i 8) (hv : M j (10 + 4 * ix i) = v) (hd : decode cc pc = .ok (.baload, 1)) (kk : GT Z E nL fin (pc + 1) lv (.int v :: rest) M N t) : GT Z E nL fin pc lv (.int i :: .ref (zA Z j 5) :: rest) M N t :=
  r_zald C (lyI C.z hj _ _ 5) (inb_in hin) hv hd kk
theorem ast_I2 {j : Nat} {i v : Int32} (C : Ok 1 Z E cc nL own ret h) (hj : j < 4) (hin : inb i 8) (hM : wM M j (7 + 4 * ix i) v = M') (hd : decode cc pc = .ok (.iastore, 1)) (kk : GT Z E nL fin (pc + 1) lv rest M' N t) : GT Z E nL fin pc lv (.int v :: .int i :: .ref (zA Z j 2) :: rest) M N t :=
  r_iast C (σ := upd (M j) (7 + 4 * ix i) v) (lyI C.z hj _ _ 2) ((lyI C.z hj _ _ 2).trans (by simp only [layI]; rw [stA])) (fun p e hp q => by rw [lyI C.z hj] at q ⊢; rw [← q]; exact (hoA (d := 0) hin.2 (by omega) p hp).symm) hM (inb_in hin) hd kk
theorem ast_I3 {j : Nat} {i v : Int32} (C : Ok 1 Z E cc nL own ret h) (hj : j < 4) (hin : inb i 8) (hM : wM M j (8 + 4 * ix i) v = M') (hd : decode cc pc = .ok (.iastore, 1)) (kk : GT Z E nL fin (pc + 1) lv rest M' N t) : GT Z E nL fin pc lv (.int v :: .int i :: .ref (zA Z j 3) :: rest) M N t :=
  r_iast C (σ := upd (M j) (8 + 4 * ix i) v) (lyI C.z hj _ _ 3) ((lyI C.z hj _ _ 3).trans (by simp only [layI]; rw [stA])) (fun p e hp q => by rw [lyI C.z hj] at q ⊢; rw [← q]; exact (hoA (d := 1) hin.2 (by omega) p hp).symm) hM (inb_in hin) hd kk
theorem ast_I4 {j : Nat} {i v : Int32} (C : Ok 1 Z E cc nL own ret h) (hj : j < 4) (hin : inb i 8) (hM : wM M j (9 + 4 * ix i) v = M') (hd : decode cc pc = .ok (.iastore, 1)) (kk : GT Z E nL fin (pc + 1) lv rest M' N t) : GT Z E nL fin pc lv (.int v :: .int i :: .ref (zA Z j 4) :: rest) M N t :=
  r_iast C (σ := upd (M j) (9 + 4 * ix i) v) (lyI C.z hj _ _ 4) ((lyI C.z hj _ _ 4).trans (by simp only [layI]; rw [stA])) (fun p e hp q => by rw [lyI C.z hj] at q ⊢; rw [← q]; exact (hoA (d := 2) hin.2 (by omega) p hp).symm) hM (inb_in hin) hd kk
theorem ast_I5 {j : Nat} {i v : Int32} (C : Ok 1 Z E cc nL own ret h) (hj : j < 4) (hin : inb i 8) (hM : wM M j (10 + 4 * ix i) (zn v) = M') (hd : decode cc pc = .ok (.bastore, 1)) (kk : GT Z E nL fin (pc + 1) lv rest M' N t) : GT Z E nL fin pc lv (.int v :: .int i :: .ref (zA Z j 5) :: rest) M N t :=
  r_zast C (σ := upd (M j) (10 + 4 * ix i) (zn v)) (lyI C.z hj _ _ 5) ((lyI C.z hj _ _ 5).trans (by simp only [layI]; rw [stA])) (fun p e hp q => by rw [lyI C.z hj] at q ⊢; rw [← q]; exact (hoA (d := 3) hin.2 (by omega) p hp).symm) hM (inb_in hin) hd kk
theorem ald_B {i v : Int32} (C : Ok 1 Z E cc nL own ret h) (hin : inb i 120) (hv : M 5 (10 + ix i) = v) (hd : decode cc pc = .ok (.iaload, 1)) (kk : GT Z E nL fin (pc + 1) lv (.int v :: rest) M N t) : GT Z E nL fin pc lv (.int i :: .ref (zA Z 5 1) :: rest) M N t :=
  r_iald C (lyO C.z (by decide) (by decide) _ _ 1) (inb_in hin) hv hd kk
theorem ast_B {i v : Int32} (C : Ok 1 Z E cc nL own ret h) (hin : inb i 120) (hM : wM M 5 (10 + ix i) v = M') (hd : decode cc pc = .ok (.iastore, 1)) (kk : GT Z E nL fin (pc + 1) lv rest M' N t) : GT Z E nL fin pc lv (.int v :: .int i :: .ref (zA Z 5 1) :: rest) M N t :=
  r_iast C (σ := upd (M 5) (10 + ix i) v) (lyO C.z (by decide) (by decide) _ _ 1) ((lyO C.z (by decide) (by decide) _ _ 1).trans (by simp only [layO]; rw [stB])) (fun p e hp q => by
    rw [lyO C.z (by decide) (by decide)] at q ⊢
    rw [← q]
    match p, hp with
    | 0, _ => simp only [layO]; rw [upd_ne (by omega), upd_ne (by omega), upd_ne (by omega), upd_ne (by omega), upd_ne (by omega), upd_ne (by omega)]
    | 1, hp => exact absurd rfl hp
    | n + 2, _ => rfl) hM (inb_in hin) hd kk
theorem ald_F {i v : Int32} (C : Ok 1 Z E cc nL own ret h) (hin : inb i 7) (hv : M 7 (ix i) = v) (hd : decode cc pc = .ok (.iaload, 1)) (kk : GT Z E nL fin (pc + 1) lv (.int v :: rest) M N t) : GT Z E nL fin pc lv (.int i :: .ref (zA Z 7 0) :: rest) M N t :=
  r_iald C (lyO C.z (by decide) (by decide) _ _ 0) (inb_in hin) hv hd kk
theorem ast_F {i v : Int32} (C : Ok 1 Z E cc nL own ret h) (hin : inb i 7) (hM : wM M 7 (ix i) v = M') (hd : decode cc pc = .ok (.iastore, 1)) (kk : GT Z E nL fin (pc + 1) lv rest M' N t) : GT Z E nL fin pc lv (.int v :: .int i :: .ref (zA Z 7 0) :: rest) M N t :=
  r_iast C (σ := upd (M 7) (ix i) v) (lyO C.z (by decide) (by decide) _ _ 0) (lyO C.z (by decide) (by decide) _ _ 0) (fun p e hp q => by
    rw [lyO C.z (by decide) (by decide)] at q ⊢
    rw [← q]
    match p, hp with
    | 0, hp => exact absurd rfl hp
    | n + 1, _ => rfl) hM (inb_in hin) hd kk
theorem ald_T {i : Int32} (C : Ok 1 Z E cc nL own ret h) (hin : inb i 4) (hd : decode cc pc = .ok (.aaload, 1)) (kk : GT Z E nL fin (pc + 1) lv (.ref (zA Z (20 + ix i) 0) :: rest) M N t) : GT Z E nL fin pc lv (.int i :: .ref (zA Z 6 0) :: rest) M N t :=
  r_aald C (f := fun i => zA Z (20 + i) 0) (lyO C.z (by decide) (by decide) _ _ 0) (inb_in hin) rfl hd kk
theorem ald_S {g : Nat} {i : Int32} {v : Int64} (C : Ok 1 Z E cc nL own ret h) (hg : 20 ≤ g ∧ g < 24) (hin : inb i 40) (hv : N g (ix i) = v) (hd : decode cc pc = .ok (.laload, 1)) (kk : GT Z E nL fin (pc + 1) lv (.long v :: rest) M N t) : GT Z E nL fin pc lv (.int i :: .ref (zA Z g 1) :: rest) M N t :=
  r_lald C (lyS C.z hg _ _ 1) (inb_in hin) hv hd kk
theorem ast_S {g : Nat} {i : Int32} {v : Int64} (C : Ok 1 Z E cc nL own ret h) (hg : 20 ≤ g ∧ g < 24) (hin : inb i 40) (hN : wN N g (ix i) v = N') (hd : decode cc pc = .ok (.lastore, 1)) (kk : GT Z E nL fin (pc + 1) lv rest M N' t) : GT Z E nL fin pc lv (.long v :: .int i :: .ref (zA Z g 1) :: rest) M N t :=
  r_last C (ν := vp_updL (N g) (ix i) v) (lyS C.z hg _ _ 1) (lyS C.z hg _ _ 1) (fun p e hp q => by
    rw [lyS C.z hg] at q ⊢
    rw [← q]
    match p, hp with
    | 0, _ => rfl
    | 1, hp => exact absurd rfl hp
    | n + 2, _ => rfl) hN (inb_in hin) hd kk
/-- the reference's rows of ints and longs -/
def mI (g n : Nat) : Prop := ∀ (B : Nat → Nat → Nat) (cy : Nat → ClassId) (σ : Nat → Int32) (ν : Nat → Int64), layM B cy g σ ν 0 = some (.inl (cy 0, n, .inl σ)) ∧ ∀ p, p ≠ 0 → layM B cy g σ ν p = none
def mL (g n : Nat) : Prop := ∀ (B : Nat → Nat → Nat) (cy : Nat → ClassId) (σ : Nat → Int32) (ν : Nat → Int64), layM B cy g σ ν 0 = some (.inl (cy 1, n, .inr (.inl ν))) ∧ ∀ p, p ≠ 0 → layM B cy g σ ν p = none
theorem mI_0 : mI 0 39 := fun _ _ _ _ => ⟨rfl, fun p hp => by match p, hp with | 0, hp => exact absurd rfl hp | n + 1, _ => rfl⟩
theorem mI_1 : mI 1 39 := fun _ _ _ _ => ⟨rfl, fun p hp => by match p, hp with | 0, hp => exact absurd rfl hp | n + 1, _ => rfl⟩
theorem mI_2 : mI 2 39 := fun _ _ _ _ => ⟨rfl, fun p hp => by match p, hp with | 0, hp => exact absurd rfl hp | n + 1, _ => rfl⟩
theorem mI_3 : mI 3 39 := fun _ _ _ _ => ⟨rfl, fun p hp => by match p, hp with | 0, hp => exact absurd rfl hp | n + 1, _ => rfl⟩
theorem mI_4 : mI 4 7 := fun _ _ _ _ => ⟨rfl, fun p hp => by match p, hp with | 0, hp => exact absurd rfl hp | n + 1, _ => rfl⟩
theorem mI_5 : mI 5 120 := fun _ _ _ _ => ⟨rfl, fun p hp => by match p, hp with | 0, hp => exact absurd rfl hp | n + 1, _ => rfl⟩
theorem mI_7 : mI 7 4 := fun _ _ _ _ => ⟨rfl, fun p hp => by match p, hp with | 0, hp => exact absurd rfl hp | n + 1, _ => rfl⟩
theorem mI_8 : mI 8 4 := fun _ _ _ _ => ⟨rfl, fun p hp => by match p, hp with | 0, hp => exact absurd rfl hp | n + 1, _ => rfl⟩
theorem mL_9 : mL 9 160 := fun _ _ _ _ => ⟨rfl, fun p hp => by match p, hp with | 0, hp => exact absurd rfl hp | n + 1, _ => rfl⟩
theorem mL_10 : mL 10 40 := fun _ _ _ _ => ⟨rfl, fun p hp => by match p, hp with | 0, hp => exact absurd rfl hp | n + 1, _ => rfl⟩
theorem ald_M {g n : Nat} {i v : Int32} (C : Ok 2 Z E cc nL own ret h) (hm : mI g n) (hin : inb i n) (hv : M g (ix i) = v) (hd : decode cc pc = .ok (.iaload, 1)) (kk : GT Z E nL fin (pc + 1) lv (.int v :: rest) M N t) : GT Z E nL fin pc lv (.int i :: .ref (zA Z g 0) :: rest) M N t :=
  r_iald C ((lyM C.z g _ _ 0).trans (hm _ _ _ _).1) (inb_in hin) hv hd kk
theorem ast_M {g n : Nat} {i v : Int32} (C : Ok 2 Z E cc nL own ret h) (hm : mI g n) (hin : inb i n) (hM : wM M g (ix i) v = M') (hd : decode cc pc = .ok (.iastore, 1)) (kk : GT Z E nL fin (pc + 1) lv rest M' N t) : GT Z E nL fin pc lv (.int v :: .int i :: .ref (zA Z g 0) :: rest) M N t :=
  r_iast C (σ := upd (M g) (ix i) v) ((lyM C.z g _ _ 0).trans (hm _ _ _ _).1) ((lyM C.z g _ _ 0).trans (hm _ _ _ _).1) (fun p e hp q => by rw [lyM C.z, (hm _ _ _ _).2 p hp] at q; cases q) hM (inb_in hin) hd kk
theorem ald_ML {g n : Nat} {i : Int32} {v : Int64} (C : Ok 2 Z E cc nL own ret h) (hm : mL g n) (hin : inb i n) (hv : N g (ix i) = v) (hd : decode cc pc = .ok (.laload, 1)) (kk : GT Z E nL fin (pc + 1) lv (.long v :: rest) M N t) : GT Z E nL fin pc lv (.int i :: .ref (zA Z g 0) :: rest) M N t :=
  r_lald C ((lyM C.z g _ _ 0).trans (hm _ _ _ _).1) (inb_in hin) hv hd kk
theorem ast_ML {g n : Nat} {i : Int32} {v : Int64} (C : Ok 2 Z E cc nL own ret h) (hm : mL g n) (hin : inb i n) (hN : wN N g (ix i) v = N') (hd : decode cc pc = .ok (.lastore, 1)) (kk : GT Z E nL fin (pc + 1) lv rest M N' t) : GT Z E nL fin pc lv (.long v :: .int i :: .ref (zA Z g 0) :: rest) M N t :=
  r_last C (ν := vp_updL (N g) (ix i) v) ((lyM C.z g _ _ 0).trans (hm _ _ _ _).1) ((lyM C.z g _ _ 0).trans (hm _ _ _ _).1) (fun p e hp q => by rw [lyM C.z, (hm _ _ _ _).2 p hp] at q; cases q) hN (inb_in hin) hd kk
theorem rvI {j : Nat} (C : Ok 1 Z E cc nL own ret h) (hj : j < 4) : RcV Z E M N (zA Z j 0) RX0 := recvZ C (ci := 0) rfl (lyI C.z hj _ _ 0)
theorem rvR (C : Ok 1 Z E cc nL own ret h) : RcV Z E M N (zA Z 4 0) RX1 := recvZ C (ci := 1) rfl (lyO C.z (by decide) (by decide) _ _ 0)
theorem rvS {g : Nat} (C : Ok 1 Z E cc nL own ret h) (hg : 20 ≤ g ∧ g < 24) : RcV Z E M N (zA Z g 0) RX2 := recvZ C (ci := 2) rfl (lyS C.z hg _ _ 0)
theorem rvT (C : Ok 1 Z E cc nL own ret h) : RcV Z E M N (zA Z 5 0) RX3 := recvZ C (ci := 3) rfl (lyO C.z (by decide) (by decide) _ _ 0)
theorem rvX (C : Ok 1 Z E cc nL own ret h) : RcV Z E M N (zA Z 8 0) RX4 := recvZ C (ci := 4) rfl (lyO C.z (by decide) (by decide) _ _ 0)
theorem rvM (C : Ok 2 Z E cc nL own ret h) : RcV Z E M N (zA Z 6 0) RX5 := recvZ C (ci := 5) rfl (lyM C.z _ _ _ 0)
theorem gS {i : Int32} (hi : inb i 4) : 20 ≤ 20 + ix i ∧ 20 + ix i < 24 := ⟨Nat.le_add_right _ _, by have q : ix i < 4 := hi.2; omega⟩
theorem Ct.selfR {k : Nat} {l : Launch} {y : MethodName} {cc : ByteArray} {mL hh g : Nat} {rt : Option FieldType} {av : List Value} {rv : Option Value} (c : Ct k Z l y cc mL rt hh av (sR M g (M g)) N (rv, sR M g (M g), N')) : Ct k Z l y cc mL rt hh av M N (rv, M, N') := by rw [sR_self] at c; exact c
theorem Ct.selfW {k : Nat} {l : Launch} {y : MethodName} {cc : ByteArray} {mL hh g : Nat} {rt : Option FieldType} {av : List Value} {r : Option Value × Mi × Ml} (c : Ct k Z l y cc mL rt hh av (sR M g (M g)) N r) : Ct k Z l y cc mL rt hh av M N r := by rw [sR_self] at c; exact c
theorem r_same {P : Prop} [Decidable P] (k : GT Z E nL fin pc lv st M N (if P then t else t)) : GT Z E nL fin pc lv st M N t := by
  by_cases hp : P
  · rw [if_pos hp] at k; exact k
  · rw [if_neg hp] at k; exact k
end AROWS
end
section
section FROWS
variable {Z : Zt} {E : Ec} {cc : ByteArray} {nL : Nat} {ret : Option FieldType} {h : Nat} {β : Type} {fin : β → Option Value × Mi × Ml} {pc : Nat} {lv : List (Nat × Value)} {rest : List Value} {M M' : Mi} {N N' : Ml} {t : Option β}
theorem gf_X0_9 {j : Nat} (C : Ok 1 Z E cc nL RX0 ret h) (hj : j < 4) (hd : decode cc pc = .ok (.getfield 9, 3)) (kk : GT Z E nL fin (pc + 3) lv (.ref (zA Z j 1) :: rest) M N t) : GT Z E nL fin pc lv (.ref (zA Z j 0) :: rest) M N t :=
  r_get C us_X0 (ci := 0) rfl 4 (by decide) wd_117 (lyI C.z hj _ _ 0) rfl hd kk
theorem gf_X0_15 {j : Nat} (C : Ok 1 Z E cc nL RX0 ret h) (hj : j < 4) (hd : decode cc pc = .ok (.getfield 15, 3)) (kk : GT Z E nL fin (pc + 3) lv (.ref (zA Z j 2) :: rest) M N t) : GT Z E nL fin pc lv (.ref (zA Z j 0) :: rest) M N t :=
  r_get C us_X0 (ci := 0) rfl 5 (by decide) wd_120 (lyI C.z hj _ _ 0) rfl hd kk
theorem gf_X0_18 {j : Nat} (C : Ok 1 Z E cc nL RX0 ret h) (hj : j < 4) (hd : decode cc pc = .ok (.getfield 18, 3)) (kk : GT Z E nL fin (pc + 3) lv (.ref (zA Z j 3) :: rest) M N t) : GT Z E nL fin pc lv (.ref (zA Z j 0) :: rest) M N t :=
  r_get C us_X0 (ci := 0) rfl 6 (by decide) wd_122 (lyI C.z hj _ _ 0) rfl hd kk
theorem gf_X0_21 {j : Nat} (C : Ok 1 Z E cc nL RX0 ret h) (hj : j < 4) (hd : decode cc pc = .ok (.getfield 21, 3)) (kk : GT Z E nL fin (pc + 3) lv (.ref (zA Z j 4) :: rest) M N t) : GT Z E nL fin pc lv (.ref (zA Z j 0) :: rest) M N t :=
  r_get C us_X0 (ci := 0) rfl 7 (by decide) wd_124 (lyI C.z hj _ _ 0) rfl hd kk
theorem gf_X0_24 {j : Nat} (C : Ok 1 Z E cc nL RX0 ret h) (hj : j < 4) (hd : decode cc pc = .ok (.getfield 24, 3)) (kk : GT Z E nL fin (pc + 3) lv (.ref (zA Z j 5) :: rest) M N t) : GT Z E nL fin pc lv (.ref (zA Z j 0) :: rest) M N t :=
  r_get C us_X0 (ci := 0) rfl 8 (by decide) wd_126 (lyI C.z hj _ _ 0) rfl hd kk
theorem gf_X0_28 {j : Nat} {v : Int32} (C : Ok 1 Z E cc nL RX0 ret h) (hj : j < 4) (hd : decode cc pc = .ok (.getfield 28, 3)) (hv : M j 2 = v) (kk : GT Z E nL fin (pc + 3) lv (.int v :: rest) M N t) : GT Z E nL fin pc lv (.ref (zA Z j 0) :: rest) M N t := by
  subst hv; exact r_get C us_X0 (ci := 0) rfl 0 (by decide) wd_107 (lyI C.z hj _ _ 0) rfl hd kk
theorem pf_X0_28 {j : Nat} {v : Int32} (C : Ok 1 Z E cc nL RX0 ret h) (hj : j < 4) (hd : decode cc pc = .ok (.putfield 28, 3)) (hM : wM M j 2 v = M') (kk : GT Z E nL fin (pc + 3) lv rest M' N t) : GT Z E nL fin pc lv (.int v :: .ref (zA Z j 0) :: rest) M N t :=
  r_put C us_X0 tyX0 tyX0_ok nmX0 (ci := 0) rfl 0 (by decide) wd_107 rfl (ty := .int) rfl rfl rfl (Nat.le_of_ble_eq_true rfl) (lyI C.z hj _ _ 0) (lyI C.z hj _ _ 0) (fun p e hp q => by rw [lyI C.z hj] at q ⊢; rw [← q]; exact (hoO (by omega) p hp).symm) hM hd kk
theorem gf_X0_32 {j : Nat} {v : Int32} (C : Ok 1 Z E cc nL RX0 ret h) (hj : j < 4) (hd : decode cc pc = .ok (.getfield 32, 3)) (hv : M j 6 = v) (kk : GT Z E nL fin (pc + 3) lv (.int v :: rest) M N t) : GT Z E nL fin pc lv (.ref (zA Z j 0) :: rest) M N t := by
  subst hv; exact r_get C us_X0 (ci := 0) rfl 1 (by decide) wd_110 (lyI C.z hj _ _ 0) rfl hd kk
theorem pf_X0_32 {j : Nat} {v : Int32} (C : Ok 1 Z E cc nL RX0 ret h) (hj : j < 4) (hd : decode cc pc = .ok (.putfield 32, 3)) (hM : wM M j 6 v = M') (kk : GT Z E nL fin (pc + 3) lv rest M' N t) : GT Z E nL fin pc lv (.int v :: .ref (zA Z j 0) :: rest) M N t :=
  r_put C us_X0 tyX0 tyX0_ok nmX0 (ci := 0) rfl 1 (by decide) wd_110 rfl (ty := .int) rfl rfl rfl (Nat.le_of_ble_eq_true rfl) (lyI C.z hj _ _ 0) (lyI C.z hj _ _ 0) (fun p e hp q => by rw [lyI C.z hj] at q ⊢; rw [← q]; exact (hoO (by omega) p hp).symm) hM hd kk
theorem gf_X0_35 {j : Nat} {v : Int32} (C : Ok 1 Z E cc nL RX0 ret h) (hj : j < 4) (hd : decode cc pc = .ok (.getfield 35, 3)) (hv : M j 0 = v) (kk : GT Z E nL fin (pc + 3) lv (.int v :: rest) M N t) : GT Z E nL fin pc lv (.ref (zA Z j 0) :: rest) M N t := by
  subst hv; exact r_get C us_X0 (ci := 0) rfl 2 (by decide) wd_113 (lyI C.z hj _ _ 0) rfl hd kk
theorem pf_X0_35 {j : Nat} {v : Int32} (C : Ok 1 Z E cc nL RX0 ret h) (hj : j < 4) (hd : decode cc pc = .ok (.putfield 35, 3)) (hM : wM M j 0 v = M') (kk : GT Z E nL fin (pc + 3) lv rest M' N t) : GT Z E nL fin pc lv (.int v :: .ref (zA Z j 0) :: rest) M N t :=
  r_put C us_X0 tyX0 tyX0_ok nmX0 (ci := 0) rfl 2 (by decide) wd_113 rfl (ty := .int) rfl rfl rfl (Nat.le_of_ble_eq_true rfl) (lyI C.z hj _ _ 0) (lyI C.z hj _ _ 0) (fun p e hp q => by rw [lyI C.z hj] at q ⊢; rw [← q]; exact (hoO (by omega) p hp).symm) hM hd kk
theorem gf_X0_38 {j : Nat} {v : Int32} (C : Ok 1 Z E cc nL RX0 ret h) (hj : j < 4) (hd : decode cc pc = .ok (.getfield 38, 3)) (hv : M j 1 = v) (kk : GT Z E nL fin (pc + 3) lv (.int v :: rest) M N t) : GT Z E nL fin pc lv (.ref (zA Z j 0) :: rest) M N t := by
  subst hv; exact r_get C us_X0 (ci := 0) rfl 3 (by decide) wd_115 (lyI C.z hj _ _ 0) rfl hd kk
theorem pf_X0_38 {j : Nat} {v : Int32} (C : Ok 1 Z E cc nL RX0 ret h) (hj : j < 4) (hd : decode cc pc = .ok (.putfield 38, 3)) (hM : wM M j 1 v = M') (kk : GT Z E nL fin (pc + 3) lv rest M' N t) : GT Z E nL fin pc lv (.int v :: .ref (zA Z j 0) :: rest) M N t :=
  r_put C us_X0 tyX0 tyX0_ok nmX0 (ci := 0) rfl 3 (by decide) wd_115 rfl (ty := .int) rfl rfl rfl (Nat.le_of_ble_eq_true rfl) (lyI C.z hj _ _ 0) (lyI C.z hj _ _ 0) (fun p e hp q => by rw [lyI C.z hj] at q ⊢; rw [← q]; exact (hoO (by omega) p hp).symm) hM hd kk
theorem gf_X0_96 {g : Nat} {v : Int32} (C : Ok 1 Z E cc nL RX0 ret h) (hg : 20 ≤ g ∧ g < 24) (hd : decode cc pc = .ok (.getfield 96, 3)) (hv : M g 1 = v) (kk : GT Z E nL fin (pc + 3) lv (.int v :: rest) M N t) : GT Z E nL fin pc lv (.ref (zA Z g 0) :: rest) M N t := by
  subst hv; exact r_getN C us_X2 (ci := 2) rfl 2 (by decide) 16 rfl (lyS C.z hg _ _ 0) rfl hd kk
theorem gf_X0_101 {g : Nat} (C : Ok 1 Z E cc nL RX0 ret h) (hg : 20 ≤ g ∧ g < 24) (hd : decode cc pc = .ok (.getfield 101, 3)) (kk : GT Z E nL fin (pc + 3) lv (.ref (zA Z g 1) :: rest) M N t) : GT Z E nL fin pc lv (.ref (zA Z g 0) :: rest) M N t :=
  r_getN C us_X2 (ci := 2) rfl 0 (by decide) 15 rfl (lyS C.z hg _ _ 0) rfl hd kk
theorem gf_X1_12 (C : Ok 1 Z E cc nL RX1 ret h) (hd : decode cc pc = .ok (.getfield 12, 3)) (kk : GT Z E nL fin (pc + 3) lv (.ref (zA Z 3 0) :: rest) M N t) : GT Z E nL fin pc lv (.ref (zA Z 4 0) :: rest) M N t :=
  r_get C us_X1 (ci := 1) rfl 0 (by decide) wd_157 (lyO C.z (g := 4) (by decide) (by decide) _ _ 0) rfl hd kk
theorem gf_X1_22 {v : Int32} (C : Ok 1 Z E cc nL RX1 ret h) (hd : decode cc pc = .ok (.getfield 22, 3)) (hv : M 4 0 = v) (kk : GT Z E nL fin (pc + 3) lv (.int v :: rest) M N t) : GT Z E nL fin pc lv (.ref (zA Z 4 0) :: rest) M N t := by
  subst hv; exact r_get C us_X1 (ci := 1) rfl 1 (by decide) wd_159 (lyO C.z (g := 4) (by decide) (by decide) _ _ 0) rfl hd kk
theorem pf_X1_22 {v : Int32} (C : Ok 1 Z E cc nL RX1 ret h) (hd : decode cc pc = .ok (.putfield 22, 3)) (hM : wM M 4 0 v = M') (kk : GT Z E nL fin (pc + 3) lv rest M' N t) : GT Z E nL fin pc lv (.int v :: .ref (zA Z 4 0) :: rest) M N t :=
  r_put C us_X1 tyX1 tyX1_ok nmX1 (ci := 1) rfl 1 (by decide) wd_159 rfl (ty := .int) rfl rfl rfl (Nat.le_of_ble_eq_true rfl) (lyO C.z (g := 4) (by decide) (by decide) _ _ 0) (lyO C.z (g := 4) (by decide) (by decide) _ _ 0) (fun p e hp q => by
    rw [lyO C.z (by decide) (by decide)] at q ⊢; rw [← q]
    match p, hp with
    | 0, hp => exact absurd rfl hp
    | n + 1, _ => rfl) hM hd kk
theorem gf_X1_26 {v : Int32} (C : Ok 1 Z E cc nL RX1 ret h) (hd : decode cc pc = .ok (.getfield 26, 3)) (hv : M 4 2 = v) (kk : GT Z E nL fin (pc + 3) lv (.int v :: rest) M N t) : GT Z E nL fin pc lv (.ref (zA Z 4 0) :: rest) M N t := by
  subst hv; exact r_get C us_X1 (ci := 1) rfl 3 (by decide) wd_162 (lyO C.z (g := 4) (by decide) (by decide) _ _ 0) rfl hd kk
theorem pf_X1_26 {v : Int32} (C : Ok 1 Z E cc nL RX1 ret h) (hd : decode cc pc = .ok (.putfield 26, 3)) (hz : v = 0 ∨ v = 1) (hM : wM M 4 2 v = M') (kk : GT Z E nL fin (pc + 3) lv rest M' N t) : GT Z E nL fin pc lv (.int v :: .ref (zA Z 4 0) :: rest) M N t :=
  r_put C us_X1 tyX1 tyX1_ok nmX1 (ci := 1) rfl 3 (by decide) wd_162 rfl (ty := .boolean) rfl (by rcases hz with rfl | rfl <;> rfl) (by rcases hz with rfl | rfl <;> rfl) (Nat.le_of_ble_eq_true rfl) (lyO C.z (g := 4) (by decide) (by decide) _ _ 0) (lyO C.z (g := 4) (by decide) (by decide) _ _ 0) (fun p e hp q => by
    rw [lyO C.z (by decide) (by decide)] at q ⊢; rw [← q]
    match p, hp with
    | 0, hp => exact absurd rfl hp
    | n + 1, _ => rfl) hM hd kk
theorem gf_X1_34 {v : Int32} (C : Ok 1 Z E cc nL RX1 ret h) (hd : decode cc pc = .ok (.getfield 34, 3)) (hv : M 4 1 = v) (kk : GT Z E nL fin (pc + 3) lv (.int v :: rest) M N t) : GT Z E nL fin pc lv (.ref (zA Z 4 0) :: rest) M N t := by
  subst hv; exact r_get C us_X1 (ci := 1) rfl 2 (by decide) wd_160 (lyO C.z (g := 4) (by decide) (by decide) _ _ 0) rfl hd kk
theorem pf_X1_34 {v : Int32} (C : Ok 1 Z E cc nL RX1 ret h) (hd : decode cc pc = .ok (.putfield 34, 3)) (hM : wM M 4 1 v = M') (kk : GT Z E nL fin (pc + 3) lv rest M' N t) : GT Z E nL fin pc lv (.int v :: .ref (zA Z 4 0) :: rest) M N t :=
  r_put C us_X1 tyX1 tyX1_ok nmX1 (ci := 1) rfl 2 (by decide) wd_160 rfl (ty := .int) rfl rfl rfl (Nat.le_of_ble_eq_true rfl) (lyO C.z (g := 4) (by decide) (by decide) _ _ 0) (lyO C.z (g := 4) (by decide) (by decide) _ _ 0) (fun p e hp q => by
    rw [lyO C.z (by decide) (by decide)] at q ⊢; rw [← q]
    match p, hp with
    | 0, hp => exact absurd rfl hp
    | n + 1, _ => rfl) hM hd kk
theorem gf_X1_55 {j : Nat} {v : Int32} (C : Ok 1 Z E cc nL RX1 ret h) (hj : j < 4) (hd : decode cc pc = .ok (.getfield 55, 3)) (hv : M j 2 = v) (kk : GT Z E nL fin (pc + 3) lv (.int v :: rest) M N t) : GT Z E nL fin pc lv (.ref (zA Z j 0) :: rest) M N t := by
  subst hv; exact r_getN C us_X0 (ci := 0) rfl 0 (by decide) 17 rfl (lyI C.z hj _ _ 0) rfl hd kk
theorem gf_X2_9 {g : Nat} (C : Ok 1 Z E cc nL RX2 ret h) (hg : 20 ≤ g ∧ g < 24) (hd : decode cc pc = .ok (.getfield 9, 3)) (kk : GT Z E nL fin (pc + 3) lv (.ref (zA Z g 1) :: rest) M N t) : GT Z E nL fin pc lv (.ref (zA Z g 0) :: rest) M N t :=
  r_get C us_X2 (ci := 2) rfl 0 (by decide) wd_208 (lyS C.z hg _ _ 0) rfl hd kk
theorem gf_X2_15 {g : Nat} {v : Int32} (C : Ok 1 Z E cc nL RX2 ret h) (hg : 20 ≤ g ∧ g < 24) (hd : decode cc pc = .ok (.getfield 15, 3)) (hv : M g 0 = v) (kk : GT Z E nL fin (pc + 3) lv (.int v :: rest) M N t) : GT Z E nL fin pc lv (.ref (zA Z g 0) :: rest) M N t := by
  subst hv; exact r_get C us_X2 (ci := 2) rfl 1 (by decide) wd_211 (lyS C.z hg _ _ 0) rfl hd kk
theorem pf_X2_15 {g : Nat} {v : Int32} (C : Ok 1 Z E cc nL RX2 ret h) (hg : 20 ≤ g ∧ g < 24) (hd : decode cc pc = .ok (.putfield 15, 3)) (hM : wM M g 0 v = M') (kk : GT Z E nL fin (pc + 3) lv rest M' N t) : GT Z E nL fin pc lv (.int v :: .ref (zA Z g 0) :: rest) M N t :=
  r_put C us_X2 tyX2 tyX2_ok nmX2 (ci := 2) rfl 1 (by decide) wd_211 rfl (ty := .int) rfl rfl rfl (Nat.le_of_ble_eq_true rfl) (lyS C.z hg _ _ 0) (lyS C.z hg _ _ 0) (fun p e hp q => by
    rw [lyS C.z hg] at q ⊢; rw [← q]
    match p, hp with
    | 0, hp => exact absurd rfl hp
    | 1, _ => rfl
    | n + 2, _ => rfl) hM hd kk
theorem gf_X2_19 {g : Nat} {v : Int32} (C : Ok 1 Z E cc nL RX2 ret h) (hg : 20 ≤ g ∧ g < 24) (hd : decode cc pc = .ok (.getfield 19, 3)) (hv : M g 1 = v) (kk : GT Z E nL fin (pc + 3) lv (.int v :: rest) M N t) : GT Z E nL fin pc lv (.ref (zA Z g 0) :: rest) M N t := by
  subst hv; exact r_get C us_X2 (ci := 2) rfl 2 (by decide) wd_213 (lyS C.z hg _ _ 0) rfl hd kk
theorem pf_X2_19 {g : Nat} {v : Int32} (C : Ok 1 Z E cc nL RX2 ret h) (hg : 20 ≤ g ∧ g < 24) (hd : decode cc pc = .ok (.putfield 19, 3)) (hM : wM M g 1 v = M') (kk : GT Z E nL fin (pc + 3) lv rest M' N t) : GT Z E nL fin pc lv (.int v :: .ref (zA Z g 0) :: rest) M N t :=
  r_put C us_X2 tyX2 tyX2_ok nmX2 (ci := 2) rfl 2 (by decide) wd_213 rfl (ty := .int) rfl rfl rfl (Nat.le_of_ble_eq_true rfl) (lyS C.z hg _ _ 0) (lyS C.z hg _ _ 0) (fun p e hp q => by
    rw [lyS C.z hg] at q ⊢; rw [← q]
    match p, hp with
    | 0, hp => exact absurd rfl hp
    | 1, _ => rfl
    | n + 2, _ => rfl) hM hd kk
theorem gf_X3_9 (C : Ok 1 Z E cc nL RX3 ret h) (hd : decode cc pc = .ok (.getfield 9, 3)) (kk : GT Z E nL fin (pc + 3) lv (.ref (zA Z 5 1) :: rest) M N t) : GT Z E nL fin pc lv (.ref (zA Z 5 0) :: rest) M N t :=
  r_get C us_X3 (ci := 3) rfl 0 (by decide) wd_178 (lyO C.z (g := 5) (by decide) (by decide) _ _ 0) rfl hd kk
theorem gf_X3_15 {v : Int32} (C : Ok 1 Z E cc nL RX3 ret h) (hd : decode cc pc = .ok (.getfield 15, 3)) (hv : M 5 0 = v) (kk : GT Z E nL fin (pc + 3) lv (.int v :: rest) M N t) : GT Z E nL fin pc lv (.ref (zA Z 5 0) :: rest) M N t := by
  subst hv; exact r_get C us_X3 (ci := 3) rfl 1 (by decide) wd_179 (lyO C.z (g := 5) (by decide) (by decide) _ _ 0) rfl hd kk
theorem pf_X3_15 {v : Int32} (C : Ok 1 Z E cc nL RX3 ret h) (hd : decode cc pc = .ok (.putfield 15, 3)) (hM : wM M 5 0 v = M') (kk : GT Z E nL fin (pc + 3) lv rest M' N t) : GT Z E nL fin pc lv (.int v :: .ref (zA Z 5 0) :: rest) M N t :=
  r_put C us_X3 tyX3 tyX3_ok nmX3 (ci := 3) rfl 1 (by decide) wd_179 rfl (ty := .int) rfl rfl rfl (Nat.le_of_ble_eq_true rfl) (lyO C.z (g := 5) (by decide) (by decide) _ _ 0) (lyO C.z (g := 5) (by decide) (by decide) _ _ 0) (fun p e hp q => by
    rw [lyO C.z (by decide) (by decide)] at q ⊢; rw [← q]
    match p, hp with
    | 0, hp => exact absurd rfl hp
    | 1, _ => simp only [layO]; rw [show (fun i => upd (M 5) 0 v (10 + i)) = (fun i => M 5 (10 + i)) from funext fun i => upd_ne (by omega)]
    | n + 2, _ => rfl) hM hd kk
theorem gf_X3_19 {v : Int32} (C : Ok 1 Z E cc nL RX3 ret h) (hd : decode cc pc = .ok (.getfield 19, 3)) (hv : M 5 3 = v) (kk : GT Z E nL fin (pc + 3) lv (.int v :: rest) M N t) : GT Z E nL fin pc lv (.ref (zA Z 5 0) :: rest) M N t := by
  subst hv; exact r_get C us_X3 (ci := 3) rfl 4 (by decide) wd_183 (lyO C.z (g := 5) (by decide) (by decide) _ _ 0) rfl hd kk
theorem pf_X3_19 {v : Int32} (C : Ok 1 Z E cc nL RX3 ret h) (hd : decode cc pc = .ok (.putfield 19, 3)) (hM : wM M 5 3 v = M') (kk : GT Z E nL fin (pc + 3) lv rest M' N t) : GT Z E nL fin pc lv (.int v :: .ref (zA Z 5 0) :: rest) M N t :=
  r_put C us_X3 tyX3 tyX3_ok nmX3 (ci := 3) rfl 4 (by decide) wd_183 rfl (ty := .int) rfl rfl rfl (Nat.le_of_ble_eq_true rfl) (lyO C.z (g := 5) (by decide) (by decide) _ _ 0) (lyO C.z (g := 5) (by decide) (by decide) _ _ 0) (fun p e hp q => by
    rw [lyO C.z (by decide) (by decide)] at q ⊢; rw [← q]
    match p, hp with
    | 0, hp => exact absurd rfl hp
    | 1, _ => simp only [layO]; rw [show (fun i => upd (M 5) 3 v (10 + i)) = (fun i => M 5 (10 + i)) from funext fun i => upd_ne (by omega)]
    | n + 2, _ => rfl) hM hd kk
theorem gf_X3_29 {v : Int32} (C : Ok 1 Z E cc nL RX3 ret h) (hd : decode cc pc = .ok (.getfield 29, 3)) (hv : M 5 1 = v) (kk : GT Z E nL fin (pc + 3) lv (.int v :: rest) M N t) : GT Z E nL fin pc lv (.ref (zA Z 5 0) :: rest) M N t := by
  subst hv; exact r_get C us_X3 (ci := 3) rfl 2 (by decide) wd_181 (lyO C.z (g := 5) (by decide) (by decide) _ _ 0) rfl hd kk
theorem pf_X3_29 {v : Int32} (C : Ok 1 Z E cc nL RX3 ret h) (hd : decode cc pc = .ok (.putfield 29, 3)) (hM : wM M 5 1 v = M') (kk : GT Z E nL fin (pc + 3) lv rest M' N t) : GT Z E nL fin pc lv (.int v :: .ref (zA Z 5 0) :: rest) M N t :=
  r_put C us_X3 tyX3 tyX3_ok nmX3 (ci := 3) rfl 2 (by decide) wd_181 rfl (ty := .int) rfl rfl rfl (Nat.le_of_ble_eq_true rfl) (lyO C.z (g := 5) (by decide) (by decide) _ _ 0) (lyO C.z (g := 5) (by decide) (by decide) _ _ 0) (fun p e hp q => by
    rw [lyO C.z (by decide) (by decide)] at q ⊢; rw [← q]
    match p, hp with
    | 0, hp => exact absurd rfl hp
    | 1, _ => simp only [layO]; rw [show (fun i => upd (M 5) 1 v (10 + i)) = (fun i => M 5 (10 + i)) from funext fun i => upd_ne (by omega)]
    | n + 2, _ => rfl) hM hd kk
theorem gf_X3_32 {v : Int32} (C : Ok 1 Z E cc nL RX3 ret h) (hd : decode cc pc = .ok (.getfield 32, 3)) (hv : M 5 2 = v) (kk : GT Z E nL fin (pc + 3) lv (.int v :: rest) M N t) : GT Z E nL fin pc lv (.ref (zA Z 5 0) :: rest) M N t := by
  subst hv; exact r_get C us_X3 (ci := 3) rfl 3 (by decide) wd_182 (lyO C.z (g := 5) (by decide) (by decide) _ _ 0) rfl hd kk
theorem pf_X3_32 {v : Int32} (C : Ok 1 Z E cc nL RX3 ret h) (hd : decode cc pc = .ok (.putfield 32, 3)) (hM : wM M 5 2 v = M') (kk : GT Z E nL fin (pc + 3) lv rest M' N t) : GT Z E nL fin pc lv (.int v :: .ref (zA Z 5 0) :: rest) M N t :=
  r_put C us_X3 tyX3 tyX3_ok nmX3 (ci := 3) rfl 3 (by decide) wd_182 rfl (ty := .int) rfl rfl rfl (Nat.le_of_ble_eq_true rfl) (lyO C.z (g := 5) (by decide) (by decide) _ _ 0) (lyO C.z (g := 5) (by decide) (by decide) _ _ 0) (fun p e hp q => by
    rw [lyO C.z (by decide) (by decide)] at q ⊢; rw [← q]
    match p, hp with
    | 0, hp => exact absurd rfl hp
    | 1, _ => simp only [layO]; rw [show (fun i => upd (M 5) 2 v (10 + i)) = (fun i => M 5 (10 + i)) from funext fun i => upd_ne (by omega)]
    | n + 2, _ => rfl) hM hd kk
theorem gf_X3_97 {v : Int32} (C : Ok 1 Z E cc nL RX3 ret h) (hd : decode cc pc = .ok (.getfield 97, 3)) (hv : M 5 5 = v) (kk : GT Z E nL fin (pc + 3) lv (.int v :: rest) M N t) : GT Z E nL fin pc lv (.ref (zA Z 5 0) :: rest) M N t := by
  subst hv; exact r_get C us_X3 (ci := 3) rfl 6 (by decide) wd_185 (lyO C.z (g := 5) (by decide) (by decide) _ _ 0) rfl hd kk
theorem pf_X3_97 {v : Int32} (C : Ok 1 Z E cc nL RX3 ret h) (hd : decode cc pc = .ok (.putfield 97, 3)) (hM : wM M 5 5 v = M') (kk : GT Z E nL fin (pc + 3) lv rest M' N t) : GT Z E nL fin pc lv (.int v :: .ref (zA Z 5 0) :: rest) M N t :=
  r_put C us_X3 tyX3 tyX3_ok nmX3 (ci := 3) rfl 6 (by decide) wd_185 rfl (ty := .int) rfl rfl rfl (Nat.le_of_ble_eq_true rfl) (lyO C.z (g := 5) (by decide) (by decide) _ _ 0) (lyO C.z (g := 5) (by decide) (by decide) _ _ 0) (fun p e hp q => by
    rw [lyO C.z (by decide) (by decide)] at q ⊢; rw [← q]
    match p, hp with
    | 0, hp => exact absurd rfl hp
    | 1, _ => simp only [layO]; rw [show (fun i => upd (M 5) 5 v (10 + i)) = (fun i => M 5 (10 + i)) from funext fun i => upd_ne (by omega)]
    | n + 2, _ => rfl) hM hd kk
theorem gf_X3_110 {j : Nat} {v : Int32} (C : Ok 1 Z E cc nL RX3 ret h) (hj : j < 4) (hd : decode cc pc = .ok (.getfield 110, 3)) (hv : M j 6 = v) (kk : GT Z E nL fin (pc + 3) lv (.int v :: rest) M N t) : GT Z E nL fin pc lv (.ref (zA Z j 0) :: rest) M N t := by
  subst hv; exact r_getN C us_X0 (ci := 0) rfl 1 (by decide) 18 rfl (lyI C.z hj _ _ 0) rfl hd kk
theorem pf_X3_110 {j : Nat} {v : Int32} (C : Ok 1 Z E cc nL RX3 ret h) (hj : j < 4) (hd : decode cc pc = .ok (.putfield 110, 3)) (hM : wM M j 6 v = M') (kk : GT Z E nL fin (pc + 3) lv rest M' N t) : GT Z E nL fin pc lv (.int v :: .ref (zA Z j 0) :: rest) M N t :=
  r_putN C us_X0 tyX0 tyX0_ok nmX0 (ci := 0) rfl 1 (by decide) 18 rfl rfl (ty := .int) rfl rfl rfl (Nat.le_of_ble_eq_true rfl) (lyI C.z hj _ _ 0) (lyI C.z hj _ _ 0) (fun p e hp q => by rw [lyI C.z hj] at q ⊢; rw [← q]; exact (hoO (by omega) p hp).symm) hM hd kk
theorem gf_X3_113 {j : Nat} (C : Ok 1 Z E cc nL RX3 ret h) (hj : j < 4) (hd : decode cc pc = .ok (.getfield 113, 3)) (kk : GT Z E nL fin (pc + 3) lv (.ref (zA Z j 1) :: rest) M N t) : GT Z E nL fin pc lv (.ref (zA Z j 0) :: rest) M N t :=
  r_getN C us_X0 (ci := 0) rfl 4 (by decide) 19 rfl (lyI C.z hj _ _ 0) rfl hd kk
theorem gf_X3_116 {v : Int32} (C : Ok 1 Z E cc nL RX3 ret h) (hd : decode cc pc = .ok (.getfield 116, 3)) (hv : M 5 4 = v) (kk : GT Z E nL fin (pc + 3) lv (.int v :: rest) M N t) : GT Z E nL fin pc lv (.ref (zA Z 5 0) :: rest) M N t := by
  subst hv; exact r_get C us_X3 (ci := 3) rfl 5 (by decide) wd_184 (lyO C.z (g := 5) (by decide) (by decide) _ _ 0) rfl hd kk
theorem pf_X3_116 {v : Int32} (C : Ok 1 Z E cc nL RX3 ret h) (hd : decode cc pc = .ok (.putfield 116, 3)) (hM : wM M 5 4 v = M') (kk : GT Z E nL fin (pc + 3) lv rest M' N t) : GT Z E nL fin pc lv (.int v :: .ref (zA Z 5 0) :: rest) M N t :=
  r_put C us_X3 tyX3 tyX3_ok nmX3 (ci := 3) rfl 5 (by decide) wd_184 rfl (ty := .int) rfl rfl rfl (Nat.le_of_ble_eq_true rfl) (lyO C.z (g := 5) (by decide) (by decide) _ _ 0) (lyO C.z (g := 5) (by decide) (by decide) _ _ 0) (fun p e hp q => by
    rw [lyO C.z (by decide) (by decide)] at q ⊢; rw [← q]
    match p, hp with
    | 0, hp => exact absurd rfl hp
    | 1, _ => simp only [layO]; rw [show (fun i => upd (M 5) 4 v (10 + i)) = (fun i => M 5 (10 + i)) from funext fun i => upd_ne (by omega)]
    | n + 2, _ => rfl) hM hd kk
theorem gf_X4_12 (C : Ok 1 Z E cc nL RX4 ret h) (hd : decode cc pc = .ok (.getfield 12, 3)) (kk : GT Z E nL fin (pc + 3) lv (.ref (zA Z 0 0) :: rest) M N t) : GT Z E nL fin pc lv (.ref (zA Z 8 0) :: rest) M N t :=
  r_get C us_X4 (ci := 4) rfl 0 (by decide) wd_224 (lyO C.z (g := 8) (by decide) (by decide) _ _ 0) rfl hd kk
theorem gf_X4_16 (C : Ok 1 Z E cc nL RX4 ret h) (hd : decode cc pc = .ok (.getfield 16, 3)) (kk : GT Z E nL fin (pc + 3) lv (.ref (zA Z 1 0) :: rest) M N t) : GT Z E nL fin pc lv (.ref (zA Z 8 0) :: rest) M N t :=
  r_get C us_X4 (ci := 4) rfl 1 (by decide) wd_225 (lyO C.z (g := 8) (by decide) (by decide) _ _ 0) rfl hd kk
theorem gf_X4_19 (C : Ok 1 Z E cc nL RX4 ret h) (hd : decode cc pc = .ok (.getfield 19, 3)) (kk : GT Z E nL fin (pc + 3) lv (.ref (zA Z 2 0) :: rest) M N t) : GT Z E nL fin pc lv (.ref (zA Z 8 0) :: rest) M N t :=
  r_get C us_X4 (ci := 4) rfl 2 (by decide) wd_226 (lyO C.z (g := 8) (by decide) (by decide) _ _ 0) rfl hd kk
theorem gf_X4_25 (C : Ok 1 Z E cc nL RX4 ret h) (hd : decode cc pc = .ok (.getfield 25, 3)) (kk : GT Z E nL fin (pc + 3) lv (.ref (zA Z 4 0) :: rest) M N t) : GT Z E nL fin pc lv (.ref (zA Z 8 0) :: rest) M N t :=
  r_get C us_X4 (ci := 4) rfl 3 (by decide) wd_227 (lyO C.z (g := 8) (by decide) (by decide) _ _ 0) rfl hd kk
theorem gf_X4_32 (C : Ok 1 Z E cc nL RX4 ret h) (hd : decode cc pc = .ok (.getfield 32, 3)) (kk : GT Z E nL fin (pc + 3) lv (.ref (zA Z 5 0) :: rest) M N t) : GT Z E nL fin pc lv (.ref (zA Z 8 0) :: rest) M N t :=
  r_get C us_X4 (ci := 4) rfl 4 (by decide) wd_228 (lyO C.z (g := 8) (by decide) (by decide) _ _ 0) rfl hd kk
theorem gf_X4_38 (C : Ok 1 Z E cc nL RX4 ret h) (hd : decode cc pc = .ok (.getfield 38, 3)) (kk : GT Z E nL fin (pc + 3) lv (.ref (zA Z 6 0) :: rest) M N t) : GT Z E nL fin pc lv (.ref (zA Z 8 0) :: rest) M N t :=
  r_get C us_X4 (ci := 4) rfl 5 (by decide) wd_229 (lyO C.z (g := 8) (by decide) (by decide) _ _ 0) rfl hd kk
theorem gf_X4_43 (C : Ok 1 Z E cc nL RX4 ret h) (hd : decode cc pc = .ok (.getfield 43, 3)) (kk : GT Z E nL fin (pc + 3) lv (.ref (zA Z 7 0) :: rest) M N t) : GT Z E nL fin pc lv (.ref (zA Z 8 0) :: rest) M N t :=
  r_get C us_X4 (ci := 4) rfl 6 (by decide) wd_230 (lyO C.z (g := 8) (by decide) (by decide) _ _ 0) rfl hd kk
theorem gf_X4_47 {v : Int32} (C : Ok 1 Z E cc nL RX4 ret h) (hd : decode cc pc = .ok (.getfield 47, 3)) (hv : M 8 0 = v) (kk : GT Z E nL fin (pc + 3) lv (.int v :: rest) M N t) : GT Z E nL fin pc lv (.ref (zA Z 8 0) :: rest) M N t := by
  subst hv; exact r_get C us_X4 (ci := 4) rfl 7 (by decide) wd_231 (lyO C.z (g := 8) (by decide) (by decide) _ _ 0) rfl hd kk
theorem pf_X4_47 {v : Int32} (C : Ok 1 Z E cc nL RX4 ret h) (hd : decode cc pc = .ok (.putfield 47, 3)) (hz : v = 0 ∨ v = 1) (hM : wM M 8 0 v = M') (kk : GT Z E nL fin (pc + 3) lv rest M' N t) : GT Z E nL fin pc lv (.int v :: .ref (zA Z 8 0) :: rest) M N t :=
  r_put C us_X4 tyX4 tyX4_ok nmX4 (ci := 4) rfl 7 (by decide) wd_231 rfl (ty := .boolean) rfl (by rcases hz with rfl | rfl <;> rfl) (by rcases hz with rfl | rfl <;> rfl) (Nat.le_of_ble_eq_true rfl) (lyO C.z (g := 8) (by decide) (by decide) _ _ 0) (lyO C.z (g := 8) (by decide) (by decide) _ _ 0) (fun p e hp q => by
    rw [lyO C.z (by decide) (by decide)] at q ⊢; rw [← q]
    match p, hp with
    | 0, hp => exact absurd rfl hp
    | n + 1, _ => rfl) hM hd kk
theorem gf_X4_73 {j : Nat} (C : Ok 1 Z E cc nL RX4 ret h) (hj : j < 4) (hd : decode cc pc = .ok (.getfield 73, 3)) (kk : GT Z E nL fin (pc + 3) lv (.ref (zA Z j 1) :: rest) M N t) : GT Z E nL fin pc lv (.ref (zA Z j 0) :: rest) M N t :=
  r_getN C us_X0 (ci := 0) rfl 4 (by decide) 13 rfl (lyI C.z hj _ _ 0) rfl hd kk
theorem gf_X4_80 {j : Nat} {v : Int32} (C : Ok 1 Z E cc nL RX4 ret h) (hj : j < 4) (hd : decode cc pc = .ok (.getfield 80, 3)) (hv : M j 6 = v) (kk : GT Z E nL fin (pc + 3) lv (.int v :: rest) M N t) : GT Z E nL fin pc lv (.ref (zA Z j 0) :: rest) M N t := by
  subst hv; exact r_getN C us_X0 (ci := 0) rfl 1 (by decide) 14 rfl (lyI C.z hj _ _ 0) rfl hd kk
theorem pf_X4_80 {j : Nat} {v : Int32} (C : Ok 1 Z E cc nL RX4 ret h) (hj : j < 4) (hd : decode cc pc = .ok (.putfield 80, 3)) (hM : wM M j 6 v = M') (kk : GT Z E nL fin (pc + 3) lv rest M' N t) : GT Z E nL fin pc lv (.int v :: .ref (zA Z j 0) :: rest) M N t :=
  r_putN C us_X0 tyX0 tyX0_ok nmX0 (ci := 0) rfl 1 (by decide) 14 rfl rfl (ty := .int) rfl rfl rfl (Nat.le_of_ble_eq_true rfl) (lyI C.z hj _ _ 0) (lyI C.z hj _ _ 0) (fun p e hp q => by rw [lyI C.z hj] at q ⊢; rw [← q]; exact (hoO (by omega) p hp).symm) hM hd kk
theorem gf_X4_104 {j : Nat} (C : Ok 1 Z E cc nL RX4 ret h) (hj : j < 4) (hd : decode cc pc = .ok (.getfield 104, 3)) (kk : GT Z E nL fin (pc + 3) lv (.ref (zA Z j 2) :: rest) M N t) : GT Z E nL fin pc lv (.ref (zA Z j 0) :: rest) M N t :=
  r_getN C us_X0 (ci := 0) rfl 5 (by decide) 0 rfl (lyI C.z hj _ _ 0) rfl hd kk
theorem gf_X4_107 {j : Nat} (C : Ok 1 Z E cc nL RX4 ret h) (hj : j < 4) (hd : decode cc pc = .ok (.getfield 107, 3)) (kk : GT Z E nL fin (pc + 3) lv (.ref (zA Z j 3) :: rest) M N t) : GT Z E nL fin pc lv (.ref (zA Z j 0) :: rest) M N t :=
  r_getN C us_X0 (ci := 0) rfl 6 (by decide) 1 rfl (lyI C.z hj _ _ 0) rfl hd kk
theorem gf_X4_110 {j : Nat} (C : Ok 1 Z E cc nL RX4 ret h) (hj : j < 4) (hd : decode cc pc = .ok (.getfield 110, 3)) (kk : GT Z E nL fin (pc + 3) lv (.ref (zA Z j 4) :: rest) M N t) : GT Z E nL fin pc lv (.ref (zA Z j 0) :: rest) M N t :=
  r_getN C us_X0 (ci := 0) rfl 7 (by decide) 2 rfl (lyI C.z hj _ _ 0) rfl hd kk
theorem gf_X4_113 {j : Nat} (C : Ok 1 Z E cc nL RX4 ret h) (hj : j < 4) (hd : decode cc pc = .ok (.getfield 113, 3)) (kk : GT Z E nL fin (pc + 3) lv (.ref (zA Z j 5) :: rest) M N t) : GT Z E nL fin pc lv (.ref (zA Z j 0) :: rest) M N t :=
  r_getN C us_X0 (ci := 0) rfl 8 (by decide) 3 rfl (lyI C.z hj _ _ 0) rfl hd kk
theorem gf_X4_136 {j : Nat} {v : Int32} (C : Ok 1 Z E cc nL RX4 ret h) (hj : j < 4) (hd : decode cc pc = .ok (.getfield 136, 3)) (hv : M j 0 = v) (kk : GT Z E nL fin (pc + 3) lv (.int v :: rest) M N t) : GT Z E nL fin pc lv (.ref (zA Z j 0) :: rest) M N t := by
  subst hv; exact r_getN C us_X0 (ci := 0) rfl 2 (by decide) 4 rfl (lyI C.z hj _ _ 0) rfl hd kk
theorem gf_X4_196 {j : Nat} {v : Int32} (C : Ok 1 Z E cc nL RX4 ret h) (hj : j < 4) (hd : decode cc pc = .ok (.getfield 196, 3)) (hv : M j 2 = v) (kk : GT Z E nL fin (pc + 3) lv (.int v :: rest) M N t) : GT Z E nL fin pc lv (.ref (zA Z j 0) :: rest) M N t := by
  subst hv; exact r_getN C us_X0 (ci := 0) rfl 0 (by decide) 5 rfl (lyI C.z hj _ _ 0) rfl hd kk
theorem gf_X4_210 (C : Ok 1 Z E cc nL RX4 ret h) (hd : decode cc pc = .ok (.getfield 210, 3)) (kk : GT Z E nL fin (pc + 3) lv (.ref (zA Z 3 0) :: rest) M N t) : GT Z E nL fin pc lv (.ref (zA Z 4 0) :: rest) M N t :=
  r_getN C us_X1 (ci := 1) rfl 0 (by decide) 6 rfl (lyO C.z (g := 4) (by decide) (by decide) _ _ 0) rfl hd kk
theorem gf_X4_220 {v : Int32} (C : Ok 1 Z E cc nL RX4 ret h) (hd : decode cc pc = .ok (.getfield 220, 3)) (hv : M 5 0 = v) (kk : GT Z E nL fin (pc + 3) lv (.int v :: rest) M N t) : GT Z E nL fin pc lv (.ref (zA Z 5 0) :: rest) M N t := by
  subst hv; exact r_getN C us_X3 (ci := 3) rfl 1 (by decide) 7 rfl (lyO C.z (g := 5) (by decide) (by decide) _ _ 0) rfl hd kk
theorem pf_X4_220 {v : Int32} (C : Ok 1 Z E cc nL RX4 ret h) (hd : decode cc pc = .ok (.putfield 220, 3)) (hM : wM M 5 0 v = M') (kk : GT Z E nL fin (pc + 3) lv rest M' N t) : GT Z E nL fin pc lv (.int v :: .ref (zA Z 5 0) :: rest) M N t :=
  r_putN C us_X3 tyX3 tyX3_ok nmX3 (ci := 3) rfl 1 (by decide) 7 rfl rfl (ty := .int) rfl rfl rfl (Nat.le_of_ble_eq_true rfl) (lyO C.z (g := 5) (by decide) (by decide) _ _ 0) (lyO C.z (g := 5) (by decide) (by decide) _ _ 0) (fun p e hp q => by
    rw [lyO C.z (by decide) (by decide)] at q ⊢; rw [← q]
    match p, hp with
    | 0, hp => exact absurd rfl hp
    | 1, _ => simp only [layO]; rw [show (fun i => upd (M 5) 0 v (10 + i)) = (fun i => M 5 (10 + i)) from funext fun i => upd_ne (by omega)]
    | n + 2, _ => rfl) hM hd kk
theorem gf_X4_234 {g : Nat} {v : Int32} (C : Ok 1 Z E cc nL RX4 ret h) (hg : 20 ≤ g ∧ g < 24) (hd : decode cc pc = .ok (.getfield 234, 3)) (hv : M g 1 = v) (kk : GT Z E nL fin (pc + 3) lv (.int v :: rest) M N t) : GT Z E nL fin pc lv (.ref (zA Z g 0) :: rest) M N t := by
  subst hv; exact r_getN C us_X2 (ci := 2) rfl 2 (by decide) 8 rfl (lyS C.z hg _ _ 0) rfl hd kk
theorem gf_X4_238 {g : Nat} (C : Ok 1 Z E cc nL RX4 ret h) (hg : 20 ≤ g ∧ g < 24) (hd : decode cc pc = .ok (.getfield 238, 3)) (kk : GT Z E nL fin (pc + 3) lv (.ref (zA Z g 1) :: rest) M N t) : GT Z E nL fin pc lv (.ref (zA Z g 0) :: rest) M N t :=
  r_getN C us_X2 (ci := 2) rfl 0 (by decide) 9 rfl (lyS C.z hg _ _ 0) rfl hd kk
theorem gf_X4_249 {g : Nat} {v : Int32} (C : Ok 1 Z E cc nL RX4 ret h) (hg : 20 ≤ g ∧ g < 24) (hd : decode cc pc = .ok (.getfield 249, 3)) (hv : M g 0 = v) (kk : GT Z E nL fin (pc + 3) lv (.int v :: rest) M N t) : GT Z E nL fin pc lv (.ref (zA Z g 0) :: rest) M N t := by
  subst hv; exact r_getN C us_X2 (ci := 2) rfl 1 (by decide) 10 rfl (lyS C.z hg _ _ 0) rfl hd kk
theorem gf_X4_272 {j : Nat} {v : Int32} (C : Ok 1 Z E cc nL RX4 ret h) (hj : j < 4) (hd : decode cc pc = .ok (.getfield 272, 3)) (hv : M j 1 = v) (kk : GT Z E nL fin (pc + 3) lv (.int v :: rest) M N t) : GT Z E nL fin pc lv (.ref (zA Z j 0) :: rest) M N t := by
  subst hv; exact r_getN C us_X0 (ci := 0) rfl 3 (by decide) 11 rfl (lyI C.z hj _ _ 0) rfl hd kk
theorem gf_X4_279 {v : Int32} (C : Ok 1 Z E cc nL RX4 ret h) (hd : decode cc pc = .ok (.getfield 279, 3)) (hv : M 4 1 = v) (kk : GT Z E nL fin (pc + 3) lv (.int v :: rest) M N t) : GT Z E nL fin pc lv (.ref (zA Z 4 0) :: rest) M N t := by
  subst hv; exact r_getN C us_X1 (ci := 1) rfl 2 (by decide) 12 rfl (lyO C.z (g := 4) (by decide) (by decide) _ _ 0) rfl hd kk
theorem gf_X5_7 (C : Ok 2 Z E cc nL RX5 ret h) (hd : decode cc pc = .ok (.getfield 7, 3)) (kk : GT Z E nL fin (pc + 3) lv (.ref (zA Z 0 0) :: rest) M N t) : GT Z E nL fin pc lv (.ref (zA Z 6 0) :: rest) M N t :=
  r_get C us_X5 (ci := 5) rfl 0 (by decide) wd_796 (lyM C.z 6 _ _ 0) rfl hd kk
theorem gf_X5_13 (C : Ok 2 Z E cc nL RX5 ret h) (hd : decode cc pc = .ok (.getfield 13, 3)) (kk : GT Z E nL fin (pc + 3) lv (.ref (zA Z 1 0) :: rest) M N t) : GT Z E nL fin pc lv (.ref (zA Z 6 0) :: rest) M N t :=
  r_get C us_X5 (ci := 5) rfl 1 (by decide) wd_797 (lyM C.z 6 _ _ 0) rfl hd kk
theorem gf_X5_16 (C : Ok 2 Z E cc nL RX5 ret h) (hd : decode cc pc = .ok (.getfield 16, 3)) (kk : GT Z E nL fin (pc + 3) lv (.ref (zA Z 2 0) :: rest) M N t) : GT Z E nL fin pc lv (.ref (zA Z 6 0) :: rest) M N t :=
  r_get C us_X5 (ci := 5) rfl 2 (by decide) wd_798 (lyM C.z 6 _ _ 0) rfl hd kk
theorem gf_X5_19 (C : Ok 2 Z E cc nL RX5 ret h) (hd : decode cc pc = .ok (.getfield 19, 3)) (kk : GT Z E nL fin (pc + 3) lv (.ref (zA Z 3 0) :: rest) M N t) : GT Z E nL fin pc lv (.ref (zA Z 6 0) :: rest) M N t :=
  r_get C us_X5 (ci := 5) rfl 3 (by decide) wd_799 (lyM C.z 6 _ _ 0) rfl hd kk
theorem gf_X5_22 (C : Ok 2 Z E cc nL RX5 ret h) (hd : decode cc pc = .ok (.getfield 22, 3)) (kk : GT Z E nL fin (pc + 3) lv (.ref (zA Z 4 0) :: rest) M N t) : GT Z E nL fin pc lv (.ref (zA Z 6 0) :: rest) M N t :=
  r_get C us_X5 (ci := 5) rfl 4 (by decide) wd_800 (lyM C.z 6 _ _ 0) rfl hd kk
theorem gf_X5_25 (C : Ok 2 Z E cc nL RX5 ret h) (hd : decode cc pc = .ok (.getfield 25, 3)) (kk : GT Z E nL fin (pc + 3) lv (.ref (zA Z 5 0) :: rest) M N t) : GT Z E nL fin pc lv (.ref (zA Z 6 0) :: rest) M N t :=
  r_get C us_X5 (ci := 5) rfl 7 (by decide) wd_803 (lyM C.z 6 _ _ 0) rfl hd kk
theorem gf_X5_28 (C : Ok 2 Z E cc nL RX5 ret h) (hd : decode cc pc = .ok (.getfield 28, 3)) (kk : GT Z E nL fin (pc + 3) lv (.ref (zA Z 7 0) :: rest) M N t) : GT Z E nL fin pc lv (.ref (zA Z 6 0) :: rest) M N t :=
  r_get C us_X5 (ci := 5) rfl 13 (by decide) wd_809 (lyM C.z 6 _ _ 0) rfl hd kk
theorem gf_X5_31 (C : Ok 2 Z E cc nL RX5 ret h) (hd : decode cc pc = .ok (.getfield 31, 3)) (kk : GT Z E nL fin (pc + 3) lv (.ref (zA Z 8 0) :: rest) M N t) : GT Z E nL fin pc lv (.ref (zA Z 6 0) :: rest) M N t :=
  r_get C us_X5 (ci := 5) rfl 14 (by decide) wd_810 (lyM C.z 6 _ _ 0) rfl hd kk
theorem gf_X5_34 (C : Ok 2 Z E cc nL RX5 ret h) (hd : decode cc pc = .ok (.getfield 34, 3)) (kk : GT Z E nL fin (pc + 3) lv (.ref (zA Z 9 0) :: rest) M N t) : GT Z E nL fin pc lv (.ref (zA Z 6 0) :: rest) M N t :=
  r_get C us_X5 (ci := 5) rfl 15 (by decide) wd_811 (lyM C.z 6 _ _ 0) rfl hd kk
theorem gf_X5_38 (C : Ok 2 Z E cc nL RX5 ret h) (hd : decode cc pc = .ok (.getfield 38, 3)) (kk : GT Z E nL fin (pc + 3) lv (.ref (zA Z 10 0) :: rest) M N t) : GT Z E nL fin pc lv (.ref (zA Z 6 0) :: rest) M N t :=
  r_get C us_X5 (ci := 5) rfl 16 (by decide) wd_812 (lyM C.z 6 _ _ 0) rfl hd kk
theorem gf_X5_194 {v : Int32} (C : Ok 2 Z E cc nL RX5 ret h) (hd : decode cc pc = .ok (.getfield 194, 3)) (hv : M 6 1 = v) (kk : GT Z E nL fin (pc + 3) lv (.int v :: rest) M N t) : GT Z E nL fin pc lv (.ref (zA Z 6 0) :: rest) M N t := by
  subst hv; exact r_get C us_X5 (ci := 5) rfl 6 (by decide) wd_802 (lyM C.z 6 _ _ 0) rfl hd kk
theorem pf_X5_194 {v : Int32} (C : Ok 2 Z E cc nL RX5 ret h) (hd : decode cc pc = .ok (.putfield 194, 3)) (hM : wM M 6 1 v = M') (kk : GT Z E nL fin (pc + 3) lv rest M' N t) : GT Z E nL fin pc lv (.int v :: .ref (zA Z 6 0) :: rest) M N t :=
  r_put C us_X5 tyX5 tyX5_ok nmX5 (ci := 5) rfl 6 (by decide) wd_802 rfl (ty := .int) rfl rfl rfl (Nat.le_of_ble_eq_true rfl) (lyM C.z 6 _ _ 0) (lyM C.z 6 _ _ 0) (fun p e hp q => by
    rw [lyM C.z] at q ⊢; rw [← q]
    match p, hp with
    | 0, hp => exact absurd rfl hp
    | n + 1, _ => rfl) hM hd kk
theorem gf_X5_214 {v : Int32} (C : Ok 2 Z E cc nL RX5 ret h) (hd : decode cc pc = .ok (.getfield 214, 3)) (hv : M 6 2 = v) (kk : GT Z E nL fin (pc + 3) lv (.int v :: rest) M N t) : GT Z E nL fin pc lv (.ref (zA Z 6 0) :: rest) M N t := by
  subst hv; exact r_get C us_X5 (ci := 5) rfl 8 (by decide) wd_804 (lyM C.z 6 _ _ 0) rfl hd kk
theorem pf_X5_214 {v : Int32} (C : Ok 2 Z E cc nL RX5 ret h) (hd : decode cc pc = .ok (.putfield 214, 3)) (hM : wM M 6 2 v = M') (kk : GT Z E nL fin (pc + 3) lv rest M' N t) : GT Z E nL fin pc lv (.int v :: .ref (zA Z 6 0) :: rest) M N t :=
  r_put C us_X5 tyX5 tyX5_ok nmX5 (ci := 5) rfl 8 (by decide) wd_804 rfl (ty := .int) rfl rfl rfl (Nat.le_of_ble_eq_true rfl) (lyM C.z 6 _ _ 0) (lyM C.z 6 _ _ 0) (fun p e hp q => by
    rw [lyM C.z] at q ⊢; rw [← q]
    match p, hp with
    | 0, hp => exact absurd rfl hp
    | n + 1, _ => rfl) hM hd kk
theorem gf_X5_223 {v : Int32} (C : Ok 2 Z E cc nL RX5 ret h) (hd : decode cc pc = .ok (.getfield 223, 3)) (hv : M 6 4 = v) (kk : GT Z E nL fin (pc + 3) lv (.int v :: rest) M N t) : GT Z E nL fin pc lv (.ref (zA Z 6 0) :: rest) M N t := by
  subst hv; exact r_get C us_X5 (ci := 5) rfl 10 (by decide) wd_806 (lyM C.z 6 _ _ 0) rfl hd kk
theorem pf_X5_223 {v : Int32} (C : Ok 2 Z E cc nL RX5 ret h) (hd : decode cc pc = .ok (.putfield 223, 3)) (hM : wM M 6 4 v = M') (kk : GT Z E nL fin (pc + 3) lv rest M' N t) : GT Z E nL fin pc lv (.int v :: .ref (zA Z 6 0) :: rest) M N t :=
  r_put C us_X5 tyX5 tyX5_ok nmX5 (ci := 5) rfl 10 (by decide) wd_806 rfl (ty := .int) rfl rfl rfl (Nat.le_of_ble_eq_true rfl) (lyM C.z 6 _ _ 0) (lyM C.z 6 _ _ 0) (fun p e hp q => by
    rw [lyM C.z] at q ⊢; rw [← q]
    match p, hp with
    | 0, hp => exact absurd rfl hp
    | n + 1, _ => rfl) hM hd kk
theorem gf_X5_226 {v : Int32} (C : Ok 2 Z E cc nL RX5 ret h) (hd : decode cc pc = .ok (.getfield 226, 3)) (hv : M 6 3 = v) (kk : GT Z E nL fin (pc + 3) lv (.int v :: rest) M N t) : GT Z E nL fin pc lv (.ref (zA Z 6 0) :: rest) M N t := by
  subst hv; exact r_get C us_X5 (ci := 5) rfl 9 (by decide) wd_805 (lyM C.z 6 _ _ 0) rfl hd kk
theorem pf_X5_226 {v : Int32} (C : Ok 2 Z E cc nL RX5 ret h) (hd : decode cc pc = .ok (.putfield 226, 3)) (hM : wM M 6 3 v = M') (kk : GT Z E nL fin (pc + 3) lv rest M' N t) : GT Z E nL fin pc lv (.int v :: .ref (zA Z 6 0) :: rest) M N t :=
  r_put C us_X5 tyX5 tyX5_ok nmX5 (ci := 5) rfl 9 (by decide) wd_805 rfl (ty := .int) rfl rfl rfl (Nat.le_of_ble_eq_true rfl) (lyM C.z 6 _ _ 0) (lyM C.z 6 _ _ 0) (fun p e hp q => by
    rw [lyM C.z] at q ⊢; rw [← q]
    match p, hp with
    | 0, hp => exact absurd rfl hp
    | n + 1, _ => rfl) hM hd kk
theorem gf_X5_238 {v : Int32} (C : Ok 2 Z E cc nL RX5 ret h) (hd : decode cc pc = .ok (.getfield 238, 3)) (hv : M 6 6 = v) (kk : GT Z E nL fin (pc + 3) lv (.int v :: rest) M N t) : GT Z E nL fin pc lv (.ref (zA Z 6 0) :: rest) M N t := by
  subst hv; exact r_get C us_X5 (ci := 5) rfl 12 (by decide) wd_808 (lyM C.z 6 _ _ 0) rfl hd kk
theorem pf_X5_238 {v : Int32} (C : Ok 2 Z E cc nL RX5 ret h) (hd : decode cc pc = .ok (.putfield 238, 3)) (hz : v = 0 ∨ v = 1) (hM : wM M 6 6 v = M') (kk : GT Z E nL fin (pc + 3) lv rest M' N t) : GT Z E nL fin pc lv (.int v :: .ref (zA Z 6 0) :: rest) M N t :=
  r_put C us_X5 tyX5 tyX5_ok nmX5 (ci := 5) rfl 12 (by decide) wd_808 rfl (ty := .boolean) rfl (by rcases hz with rfl | rfl <;> rfl) (by rcases hz with rfl | rfl <;> rfl) (Nat.le_of_ble_eq_true rfl) (lyM C.z 6 _ _ 0) (lyM C.z 6 _ _ 0) (fun p e hp q => by
    rw [lyM C.z] at q ⊢; rw [← q]
    match p, hp with
    | 0, hp => exact absurd rfl hp
    | n + 1, _ => rfl) hM hd kk
theorem gf_X5_249 {v : Int32} (C : Ok 2 Z E cc nL RX5 ret h) (hd : decode cc pc = .ok (.getfield 249, 3)) (hv : M 6 5 = v) (kk : GT Z E nL fin (pc + 3) lv (.int v :: rest) M N t) : GT Z E nL fin pc lv (.ref (zA Z 6 0) :: rest) M N t := by
  subst hv; exact r_get C us_X5 (ci := 5) rfl 11 (by decide) wd_807 (lyM C.z 6 _ _ 0) rfl hd kk
theorem pf_X5_249 {v : Int32} (C : Ok 2 Z E cc nL RX5 ret h) (hd : decode cc pc = .ok (.putfield 249, 3)) (hM : wM M 6 5 v = M') (kk : GT Z E nL fin (pc + 3) lv rest M' N t) : GT Z E nL fin pc lv (.int v :: .ref (zA Z 6 0) :: rest) M N t :=
  r_put C us_X5 tyX5 tyX5_ok nmX5 (ci := 5) rfl 11 (by decide) wd_807 rfl (ty := .int) rfl rfl rfl (Nat.le_of_ble_eq_true rfl) (lyM C.z 6 _ _ 0) (lyM C.z 6 _ _ 0) (fun p e hp q => by
    rw [lyM C.z] at q ⊢; rw [← q]
    match p, hp with
    | 0, hp => exact absurd rfl hp
    | n + 1, _ => rfl) hM hd kk
theorem gf_X5_341 {v : Int32} (C : Ok 2 Z E cc nL RX5 ret h) (hd : decode cc pc = .ok (.getfield 341, 3)) (hv : M 6 0 = v) (kk : GT Z E nL fin (pc + 3) lv (.int v :: rest) M N t) : GT Z E nL fin pc lv (.ref (zA Z 6 0) :: rest) M N t := by
  subst hv; exact r_get C us_X5 (ci := 5) rfl 5 (by decide) wd_801 (lyM C.z 6 _ _ 0) rfl hd kk
theorem pf_X5_341 {v : Int32} (C : Ok 2 Z E cc nL RX5 ret h) (hd : decode cc pc = .ok (.putfield 341, 3)) (hz : v = 0 ∨ v = 1) (hM : wM M 6 0 v = M') (kk : GT Z E nL fin (pc + 3) lv rest M' N t) : GT Z E nL fin pc lv (.int v :: .ref (zA Z 6 0) :: rest) M N t :=
  r_put C us_X5 tyX5 tyX5_ok nmX5 (ci := 5) rfl 5 (by decide) wd_801 rfl (ty := .boolean) rfl (by rcases hz with rfl | rfl <;> rfl) (by rcases hz with rfl | rfl <;> rfl) (Nat.le_of_ble_eq_true rfl) (lyM C.z 6 _ _ 0) (lyM C.z 6 _ _ 0) (fun p e hp q => by
    rw [lyM C.z] at q ⊢; rw [← q]
    match p, hp with
    | 0, hp => exact absurd rfl hp
    | n + 1, _ => rfl) hM hd kk
end FROWS
end
section
theorem lk_X0_45 : LkS RX0 45 yJ6_bitCount_0f7a4 cJ6_bitCount_0f7a4 1 (some .int) 1 := ⟨List.forall_mem_cons.mpr ⟨wd_406, List.forall_mem_cons.mpr ⟨wd_407, List.forall_mem_cons.mpr ⟨wd_86, List.forall_mem_cons.mpr ⟨wd_408, fun _ h => absurd h List.not_mem_nil⟩⟩⟩⟩, ⟨by decide, by decide, by decide +kernel⟩, by decide⟩
theorem lk_X0_51 : LkV RX0 51 yX0_clock cX0_clock 1 (some .int) 0 := ⟨List.forall_mem_cons.mpr ⟨wd_327, List.forall_mem_cons.mpr ⟨wd_328, List.forall_mem_cons.mpr ⟨wd_329, List.forall_mem_cons.mpr ⟨wd_81, List.forall_mem_cons.mpr ⟨wd_330, fun _ h => absurd h List.not_mem_nil⟩⟩⟩⟩⟩, ⟨by decide, by decide, by decide +kernel⟩, by decide⟩
theorem lk_X0_55 : LkV RX0 55 yX0_aimOfLaw cX0_aimOfLaw 2 (some .int) 1 := ⟨List.forall_mem_cons.mpr ⟨wd_331, List.forall_mem_cons.mpr ⟨wd_333, List.forall_mem_cons.mpr ⟨wd_1, List.forall_mem_cons.mpr ⟨wd_81, List.forall_mem_cons.mpr ⟨wd_334, fun _ h => absurd h List.not_mem_nil⟩⟩⟩⟩⟩, ⟨by decide, by decide, by decide +kernel⟩, by decide⟩
theorem lk_X0_58 : LkV RX0 58 yX0_rainsAt cX0_rainsAt 2 (some .boolean) 1 := ⟨List.forall_mem_cons.mpr ⟨wd_335, List.forall_mem_cons.mpr ⟨wd_336, List.forall_mem_cons.mpr ⟨wd_337, List.forall_mem_cons.mpr ⟨wd_81, List.forall_mem_cons.mpr ⟨wd_338, fun _ h => absurd h List.not_mem_nil⟩⟩⟩⟩⟩, ⟨by decide, by decide, by decide +kernel⟩, by decide⟩
theorem lk_X0_62 : LkV RX0 62 yX0_goAnHour cX0_goAnHour 2 none 0 := ⟨List.forall_mem_cons.mpr ⟨wd_383, List.forall_mem_cons.mpr ⟨wd_384, List.forall_mem_cons.mpr ⟨wd_385, List.forall_mem_cons.mpr ⟨wd_81, List.forall_mem_cons.mpr ⟨wd_386, fun _ h => absurd h List.not_mem_nil⟩⟩⟩⟩⟩, ⟨by decide, by decide, by decide +kernel⟩, by decide⟩
theorem lk_X0_65 : LkV RX0 65 yX0_walk cX0_walk 5 none 1 := ⟨List.forall_mem_cons.mpr ⟨wd_387, List.forall_mem_cons.mpr ⟨wd_389, List.forall_mem_cons.mpr ⟨wd_3, List.forall_mem_cons.mpr ⟨wd_81, List.forall_mem_cons.mpr ⟨wd_390, fun _ h => absurd h List.not_mem_nil⟩⟩⟩⟩⟩, ⟨by decide, by decide, by decide +kernel⟩, by decide⟩
theorem lk_X0_69 : LkV RX0 69 yX0_meetAll cX0_meetAll 3 none 0 := ⟨List.forall_mem_cons.mpr ⟨wd_398, List.forall_mem_cons.mpr ⟨wd_400, List.forall_mem_cons.mpr ⟨wd_5, List.forall_mem_cons.mpr ⟨wd_81, List.forall_mem_cons.mpr ⟨wd_401, fun _ h => absurd h List.not_mem_nil⟩⟩⟩⟩⟩, ⟨by decide, by decide, by decide +kernel⟩, by decide⟩
theorem lk_X0_72 : LkV RX0 72 yX0_aimOf cX0_aimOf 3 (some .int) 1 := ⟨List.forall_mem_cons.mpr ⟨wd_391, List.forall_mem_cons.mpr ⟨wd_324, List.forall_mem_cons.mpr ⟨wd_325, List.forall_mem_cons.mpr ⟨wd_81, List.forall_mem_cons.mpr ⟨wd_326, fun _ h => absurd h List.not_mem_nil⟩⟩⟩⟩⟩, ⟨by decide, by decide, by decide +kernel⟩, by decide⟩
theorem lk_X0_75 : LkV RX0 75 yX0_paceOf cX0_paceOf 2 (some .int) 1 := ⟨List.forall_mem_cons.mpr ⟨wd_392, List.forall_mem_cons.mpr ⟨wd_340, List.forall_mem_cons.mpr ⟨wd_341, List.forall_mem_cons.mpr ⟨wd_81, List.forall_mem_cons.mpr ⟨wd_342, fun _ h => absurd h List.not_mem_nil⟩⟩⟩⟩⟩, ⟨by decide, by decide, by decide +kernel⟩, by decide⟩
theorem lk_X0_78 : LkV RX0 78 yX0_stepFrom cX0_stepFrom 6 (some .int) 2 := ⟨List.forall_mem_cons.mpr ⟨wd_393, List.forall_mem_cons.mpr ⟨wd_395, List.forall_mem_cons.mpr ⟨wd_4, List.forall_mem_cons.mpr ⟨wd_81, List.forall_mem_cons.mpr ⟨wd_396, fun _ h => absurd h List.not_mem_nil⟩⟩⟩⟩⟩, ⟨by decide, by decide, by decide +kernel⟩, by decide⟩
theorem lk_X0_82 : LkV RX0 82 yX0_isFenced cX0_isFenced 2 (some .boolean) 1 := ⟨List.forall_mem_cons.mpr ⟨wd_397, List.forall_mem_cons.mpr ⟨wd_268, List.forall_mem_cons.mpr ⟨wd_269, List.forall_mem_cons.mpr ⟨wd_81, List.forall_mem_cons.mpr ⟨wd_270, fun _ h => absurd h List.not_mem_nil⟩⟩⟩⟩⟩, ⟨by decide, by decide, by decide +kernel⟩, by decide⟩
theorem lk_X0_85 : LkV RX0 85 yX0_meetTwo cX0_meetTwo 4 none 2 := ⟨List.forall_mem_cons.mpr ⟨wd_402, List.forall_mem_cons.mpr ⟨wd_404, List.forall_mem_cons.mpr ⟨wd_6, List.forall_mem_cons.mpr ⟨wd_81, List.forall_mem_cons.mpr ⟨wd_405, fun _ h => absurd h List.not_mem_nil⟩⟩⟩⟩⟩, ⟨by decide, by decide, by decide +kernel⟩, by decide⟩
theorem lk_X0_89 : LkV RX0 89 yX0_handsOver cX0_handsOver 4 none 3 := ⟨List.forall_mem_cons.mpr ⟨wd_412, List.forall_mem_cons.mpr ⟨wd_372, List.forall_mem_cons.mpr ⟨wd_373, List.forall_mem_cons.mpr ⟨wd_81, List.forall_mem_cons.mpr ⟨wd_374, fun _ h => absurd h List.not_mem_nil⟩⟩⟩⟩⟩, ⟨by decide, by decide, by decide +kernel⟩, by decide⟩
theorem lk_X0_93 : LkV RX0 93 yX0_goAlone cX0_goAlone 2 none 1 := ⟨List.forall_mem_cons.mpr ⟨wd_451, List.forall_mem_cons.mpr ⟨wd_452, List.forall_mem_cons.mpr ⟨wd_453, List.forall_mem_cons.mpr ⟨wd_81, List.forall_mem_cons.mpr ⟨wd_454, fun _ h => absurd h List.not_mem_nil⟩⟩⟩⟩⟩, ⟨by decide, by decide, by decide +kernel⟩, by decide⟩
theorem lk_X1_18 : LkV RX1 18 yX0_becomes cX0_becomes 3 none 1 := ⟨List.forall_mem_cons.mpr ⟨wd_487, List.forall_mem_cons.mpr ⟨wd_440, List.forall_mem_cons.mpr ⟨wd_441, List.forall_mem_cons.mpr ⟨wd_81, List.forall_mem_cons.mpr ⟨wd_442, fun _ h => absurd h List.not_mem_nil⟩⟩⟩⟩⟩, ⟨by decide, by decide, by decide +kernel⟩, by decide⟩
theorem lk_X1_30 : LkV RX1 30 yX1_cellsWith cX1_cellsWith 2 (some .int) 1 := ⟨List.forall_mem_cons.mpr ⟨wd_492, List.forall_mem_cons.mpr ⟨wd_494, List.forall_mem_cons.mpr ⟨wd_9, List.forall_mem_cons.mpr ⟨wd_82, List.forall_mem_cons.mpr ⟨wd_495, fun _ h => absurd h List.not_mem_nil⟩⟩⟩⟩⟩, ⟨by decide, by decide, by decide +kernel⟩, by decide⟩
theorem lk_X1_37 : LkV RX1 37 yX0_goAnHour cX0_goAnHour 2 none 0 := ⟨List.forall_mem_cons.mpr ⟨wd_498, List.forall_mem_cons.mpr ⟨wd_384, List.forall_mem_cons.mpr ⟨wd_385, List.forall_mem_cons.mpr ⟨wd_81, List.forall_mem_cons.mpr ⟨wd_386, fun _ h => absurd h List.not_mem_nil⟩⟩⟩⟩⟩, ⟨by decide, by decide, by decide +kernel⟩, by decide⟩
theorem lk_X1_40 : LkV RX1 40 yX1_onwards cX1_onwards 6 (some .int) 1 := ⟨List.forall_mem_cons.mpr ⟨wd_499, List.forall_mem_cons.mpr ⟨wd_501, List.forall_mem_cons.mpr ⟨wd_10, List.forall_mem_cons.mpr ⟨wd_82, List.forall_mem_cons.mpr ⟨wd_502, fun _ h => absurd h List.not_mem_nil⟩⟩⟩⟩⟩, ⟨by decide, by decide, by decide +kernel⟩, by decide⟩
theorem lk_X1_43 : LkV RX1 43 yX0_subjectsIn cX0_subjectsIn 4 (some .int) 1 := ⟨List.forall_mem_cons.mpr ⟨wd_538, List.forall_mem_cons.mpr ⟨wd_296, List.forall_mem_cons.mpr ⟨wd_297, List.forall_mem_cons.mpr ⟨wd_81, List.forall_mem_cons.mpr ⟨wd_298, fun _ h => absurd h List.not_mem_nil⟩⟩⟩⟩⟩, ⟨by decide, by decide, by decide +kernel⟩, by decide⟩
theorem lk_X1_46 : LkV RX1 46 yX0_tortoisesWith cX0_tortoisesWith 4 (some .int) 1 := ⟨List.forall_mem_cons.mpr ⟨wd_496, List.forall_mem_cons.mpr ⟨wd_472, List.forall_mem_cons.mpr ⟨wd_473, List.forall_mem_cons.mpr ⟨wd_81, List.forall_mem_cons.mpr ⟨wd_474, fun _ h => absurd h List.not_mem_nil⟩⟩⟩⟩⟩, ⟨by decide, by decide, by decide +kernel⟩, by decide⟩
theorem lk_X1_49 : LkV RX1 49 yX0_cellsOf cX0_cellsOf 4 (some .int) 1 := ⟨List.forall_mem_cons.mpr ⟨wd_497, List.forall_mem_cons.mpr ⟨wd_429, List.forall_mem_cons.mpr ⟨wd_430, List.forall_mem_cons.mpr ⟨wd_81, List.forall_mem_cons.mpr ⟨wd_431, fun _ h => absurd h List.not_mem_nil⟩⟩⟩⟩⟩, ⟨by decide, by decide, by decide +kernel⟩, by decide⟩
theorem lk_X3_22 : LkV RX3 22 yX3_nextToken cX3_nextToken 2 none 0 := ⟨List.forall_mem_cons.mpr ⟨wd_595, List.forall_mem_cons.mpr ⟨wd_597, List.forall_mem_cons.mpr ⟨wd_15, List.forall_mem_cons.mpr ⟨wd_83, List.forall_mem_cons.mpr ⟨wd_598, fun _ h => absurd h List.not_mem_nil⟩⟩⟩⟩⟩, ⟨by decide, by decide, by decide +kernel⟩, by decide⟩
theorem lk_X3_25 : LkV RX3 25 yX3_tellsItem cX3_tellsItem 3 (some .boolean) 1 := ⟨List.forall_mem_cons.mpr ⟨wd_608, List.forall_mem_cons.mpr ⟨wd_610, List.forall_mem_cons.mpr ⟨wd_16, List.forall_mem_cons.mpr ⟨wd_83, List.forall_mem_cons.mpr ⟨wd_611, fun _ h => absurd h List.not_mem_nil⟩⟩⟩⟩⟩, ⟨by decide, by decide, by decide +kernel⟩, by decide⟩
theorem lk_X3_35 : LkV RX3 35 yX3_kindTold cX3_kindTold 2 (some .int) 0 := ⟨List.forall_mem_cons.mpr ⟨wd_612, List.forall_mem_cons.mpr ⟨wd_614, List.forall_mem_cons.mpr ⟨wd_17, List.forall_mem_cons.mpr ⟨wd_83, List.forall_mem_cons.mpr ⟨wd_615, fun _ h => absurd h List.not_mem_nil⟩⟩⟩⟩⟩, ⟨by decide, by decide, by decide +kernel⟩, by decide⟩
theorem lk_X3_39 : LkV RX3 39 yX3_tellsTortoise cX3_tellsTortoise 6 (some .boolean) 2 := ⟨List.forall_mem_cons.mpr ⟨wd_677, List.forall_mem_cons.mpr ⟨wd_679, List.forall_mem_cons.mpr ⟨wd_19, List.forall_mem_cons.mpr ⟨wd_83, List.forall_mem_cons.mpr ⟨wd_680, fun _ h => absurd h List.not_mem_nil⟩⟩⟩⟩⟩, ⟨by decide, by decide, by decide +kernel⟩, by decide⟩
theorem lk_X3_45 : LkV RX3 45 yX3_isWord cX3_isWord 3 (some .boolean) 1 := ⟨List.forall_mem_cons.mpr ⟨wd_625, List.forall_mem_cons.mpr ⟨wd_627, List.forall_mem_cons.mpr ⟨wd_18, List.forall_mem_cons.mpr ⟨wd_83, List.forall_mem_cons.mpr ⟨wd_628, fun _ h => absurd h List.not_mem_nil⟩⟩⟩⟩⟩, ⟨by decide, by decide, by decide +kernel⟩, by decide⟩
theorem lk_X3_49 : LkV RX3 49 yX3_tellsFence cX3_tellsFence 3 (some .boolean) 2 := ⟨List.forall_mem_cons.mpr ⟨wd_689, List.forall_mem_cons.mpr ⟨wd_691, List.forall_mem_cons.mpr ⟨wd_21, List.forall_mem_cons.mpr ⟨wd_83, List.forall_mem_cons.mpr ⟨wd_692, fun _ h => absurd h List.not_mem_nil⟩⟩⟩⟩⟩, ⟨by decide, by decide, by decide +kernel⟩, by decide⟩
theorem lk_X3_57 : LkV RX3 57 yX3_tellsRain cX3_tellsRain 4 (some .boolean) 1 := ⟨List.forall_mem_cons.mpr ⟨wd_696, List.forall_mem_cons.mpr ⟨wd_698, List.forall_mem_cons.mpr ⟨wd_22, List.forall_mem_cons.mpr ⟨wd_83, List.forall_mem_cons.mpr ⟨wd_699, fun _ h => absurd h List.not_mem_nil⟩⟩⟩⟩⟩, ⟨by decide, by decide, by decide +kernel⟩, by decide⟩
theorem lk_X3_62 : LkV RX3 62 yX3_tellsSpot cX3_tellsSpot 3 (some .boolean) 2 := ⟨List.forall_mem_cons.mpr ⟨wd_702, List.forall_mem_cons.mpr ⟨wd_704, List.forall_mem_cons.mpr ⟨wd_23, List.forall_mem_cons.mpr ⟨wd_83, List.forall_mem_cons.mpr ⟨wd_705, fun _ h => absurd h List.not_mem_nil⟩⟩⟩⟩⟩, ⟨by decide, by decide, by decide +kernel⟩, by decide⟩
theorem lk_X3_69 : LkS RX3 69 yX3_nameOf cX3_nameOf 1 (some (.object "java/lang/String")) 1 := ⟨List.forall_mem_cons.mpr ⟨wd_616, List.forall_mem_cons.mpr ⟨wd_617, List.forall_mem_cons.mpr ⟨wd_83, List.forall_mem_cons.mpr ⟨wd_618, fun _ h => absurd h List.not_mem_nil⟩⟩⟩⟩, ⟨by decide, by decide, by decide +kernel⟩, by decide⟩
theorem lk_X3_85 : LkV RX3 85 yX0_isFull cX0_isFull 1 (some .boolean) 0 := ⟨List.forall_mem_cons.mpr ⟨wd_681, List.forall_mem_cons.mpr ⟨wd_307, List.forall_mem_cons.mpr ⟨wd_308, List.forall_mem_cons.mpr ⟨wd_81, List.forall_mem_cons.mpr ⟨wd_309, fun _ h => absurd h List.not_mem_nil⟩⟩⟩⟩⟩, ⟨by decide, by decide, by decide +kernel⟩, by decide⟩
theorem lk_X3_93 : LkV RX3 93 yX3_takesNumber cX3_takesNumber 3 (some .boolean) 2 := ⟨List.forall_mem_cons.mpr ⟨wd_683, List.forall_mem_cons.mpr ⟨wd_685, List.forall_mem_cons.mpr ⟨wd_20, List.forall_mem_cons.mpr ⟨wd_83, List.forall_mem_cons.mpr ⟨wd_686, fun _ h => absurd h List.not_mem_nil⟩⟩⟩⟩⟩, ⟨by decide, by decide, by decide +kernel⟩, by decide⟩
theorem lk_X3_100 : LkV RX3 100 yX0_comes cX0_comes 5 (some .int) 3 := ⟨List.forall_mem_cons.mpr ⟨wd_687, List.forall_mem_cons.mpr ⟨wd_311, List.forall_mem_cons.mpr ⟨wd_312, List.forall_mem_cons.mpr ⟨wd_81, List.forall_mem_cons.mpr ⟨wd_313, fun _ h => absurd h List.not_mem_nil⟩⟩⟩⟩⟩, ⟨by decide, by decide, by decide +kernel⟩, by decide⟩
theorem lk_X3_104 : LkV RX3 104 yX0_fences cX0_fences 3 none 2 := ⟨List.forall_mem_cons.mpr ⟨wd_693, List.forall_mem_cons.mpr ⟨wd_272, List.forall_mem_cons.mpr ⟨wd_273, List.forall_mem_cons.mpr ⟨wd_81, List.forall_mem_cons.mpr ⟨wd_274, fun _ h => absurd h List.not_mem_nil⟩⟩⟩⟩⟩, ⟨by decide, by decide, by decide +kernel⟩, by decide⟩
theorem lk_X3_119 : LkV RX3 119 yJ0_length_8abf5 cJ0_length_8abf5 1 (some .int) 0 := ⟨List.forall_mem_cons.mpr ⟨wd_629, List.forall_mem_cons.mpr ⟨wd_630, List.forall_mem_cons.mpr ⟨wd_631, List.forall_mem_cons.mpr ⟨wd_88, List.forall_mem_cons.mpr ⟨wd_632, fun _ h => absurd h List.not_mem_nil⟩⟩⟩⟩⟩, ⟨by decide, by decide, by decide +kernel⟩, by decide⟩
theorem lk_X3_123 : LkV RX3 123 yJ0_charAt_5068e cJ0_charAt_5068e 2 (some .char) 1 := ⟨List.forall_mem_cons.mpr ⟨wd_639, List.forall_mem_cons.mpr ⟨wd_640, List.forall_mem_cons.mpr ⟨wd_641, List.forall_mem_cons.mpr ⟨wd_88, List.forall_mem_cons.mpr ⟨wd_642, fun _ h => absurd h List.not_mem_nil⟩⟩⟩⟩⟩, ⟨by decide, by decide, by decide +kernel⟩, by decide⟩
theorem lk_X3_127 : LkS RX3 127 yX3_isLetter cX3_isLetter 1 (some .boolean) 1 := ⟨List.forall_mem_cons.mpr ⟨wd_599, List.forall_mem_cons.mpr ⟨wd_600, List.forall_mem_cons.mpr ⟨wd_83, List.forall_mem_cons.mpr ⟨wd_601, fun _ h => absurd h List.not_mem_nil⟩⟩⟩⟩, ⟨by decide, by decide, by decide +kernel⟩, by decide⟩
theorem lk_X3_131 : LkS RX3 131 yX3_isDigit cX3_isDigit 1 (some .boolean) 1 := ⟨List.forall_mem_cons.mpr ⟨wd_602, List.forall_mem_cons.mpr ⟨wd_603, List.forall_mem_cons.mpr ⟨wd_83, List.forall_mem_cons.mpr ⟨wd_604, fun _ h => absurd h List.not_mem_nil⟩⟩⟩⟩, ⟨by decide, by decide, by decide +kernel⟩, by decide⟩
theorem lk_X4_51 : LkS RX4 51 yX4_isCell cX4_isCell 1 (some .boolean) 1 := ⟨List.forall_mem_cons.mpr ⟨wd_253, List.forall_mem_cons.mpr ⟨wd_254, List.forall_mem_cons.mpr ⟨wd_80, List.forall_mem_cons.mpr ⟨wd_255, fun _ h => absurd h List.not_mem_nil⟩⟩⟩⟩, ⟨by decide, by decide, by decide +kernel⟩, by decide⟩
theorem lk_X4_55 : LkS RX4 55 yX4_isFlag cX4_isFlag 1 (some .boolean) 1 := ⟨List.forall_mem_cons.mpr ⟨wd_259, List.forall_mem_cons.mpr ⟨wd_260, List.forall_mem_cons.mpr ⟨wd_80, List.forall_mem_cons.mpr ⟨wd_261, fun _ h => absurd h List.not_mem_nil⟩⟩⟩⟩, ⟨by decide, by decide, by decide +kernel⟩, by decide⟩
theorem lk_X4_58 : LkV RX4 58 yX4_finding cX4_finding 2 (some .int) 1 := ⟨List.forall_mem_cons.mpr ⟨wd_262, List.forall_mem_cons.mpr ⟨wd_264, List.forall_mem_cons.mpr ⟨wd_0, List.forall_mem_cons.mpr ⟨wd_80, List.forall_mem_cons.mpr ⟨wd_265, fun _ h => absurd h List.not_mem_nil⟩⟩⟩⟩⟩, ⟨by decide, by decide, by decide +kernel⟩, by decide⟩
theorem lk_X4_62 : LkV RX4 62 yX0_isFenced cX0_isFenced 2 (some .boolean) 1 := ⟨List.forall_mem_cons.mpr ⟨wd_267, List.forall_mem_cons.mpr ⟨wd_268, List.forall_mem_cons.mpr ⟨wd_269, List.forall_mem_cons.mpr ⟨wd_81, List.forall_mem_cons.mpr ⟨wd_270, fun _ h => absurd h List.not_mem_nil⟩⟩⟩⟩⟩, ⟨by decide, by decide, by decide +kernel⟩, by decide⟩
theorem lk_X4_65 : LkV RX4 65 yX0_fences cX0_fences 3 none 2 := ⟨List.forall_mem_cons.mpr ⟨wd_271, List.forall_mem_cons.mpr ⟨wd_272, List.forall_mem_cons.mpr ⟨wd_273, List.forall_mem_cons.mpr ⟨wd_81, List.forall_mem_cons.mpr ⟨wd_274, fun _ h => absurd h List.not_mem_nil⟩⟩⟩⟩⟩, ⟨by decide, by decide, by decide +kernel⟩, by decide⟩
theorem lk_X4_69 : LkS RX4 69 yX4_isBelow cX4_isBelow 2 (some .boolean) 2 := ⟨List.forall_mem_cons.mpr ⟨wd_256, List.forall_mem_cons.mpr ⟨wd_257, List.forall_mem_cons.mpr ⟨wd_80, List.forall_mem_cons.mpr ⟨wd_258, fun _ h => absurd h List.not_mem_nil⟩⟩⟩⟩, ⟨by decide, by decide, by decide +kernel⟩, by decide⟩
theorem lk_X4_77 : LkS RX4 77 yX4_isSetOf cX4_isSetOf 2 (some .boolean) 2 := ⟨List.forall_mem_cons.mpr ⟨wd_284, List.forall_mem_cons.mpr ⟨wd_285, List.forall_mem_cons.mpr ⟨wd_80, List.forall_mem_cons.mpr ⟨wd_286, fun _ h => absurd h List.not_mem_nil⟩⟩⟩⟩, ⟨by decide, by decide, by decide +kernel⟩, by decide⟩
theorem lk_X4_84 : LkV RX4 84 yX0_tortoisesIn cX0_tortoisesIn 4 (some .int) 1 := ⟨List.forall_mem_cons.mpr ⟨wd_291, List.forall_mem_cons.mpr ⟨wd_292, List.forall_mem_cons.mpr ⟨wd_293, List.forall_mem_cons.mpr ⟨wd_81, List.forall_mem_cons.mpr ⟨wd_294, fun _ h => absurd h List.not_mem_nil⟩⟩⟩⟩⟩, ⟨by decide, by decide, by decide +kernel⟩, by decide⟩
theorem lk_X4_87 : LkV RX4 87 yX0_subjectsIn cX0_subjectsIn 4 (some .int) 1 := ⟨List.forall_mem_cons.mpr ⟨wd_295, List.forall_mem_cons.mpr ⟨wd_296, List.forall_mem_cons.mpr ⟨wd_297, List.forall_mem_cons.mpr ⟨wd_81, List.forall_mem_cons.mpr ⟨wd_298, fun _ h => absurd h List.not_mem_nil⟩⟩⟩⟩⟩, ⟨by decide, by decide, by decide +kernel⟩, by decide⟩
theorem lk_X4_90 : LkS RX4 90 yX4_isKind cX4_isKind 1 (some .boolean) 1 := ⟨List.forall_mem_cons.mpr ⟨wd_303, List.forall_mem_cons.mpr ⟨wd_304, List.forall_mem_cons.mpr ⟨wd_80, List.forall_mem_cons.mpr ⟨wd_305, fun _ h => absurd h List.not_mem_nil⟩⟩⟩⟩, ⟨by decide, by decide, by decide +kernel⟩, by decide⟩
theorem lk_X4_93 : LkV RX4 93 yX0_isFull cX0_isFull 1 (some .boolean) 0 := ⟨List.forall_mem_cons.mpr ⟨wd_306, List.forall_mem_cons.mpr ⟨wd_307, List.forall_mem_cons.mpr ⟨wd_308, List.forall_mem_cons.mpr ⟨wd_81, List.forall_mem_cons.mpr ⟨wd_309, fun _ h => absurd h List.not_mem_nil⟩⟩⟩⟩⟩, ⟨by decide, by decide, by decide +kernel⟩, by decide⟩
theorem lk_X4_97 : LkV RX4 97 yX0_comes cX0_comes 5 (some .int) 3 := ⟨List.forall_mem_cons.mpr ⟨wd_310, List.forall_mem_cons.mpr ⟨wd_311, List.forall_mem_cons.mpr ⟨wd_312, List.forall_mem_cons.mpr ⟨wd_81, List.forall_mem_cons.mpr ⟨wd_313, fun _ h => absurd h List.not_mem_nil⟩⟩⟩⟩⟩, ⟨by decide, by decide, by decide +kernel⟩, by decide⟩
theorem lk_X4_101 : LkV RX4 101 yX0_has cX0_has 2 (some .boolean) 1 := ⟨List.forall_mem_cons.mpr ⟨wd_318, List.forall_mem_cons.mpr ⟨wd_319, List.forall_mem_cons.mpr ⟨wd_320, List.forall_mem_cons.mpr ⟨wd_81, List.forall_mem_cons.mpr ⟨wd_321, fun _ h => absurd h List.not_mem_nil⟩⟩⟩⟩⟩, ⟨by decide, by decide, by decide +kernel⟩, by decide⟩
theorem lk_X4_117 : LkV RX4 117 yX0_aimOf cX0_aimOf 3 (some .int) 1 := ⟨List.forall_mem_cons.mpr ⟨wd_323, List.forall_mem_cons.mpr ⟨wd_324, List.forall_mem_cons.mpr ⟨wd_325, List.forall_mem_cons.mpr ⟨wd_81, List.forall_mem_cons.mpr ⟨wd_326, fun _ h => absurd h List.not_mem_nil⟩⟩⟩⟩⟩, ⟨by decide, by decide, by decide +kernel⟩, by decide⟩
theorem lk_X4_120 : LkV RX4 120 yX0_paceOf cX0_paceOf 2 (some .int) 1 := ⟨List.forall_mem_cons.mpr ⟨wd_339, List.forall_mem_cons.mpr ⟨wd_340, List.forall_mem_cons.mpr ⟨wd_341, List.forall_mem_cons.mpr ⟨wd_81, List.forall_mem_cons.mpr ⟨wd_342, fun _ h => absurd h List.not_mem_nil⟩⟩⟩⟩⟩, ⟨by decide, by decide, by decide +kernel⟩, by decide⟩
theorem lk_X4_123 : LkS RX4 123 yX4_isUnder cX4_isUnder 4 (some .boolean) 2 := ⟨List.forall_mem_cons.mpr ⟨wd_355, List.forall_mem_cons.mpr ⟨wd_356, List.forall_mem_cons.mpr ⟨wd_80, List.forall_mem_cons.mpr ⟨wd_357, fun _ h => absurd h List.not_mem_nil⟩⟩⟩⟩, ⟨by decide, by decide, by decide +kernel⟩, by decide⟩
theorem lk_X4_126 : LkV RX4 126 yX4_areTwo cX4_areTwo 3 (some .boolean) 2 := ⟨List.forall_mem_cons.mpr ⟨wd_364, List.forall_mem_cons.mpr ⟨wd_366, List.forall_mem_cons.mpr ⟨wd_2, List.forall_mem_cons.mpr ⟨wd_80, List.forall_mem_cons.mpr ⟨wd_367, fun _ h => absurd h List.not_mem_nil⟩⟩⟩⟩⟩, ⟨by decide, by decide, by decide +kernel⟩, by decide⟩
theorem lk_X4_129 : LkS RX4 129 yX4_isSubject cX4_isSubject 1 (some .boolean) 1 := ⟨List.forall_mem_cons.mpr ⟨wd_368, List.forall_mem_cons.mpr ⟨wd_369, List.forall_mem_cons.mpr ⟨wd_80, List.forall_mem_cons.mpr ⟨wd_370, fun _ h => absurd h List.not_mem_nil⟩⟩⟩⟩, ⟨by decide, by decide, by decide +kernel⟩, by decide⟩
theorem lk_X4_132 : LkV RX4 132 yX0_handsOver cX0_handsOver 4 none 3 := ⟨List.forall_mem_cons.mpr ⟨wd_371, List.forall_mem_cons.mpr ⟨wd_372, List.forall_mem_cons.mpr ⟨wd_373, List.forall_mem_cons.mpr ⟨wd_81, List.forall_mem_cons.mpr ⟨wd_374, fun _ h => absurd h List.not_mem_nil⟩⟩⟩⟩⟩, ⟨by decide, by decide, by decide +kernel⟩, by decide⟩
theorem lk_X4_139 : LkV RX4 139 yX0_goHours cX0_goHours 3 none 1 := ⟨List.forall_mem_cons.mpr ⟨wd_379, List.forall_mem_cons.mpr ⟨wd_380, List.forall_mem_cons.mpr ⟨wd_381, List.forall_mem_cons.mpr ⟨wd_81, List.forall_mem_cons.mpr ⟨wd_382, fun _ h => absurd h List.not_mem_nil⟩⟩⟩⟩⟩, ⟨by decide, by decide, by decide +kernel⟩, by decide⟩
theorem lk_X4_143 : LkV RX4 143 yX0_booksOfAll cX0_booksOfAll 3 (some .int) 0 := ⟨List.forall_mem_cons.mpr ⟨wd_413, List.forall_mem_cons.mpr ⟨wd_414, List.forall_mem_cons.mpr ⟨wd_415, List.forall_mem_cons.mpr ⟨wd_81, List.forall_mem_cons.mpr ⟨wd_416, fun _ h => absurd h List.not_mem_nil⟩⟩⟩⟩⟩, ⟨by decide, by decide, by decide +kernel⟩, by decide⟩
theorem lk_X4_147 : LkV RX4 147 yX0_clock cX0_clock 1 (some .int) 0 := ⟨List.forall_mem_cons.mpr ⟨wd_421, List.forall_mem_cons.mpr ⟨wd_328, List.forall_mem_cons.mpr ⟨wd_329, List.forall_mem_cons.mpr ⟨wd_81, List.forall_mem_cons.mpr ⟨wd_330, fun _ h => absurd h List.not_mem_nil⟩⟩⟩⟩⟩, ⟨by decide, by decide, by decide +kernel⟩, by decide⟩
theorem lk_X4_150 : LkV RX4 150 yX0_rainsAt cX0_rainsAt 2 (some .boolean) 1 := ⟨List.forall_mem_cons.mpr ⟨wd_422, List.forall_mem_cons.mpr ⟨wd_336, List.forall_mem_cons.mpr ⟨wd_337, List.forall_mem_cons.mpr ⟨wd_81, List.forall_mem_cons.mpr ⟨wd_338, fun _ h => absurd h List.not_mem_nil⟩⟩⟩⟩⟩, ⟨by decide, by decide, by decide +kernel⟩, by decide⟩
theorem lk_X4_154 : LkV RX4 154 yX0_allTortoises cX0_allTortoises 1 (some .int) 0 := ⟨List.forall_mem_cons.mpr ⟨wd_424, List.forall_mem_cons.mpr ⟨wd_425, List.forall_mem_cons.mpr ⟨wd_426, List.forall_mem_cons.mpr ⟨wd_81, List.forall_mem_cons.mpr ⟨wd_427, fun _ h => absurd h List.not_mem_nil⟩⟩⟩⟩⟩, ⟨by decide, by decide, by decide +kernel⟩, by decide⟩
theorem lk_X4_157 : LkV RX4 157 yX0_cellsOf cX0_cellsOf 4 (some .int) 1 := ⟨List.forall_mem_cons.mpr ⟨wd_428, List.forall_mem_cons.mpr ⟨wd_429, List.forall_mem_cons.mpr ⟨wd_430, List.forall_mem_cons.mpr ⟨wd_81, List.forall_mem_cons.mpr ⟨wd_431, fun _ h => absurd h List.not_mem_nil⟩⟩⟩⟩⟩, ⟨by decide, by decide, by decide +kernel⟩, by decide⟩
theorem lk_X4_160 : LkS RX4 160 yX4_isForeseen cX4_isForeseen 1 (some .boolean) 1 := ⟨List.forall_mem_cons.mpr ⟨wd_436, List.forall_mem_cons.mpr ⟨wd_437, List.forall_mem_cons.mpr ⟨wd_80, List.forall_mem_cons.mpr ⟨wd_438, fun _ h => absurd h List.not_mem_nil⟩⟩⟩⟩, ⟨by decide, by decide, by decide +kernel⟩, by decide⟩
theorem lk_X4_163 : LkV RX4 163 yX0_becomes cX0_becomes 3 none 1 := ⟨List.forall_mem_cons.mpr ⟨wd_439, List.forall_mem_cons.mpr ⟨wd_440, List.forall_mem_cons.mpr ⟨wd_441, List.forall_mem_cons.mpr ⟨wd_81, List.forall_mem_cons.mpr ⟨wd_442, fun _ h => absurd h List.not_mem_nil⟩⟩⟩⟩⟩, ⟨by decide, by decide, by decide +kernel⟩, by decide⟩
theorem lk_X4_167 : LkV RX4 167 yX0_hoursTill cX0_hoursTill 5 (some .int) 3 := ⟨List.forall_mem_cons.mpr ⟨wd_447, List.forall_mem_cons.mpr ⟨wd_448, List.forall_mem_cons.mpr ⟨wd_449, List.forall_mem_cons.mpr ⟨wd_81, List.forall_mem_cons.mpr ⟨wd_450, fun _ h => absurd h List.not_mem_nil⟩⟩⟩⟩⟩, ⟨by decide, by decide, by decide +kernel⟩, by decide⟩
theorem lk_X4_170 : LkV RX4 170 yX4_hoursOrNone cX4_hoursOrNone 2 (some .int) 1 := ⟨List.forall_mem_cons.mpr ⟨wd_455, List.forall_mem_cons.mpr ⟨wd_457, List.forall_mem_cons.mpr ⟨wd_7, List.forall_mem_cons.mpr ⟨wd_80, List.forall_mem_cons.mpr ⟨wd_458, fun _ h => absurd h List.not_mem_nil⟩⟩⟩⟩⟩, ⟨by decide, by decide, by decide +kernel⟩, by decide⟩
theorem lk_X4_173 : LkV RX4 173 yX0_hoursTillTogether cX0_hoursTillTogether 5 (some .int) 3 := ⟨List.forall_mem_cons.mpr ⟨wd_463, List.forall_mem_cons.mpr ⟨wd_464, List.forall_mem_cons.mpr ⟨wd_465, List.forall_mem_cons.mpr ⟨wd_81, List.forall_mem_cons.mpr ⟨wd_466, fun _ h => absurd h List.not_mem_nil⟩⟩⟩⟩⟩, ⟨by decide, by decide, by decide +kernel⟩, by decide⟩
theorem lk_X4_176 : LkV RX4 176 yX0_tortoisesWith cX0_tortoisesWith 4 (some .int) 1 := ⟨List.forall_mem_cons.mpr ⟨wd_471, List.forall_mem_cons.mpr ⟨wd_472, List.forall_mem_cons.mpr ⟨wd_473, List.forall_mem_cons.mpr ⟨wd_81, List.forall_mem_cons.mpr ⟨wd_474, fun _ h => absurd h List.not_mem_nil⟩⟩⟩⟩⟩, ⟨by decide, by decide, by decide +kernel⟩, by decide⟩
theorem lk_X4_179 : LkV RX4 179 yX4_askOfReader cX4_askOfReader 3 (some .int) 2 := ⟨List.forall_mem_cons.mpr ⟨wd_479, List.forall_mem_cons.mpr ⟨wd_481, List.forall_mem_cons.mpr ⟨wd_8, List.forall_mem_cons.mpr ⟨wd_80, List.forall_mem_cons.mpr ⟨wd_482, fun _ h => absurd h List.not_mem_nil⟩⟩⟩⟩⟩, ⟨by decide, by decide, by decide +kernel⟩, by decide⟩
theorem lk_X4_183 : LkV RX4 183 yX1_goesFrom cX1_goesFrom 3 none 2 := ⟨List.forall_mem_cons.mpr ⟨wd_483, List.forall_mem_cons.mpr ⟨wd_484, List.forall_mem_cons.mpr ⟨wd_485, List.forall_mem_cons.mpr ⟨wd_82, List.forall_mem_cons.mpr ⟨wd_486, fun _ h => absurd h List.not_mem_nil⟩⟩⟩⟩⟩, ⟨by decide, by decide, by decide +kernel⟩, by decide⟩
theorem lk_X4_187 : LkV RX4 187 yX1_seek cX1_seek 4 (some .int) 2 := ⟨List.forall_mem_cons.mpr ⟨wd_488, List.forall_mem_cons.mpr ⟨wd_489, List.forall_mem_cons.mpr ⟨wd_490, List.forall_mem_cons.mpr ⟨wd_82, List.forall_mem_cons.mpr ⟨wd_491, fun _ h => absurd h List.not_mem_nil⟩⟩⟩⟩⟩, ⟨by decide, by decide, by decide +kernel⟩, by decide⟩
theorem lk_X4_190 : LkV RX4 190 yX4_placeOrNone cX4_placeOrNone 2 (some .int) 1 := ⟨List.forall_mem_cons.mpr ⟨wd_510, List.forall_mem_cons.mpr ⟨wd_512, List.forall_mem_cons.mpr ⟨wd_11, List.forall_mem_cons.mpr ⟨wd_80, List.forall_mem_cons.mpr ⟨wd_513, fun _ h => absurd h List.not_mem_nil⟩⟩⟩⟩⟩, ⟨by decide, by decide, by decide +kernel⟩, by decide⟩
theorem lk_X4_193 : LkV RX4 193 yX1_staysInOneOf cX1_staysInOneOf 3 none 2 := ⟨List.forall_mem_cons.mpr ⟨wd_522, List.forall_mem_cons.mpr ⟨wd_523, List.forall_mem_cons.mpr ⟨wd_524, List.forall_mem_cons.mpr ⟨wd_82, List.forall_mem_cons.mpr ⟨wd_525, fun _ h => absurd h List.not_mem_nil⟩⟩⟩⟩⟩, ⟨by decide, by decide, by decide +kernel⟩, by decide⟩
theorem lk_X4_199 : LkV RX4 199 yX1_subjectsWithin cX1_subjectsWithin 4 (some .int) 1 := ⟨List.forall_mem_cons.mpr ⟨wd_534, List.forall_mem_cons.mpr ⟨wd_535, List.forall_mem_cons.mpr ⟨wd_536, List.forall_mem_cons.mpr ⟨wd_82, List.forall_mem_cons.mpr ⟨wd_537, fun _ h => absurd h List.not_mem_nil⟩⟩⟩⟩⟩, ⟨by decide, by decide, by decide +kernel⟩, by decide⟩
theorem lk_X4_202 : LkS RX4 202 yJ6_bitCount_0f7a4 cJ6_bitCount_0f7a4 1 (some .int) 1 := ⟨List.forall_mem_cons.mpr ⟨wd_517, List.forall_mem_cons.mpr ⟨wd_407, List.forall_mem_cons.mpr ⟨wd_86, List.forall_mem_cons.mpr ⟨wd_408, fun _ h => absurd h List.not_mem_nil⟩⟩⟩⟩, ⟨by decide, by decide, by decide +kernel⟩, by decide⟩
theorem lk_X4_207 : LkV RX4 207 yX1_seekTwo cX1_seekTwo 9 (some .int) 3 := ⟨List.forall_mem_cons.mpr ⟨wd_543, List.forall_mem_cons.mpr ⟨wd_544, List.forall_mem_cons.mpr ⟨wd_545, List.forall_mem_cons.mpr ⟨wd_82, List.forall_mem_cons.mpr ⟨wd_546, fun _ h => absurd h List.not_mem_nil⟩⟩⟩⟩⟩, ⟨by decide, by decide, by decide +kernel⟩, by decide⟩
theorem lk_X4_211 : LkV RX4 211 yX4_bestTipped cX4_bestTipped 7 (some .int) 2 := ⟨List.forall_mem_cons.mpr ⟨wd_555, List.forall_mem_cons.mpr ⟨wd_557, List.forall_mem_cons.mpr ⟨wd_12, List.forall_mem_cons.mpr ⟨wd_80, List.forall_mem_cons.mpr ⟨wd_558, fun _ h => absurd h List.not_mem_nil⟩⟩⟩⟩⟩, ⟨by decide, by decide, by decide +kernel⟩, by decide⟩
theorem lk_X4_214 : LkV RX4 214 yX4_bestSpring cX4_bestSpring 7 (some .int) 2 := ⟨List.forall_mem_cons.mpr ⟨wd_563, List.forall_mem_cons.mpr ⟨wd_565, List.forall_mem_cons.mpr ⟨wd_13, List.forall_mem_cons.mpr ⟨wd_80, List.forall_mem_cons.mpr ⟨wd_566, fun _ h => absurd h List.not_mem_nil⟩⟩⟩⟩⟩, ⟨by decide, by decide, by decide +kernel⟩, by decide⟩
theorem lk_X4_217 : LkV RX4 217 yX4_bestKind cX4_bestKind 7 (some .int) 2 := ⟨List.forall_mem_cons.mpr ⟨wd_571, List.forall_mem_cons.mpr ⟨wd_573, List.forall_mem_cons.mpr ⟨wd_14, List.forall_mem_cons.mpr ⟨wd_80, List.forall_mem_cons.mpr ⟨wd_574, fun _ h => absurd h List.not_mem_nil⟩⟩⟩⟩⟩, ⟨by decide, by decide, by decide +kernel⟩, by decide⟩
theorem lk_X4_223 : LkV RX4 223 yX3_takes cX3_takes 4 none 2 := ⟨List.forall_mem_cons.mpr ⟨wd_579, List.forall_mem_cons.mpr ⟨wd_580, List.forall_mem_cons.mpr ⟨wd_581, List.forall_mem_cons.mpr ⟨wd_83, List.forall_mem_cons.mpr ⟨wd_582, fun _ h => absurd h List.not_mem_nil⟩⟩⟩⟩⟩, ⟨by decide, by decide, by decide +kernel⟩, by decide⟩
theorem lk_X4_227 : LkV RX4 227 yX3_tellsTo cX3_tellsTo 3 (some .int) 1 := ⟨List.forall_mem_cons.mpr ⟨wd_591, List.forall_mem_cons.mpr ⟨wd_592, List.forall_mem_cons.mpr ⟨wd_593, List.forall_mem_cons.mpr ⟨wd_83, List.forall_mem_cons.mpr ⟨wd_594, fun _ h => absurd h List.not_mem_nil⟩⟩⟩⟩⟩, ⟨by decide, by decide, by decide +kernel⟩, by decide⟩
theorem lk_X4_231 : LkV RX4 231 yX2_becomesBlank cX2_becomesBlank 4 none 2 := ⟨List.forall_mem_cons.mpr ⟨wd_713, List.forall_mem_cons.mpr ⟨wd_714, List.forall_mem_cons.mpr ⟨wd_715, List.forall_mem_cons.mpr ⟨wd_84, List.forall_mem_cons.mpr ⟨wd_716, fun _ h => absurd h List.not_mem_nil⟩⟩⟩⟩⟩, ⟨by decide, by decide, by decide +kernel⟩, by decide⟩
theorem lk_X4_235 : LkV RX4 235 yX4_askOfSheet cX4_askOfSheet 2 (some .int) 1 := ⟨List.forall_mem_cons.mpr ⟨wd_721, List.forall_mem_cons.mpr ⟨wd_723, List.forall_mem_cons.mpr ⟨wd_24, List.forall_mem_cons.mpr ⟨wd_80, List.forall_mem_cons.mpr ⟨wd_724, fun _ h => absurd h List.not_mem_nil⟩⟩⟩⟩⟩, ⟨by decide, by decide, by decide +kernel⟩, by decide⟩
theorem lk_X4_242 : LkV RX4 242 yX2_lowestBits cX2_lowestBits 3 (some .long) 1 := ⟨List.forall_mem_cons.mpr ⟨wd_729, List.forall_mem_cons.mpr ⟨wd_730, List.forall_mem_cons.mpr ⟨wd_731, List.forall_mem_cons.mpr ⟨wd_84, List.forall_mem_cons.mpr ⟨wd_732, fun _ h => absurd h List.not_mem_nil⟩⟩⟩⟩⟩, ⟨by decide, by decide, by decide +kernel⟩, by decide⟩
theorem lk_X4_246 : LkV RX4 246 yX2_isMissing cX2_isMissing 1 (some .boolean) 0 := ⟨List.forall_mem_cons.mpr ⟨wd_725, List.forall_mem_cons.mpr ⟨wd_726, List.forall_mem_cons.mpr ⟨wd_727, List.forall_mem_cons.mpr ⟨wd_84, List.forall_mem_cons.mpr ⟨wd_728, fun _ h => absurd h List.not_mem_nil⟩⟩⟩⟩⟩, ⟨by decide, by decide, by decide +kernel⟩, by decide⟩
theorem lk_X4_252 : LkV RX4 252 yX2_hasFrom cX2_hasFrom 3 (some .boolean) 2 := ⟨List.forall_mem_cons.mpr ⟨wd_737, List.forall_mem_cons.mpr ⟨wd_738, List.forall_mem_cons.mpr ⟨wd_739, List.forall_mem_cons.mpr ⟨wd_84, List.forall_mem_cons.mpr ⟨wd_740, fun _ h => absurd h List.not_mem_nil⟩⟩⟩⟩⟩, ⟨by decide, by decide, by decide +kernel⟩, by decide⟩
theorem lk_X4_261 : LkV RX4 261 yX4_laysBooks cX4_laysBooks 6 (some .int) 1 := ⟨List.forall_mem_cons.mpr ⟨wd_748, List.forall_mem_cons.mpr ⟨wd_750, List.forall_mem_cons.mpr ⟨wd_25, List.forall_mem_cons.mpr ⟨wd_80, List.forall_mem_cons.mpr ⟨wd_751, fun _ h => absurd h List.not_mem_nil⟩⟩⟩⟩⟩, ⟨by decide, by decide, by decide +kernel⟩, by decide⟩
theorem lk_X4_265 : LkV RX4 265 yX0_goAlone cX0_goAlone 2 none 1 := ⟨List.forall_mem_cons.mpr ⟨wd_757, List.forall_mem_cons.mpr ⟨wd_452, List.forall_mem_cons.mpr ⟨wd_453, List.forall_mem_cons.mpr ⟨wd_81, List.forall_mem_cons.mpr ⟨wd_454, fun _ h => absurd h List.not_mem_nil⟩⟩⟩⟩⟩, ⟨by decide, by decide, by decide +kernel⟩, by decide⟩
theorem lk_X4_268 : LkV RX4 268 yX0_goesAsIn cX0_goesAsIn 4 (some .boolean) 2 := ⟨List.forall_mem_cons.mpr ⟨wd_762, List.forall_mem_cons.mpr ⟨wd_763, List.forall_mem_cons.mpr ⟨wd_764, List.forall_mem_cons.mpr ⟨wd_81, List.forall_mem_cons.mpr ⟨wd_765, fun _ h => absurd h List.not_mem_nil⟩⟩⟩⟩⟩, ⟨by decide, by decide, by decide +kernel⟩, by decide⟩
theorem lk_X4_275 : LkV RX4 275 yX0_tippedOnes cX0_tippedOnes 3 (some .int) 0 := ⟨List.forall_mem_cons.mpr ⟨wd_782, List.forall_mem_cons.mpr ⟨wd_783, List.forall_mem_cons.mpr ⟨wd_784, List.forall_mem_cons.mpr ⟨wd_81, List.forall_mem_cons.mpr ⟨wd_785, fun _ h => absurd h List.not_mem_nil⟩⟩⟩⟩⟩, ⟨by decide, by decide, by decide +kernel⟩, by decide⟩
theorem lk_X4_282 : LkS RX4 282 yX4_least cX4_least 1 (some .int) 1 := ⟨List.forall_mem_cons.mpr ⟨wd_514, List.forall_mem_cons.mpr ⟨wd_515, List.forall_mem_cons.mpr ⟨wd_80, List.forall_mem_cons.mpr ⟨wd_516, fun _ h => absurd h List.not_mem_nil⟩⟩⟩⟩, ⟨by decide, by decide, by decide +kernel⟩, by decide⟩
theorem lk_X5_44 : LkS RX5 44 yX5_in cX5_in 6 (some .boolean) 3 := ⟨List.forall_mem_cons.mpr ⟨wd_856, List.forall_mem_cons.mpr ⟨wd_857, List.forall_mem_cons.mpr ⟨wd_85, List.forall_mem_cons.mpr ⟨wd_858, fun _ h => absurd h List.not_mem_nil⟩⟩⟩⟩, ⟨by decide, by decide, by decide +kernel⟩, by decide⟩
theorem lk_X5_54 : LkV RX5 54 yX5_isOne cX5_isOne 2 (some .boolean) 1 := ⟨List.forall_mem_cons.mpr ⟨wd_926, List.forall_mem_cons.mpr ⟨wd_928, List.forall_mem_cons.mpr ⟨wd_34, List.forall_mem_cons.mpr ⟨wd_85, List.forall_mem_cons.mpr ⟨wd_929, fun _ h => absurd h List.not_mem_nil⟩⟩⟩⟩⟩, ⟨by decide, by decide, by decide +kernel⟩, by decide⟩
theorem lk_X5_58 : LkS RX5 58 yX5_spotOf cX5_spotOf 2 (some .int) 2 := ⟨List.forall_mem_cons.mpr ⟨wd_898, List.forall_mem_cons.mpr ⟨wd_899, List.forall_mem_cons.mpr ⟨wd_85, List.forall_mem_cons.mpr ⟨wd_900, fun _ h => absurd h List.not_mem_nil⟩⟩⟩⟩, ⟨by decide, by decide, by decide +kernel⟩, by decide⟩
theorem lk_X5_62 : LkS RX5 62 yX5_isCell cX5_isCell 1 (some .boolean) 1 := ⟨List.forall_mem_cons.mpr ⟨wd_852, List.forall_mem_cons.mpr ⟨wd_853, List.forall_mem_cons.mpr ⟨wd_85, List.forall_mem_cons.mpr ⟨wd_854, fun _ h => absurd h List.not_mem_nil⟩⟩⟩⟩, ⟨by decide, by decide, by decide +kernel⟩, by decide⟩
theorem lk_X5_65 : LkV RX5 65 yX5_finds cX5_finds 2 (some .int) 1 := ⟨List.forall_mem_cons.mpr ⟨wd_860, List.forall_mem_cons.mpr ⟨wd_862, List.forall_mem_cons.mpr ⟨wd_26, List.forall_mem_cons.mpr ⟨wd_85, List.forall_mem_cons.mpr ⟨wd_863, fun _ h => absurd h List.not_mem_nil⟩⟩⟩⟩⟩, ⟨by decide, by decide, by decide +kernel⟩, by decide⟩
theorem lk_X5_69 : LkV RX5 69 yX5_isFenced cX5_isFenced 2 (some .boolean) 1 := ⟨List.forall_mem_cons.mpr ⟨wd_864, List.forall_mem_cons.mpr ⟨wd_866, List.forall_mem_cons.mpr ⟨wd_27, List.forall_mem_cons.mpr ⟨wd_85, List.forall_mem_cons.mpr ⟨wd_867, fun _ h => absurd h List.not_mem_nil⟩⟩⟩⟩⟩, ⟨by decide, by decide, by decide +kernel⟩, by decide⟩
theorem lk_X5_72 : LkV RX5 72 yX5_fences cX5_fences 3 none 2 := ⟨List.forall_mem_cons.mpr ⟨wd_868, List.forall_mem_cons.mpr ⟨wd_870, List.forall_mem_cons.mpr ⟨wd_28, List.forall_mem_cons.mpr ⟨wd_85, List.forall_mem_cons.mpr ⟨wd_871, fun _ h => absurd h List.not_mem_nil⟩⟩⟩⟩⟩, ⟨by decide, by decide, by decide +kernel⟩, by decide⟩
theorem lk_X5_78 : LkV RX5 78 yX5_becomes cX5_becomes 4 (some .int) 2 := ⟨List.forall_mem_cons.mpr ⟨wd_877, List.forall_mem_cons.mpr ⟨wd_879, List.forall_mem_cons.mpr ⟨wd_29, List.forall_mem_cons.mpr ⟨wd_85, List.forall_mem_cons.mpr ⟨wd_880, fun _ h => absurd h List.not_mem_nil⟩⟩⟩⟩⟩, ⟨by decide, by decide, by decide +kernel⟩, by decide⟩
theorem lk_X5_83 : LkV RX5 83 yX5_its cX5_its 3 (some .int) 2 := ⟨List.forall_mem_cons.mpr ⟨wd_894, List.forall_mem_cons.mpr ⟨wd_896, List.forall_mem_cons.mpr ⟨wd_31, List.forall_mem_cons.mpr ⟨wd_85, List.forall_mem_cons.mpr ⟨wd_897, fun _ h => absurd h List.not_mem_nil⟩⟩⟩⟩⟩, ⟨by decide, by decide, by decide +kernel⟩, by decide⟩
theorem lk_X5_86 : LkV RX5 86 yX5_those cX5_those 4 (some .int) 1 := ⟨List.forall_mem_cons.mpr ⟨wd_890, List.forall_mem_cons.mpr ⟨wd_892, List.forall_mem_cons.mpr ⟨wd_30, List.forall_mem_cons.mpr ⟨wd_85, List.forall_mem_cons.mpr ⟨wd_893, fun _ h => absurd h List.not_mem_nil⟩⟩⟩⟩⟩, ⟨by decide, by decide, by decide +kernel⟩, by decide⟩
theorem lk_X5_89 : LkV RX5 89 yX5_booksIn cX5_booksIn 4 (some .int) 1 := ⟨List.forall_mem_cons.mpr ⟨wd_901, List.forall_mem_cons.mpr ⟨wd_903, List.forall_mem_cons.mpr ⟨wd_32, List.forall_mem_cons.mpr ⟨wd_85, List.forall_mem_cons.mpr ⟨wd_904, fun _ h => absurd h List.not_mem_nil⟩⟩⟩⟩⟩, ⟨by decide, by decide, by decide +kernel⟩, by decide⟩
theorem lk_X5_92 : LkV RX5 92 yX5_clock cX5_clock 1 (some .int) 0 := ⟨List.forall_mem_cons.mpr ⟨wd_938, List.forall_mem_cons.mpr ⟨wd_940, List.forall_mem_cons.mpr ⟨wd_37, List.forall_mem_cons.mpr ⟨wd_85, List.forall_mem_cons.mpr ⟨wd_941, fun _ h => absurd h List.not_mem_nil⟩⟩⟩⟩⟩, ⟨by decide, by decide, by decide +kernel⟩, by decide⟩
theorem lk_X5_100 : LkV RX5 100 yX5_lawful cX5_lawful 1 (some .int) 0 := ⟨List.forall_mem_cons.mpr ⟨wd_934, List.forall_mem_cons.mpr ⟨wd_936, List.forall_mem_cons.mpr ⟨wd_36, List.forall_mem_cons.mpr ⟨wd_85, List.forall_mem_cons.mpr ⟨wd_937, fun _ h => absurd h List.not_mem_nil⟩⟩⟩⟩⟩, ⟨by decide, by decide, by decide +kernel⟩, by decide⟩
theorem lk_X5_103 : LkV RX5 103 yX5_rains cX5_rains 1 (some .boolean) 0 := ⟨List.forall_mem_cons.mpr ⟨wd_944, List.forall_mem_cons.mpr ⟨wd_946, List.forall_mem_cons.mpr ⟨wd_38, List.forall_mem_cons.mpr ⟨wd_85, List.forall_mem_cons.mpr ⟨wd_947, fun _ h => absurd h List.not_mem_nil⟩⟩⟩⟩⟩, ⟨by decide, by decide, by decide +kernel⟩, by decide⟩
theorem lk_X5_107 : LkS RX5 107 yX5_isKind cX5_isKind 1 (some .boolean) 1 := ⟨List.forall_mem_cons.mpr ⟨wd_909, List.forall_mem_cons.mpr ⟨wd_910, List.forall_mem_cons.mpr ⟨wd_85, List.forall_mem_cons.mpr ⟨wd_911, fun _ h => absurd h List.not_mem_nil⟩⟩⟩⟩, ⟨by decide, by decide, by decide +kernel⟩, by decide⟩
theorem lk_X5_110 : LkS RX5 110 yX5_isSet cX5_isSet 2 (some .boolean) 1 := ⟨List.forall_mem_cons.mpr ⟨wd_913, List.forall_mem_cons.mpr ⟨wd_914, List.forall_mem_cons.mpr ⟨wd_85, List.forall_mem_cons.mpr ⟨wd_915, fun _ h => absurd h List.not_mem_nil⟩⟩⟩⟩, ⟨by decide, by decide, by decide +kernel⟩, by decide⟩
theorem lk_X5_115 : LkV RX5 115 yX5_adds cX5_adds 5 (some .int) 3 := ⟨List.forall_mem_cons.mpr ⟨wd_918, List.forall_mem_cons.mpr ⟨wd_920, List.forall_mem_cons.mpr ⟨wd_33, List.forall_mem_cons.mpr ⟨wd_85, List.forall_mem_cons.mpr ⟨wd_921, fun _ h => absurd h List.not_mem_nil⟩⟩⟩⟩⟩, ⟨by decide, by decide, by decide +kernel⟩, by decide⟩
theorem lk_X5_119 : LkV RX5 119 yX5_aimOf cX5_aimOf 2 (some .int) 1 := ⟨List.forall_mem_cons.mpr ⟨wd_930, List.forall_mem_cons.mpr ⟨wd_932, List.forall_mem_cons.mpr ⟨wd_35, List.forall_mem_cons.mpr ⟨wd_85, List.forall_mem_cons.mpr ⟨wd_933, fun _ h => absurd h List.not_mem_nil⟩⟩⟩⟩⟩, ⟨by decide, by decide, by decide +kernel⟩, by decide⟩
theorem lk_X5_122 : LkV RX5 122 yX5_paceOf cX5_paceOf 2 (some .int) 1 := ⟨List.forall_mem_cons.mpr ⟨wd_948, List.forall_mem_cons.mpr ⟨wd_950, List.forall_mem_cons.mpr ⟨wd_39, List.forall_mem_cons.mpr ⟨wd_85, List.forall_mem_cons.mpr ⟨wd_951, fun _ h => absurd h List.not_mem_nil⟩⟩⟩⟩⟩, ⟨by decide, by decide, by decide +kernel⟩, by decide⟩
theorem lk_X5_125 : LkS RX5 125 yX5_above cX5_above 1 (some .int) 1 := ⟨List.forall_mem_cons.mpr ⟨wd_964, List.forall_mem_cons.mpr ⟨wd_965, List.forall_mem_cons.mpr ⟨wd_85, List.forall_mem_cons.mpr ⟨wd_966, fun _ h => absurd h List.not_mem_nil⟩⟩⟩⟩, ⟨by decide, by decide, by decide +kernel⟩, by decide⟩
theorem lk_X5_129 : LkV RX5 129 yX5_areTwo cX5_areTwo 3 (some .boolean) 2 := ⟨List.forall_mem_cons.mpr ⟨wd_972, List.forall_mem_cons.mpr ⟨wd_974, List.forall_mem_cons.mpr ⟨wd_40, List.forall_mem_cons.mpr ⟨wd_85, List.forall_mem_cons.mpr ⟨wd_975, fun _ h => absurd h List.not_mem_nil⟩⟩⟩⟩⟩, ⟨by decide, by decide, by decide +kernel⟩, by decide⟩
theorem lk_X5_133 : LkS RX5 133 yX5_isSubject cX5_isSubject 1 (some .boolean) 1 := ⟨List.forall_mem_cons.mpr ⟨wd_976, List.forall_mem_cons.mpr ⟨wd_977, List.forall_mem_cons.mpr ⟨wd_85, List.forall_mem_cons.mpr ⟨wd_978, fun _ h => absurd h List.not_mem_nil⟩⟩⟩⟩, ⟨by decide, by decide, by decide +kernel⟩, by decide⟩
theorem lk_X5_138 : LkV RX5 138 yX5_lends cX5_lends 4 none 3 := ⟨List.forall_mem_cons.mpr ⟨wd_982, List.forall_mem_cons.mpr ⟨wd_984, List.forall_mem_cons.mpr ⟨wd_41, List.forall_mem_cons.mpr ⟨wd_85, List.forall_mem_cons.mpr ⟨wd_985, fun _ h => absurd h List.not_mem_nil⟩⟩⟩⟩⟩, ⟨by decide, by decide, by decide +kernel⟩, by decide⟩
theorem lk_X5_142 : LkV RX5 142 yX5_nearer cX5_nearer 5 (some .int) 2 := ⟨List.forall_mem_cons.mpr ⟨wd_1003, List.forall_mem_cons.mpr ⟨wd_1005, List.forall_mem_cons.mpr ⟨wd_45, List.forall_mem_cons.mpr ⟨wd_85, List.forall_mem_cons.mpr ⟨wd_1006, fun _ h => absurd h List.not_mem_nil⟩⟩⟩⟩⟩, ⟨by decide, by decide, by decide +kernel⟩, by decide⟩
theorem lk_X5_145 : LkS RX5 145 yX5_ones cX5_ones 3 (some .int) 1 := ⟨List.forall_mem_cons.mpr ⟨wd_1011, List.forall_mem_cons.mpr ⟨wd_1012, List.forall_mem_cons.mpr ⟨wd_85, List.forall_mem_cons.mpr ⟨wd_1013, fun _ h => absurd h List.not_mem_nil⟩⟩⟩⟩, ⟨by decide, by decide, by decide +kernel⟩, by decide⟩
theorem lk_X5_148 : LkV RX5 148 yX5_goes cX5_goes 4 none 1 := ⟨List.forall_mem_cons.mpr ⟨wd_999, List.forall_mem_cons.mpr ⟨wd_1001, List.forall_mem_cons.mpr ⟨wd_44, List.forall_mem_cons.mpr ⟨wd_85, List.forall_mem_cons.mpr ⟨wd_1002, fun _ h => absurd h List.not_mem_nil⟩⟩⟩⟩⟩, ⟨by decide, by decide, by decide +kernel⟩, by decide⟩
theorem lk_X5_152 : LkV RX5 152 yX5_meets cX5_meets 5 none 2 := ⟨List.forall_mem_cons.mpr ⟨wd_1007, List.forall_mem_cons.mpr ⟨wd_1009, List.forall_mem_cons.mpr ⟨wd_46, List.forall_mem_cons.mpr ⟨wd_85, List.forall_mem_cons.mpr ⟨wd_1010, fun _ h => absurd h List.not_mem_nil⟩⟩⟩⟩⟩, ⟨by decide, by decide, by decide +kernel⟩, by decide⟩
theorem lk_X5_155 : LkV RX5 155 yX5_hour cX5_hour 3 none 0 := ⟨List.forall_mem_cons.mpr ⟨wd_995, List.forall_mem_cons.mpr ⟨wd_997, List.forall_mem_cons.mpr ⟨wd_43, List.forall_mem_cons.mpr ⟨wd_85, List.forall_mem_cons.mpr ⟨wd_998, fun _ h => absurd h List.not_mem_nil⟩⟩⟩⟩⟩, ⟨by decide, by decide, by decide +kernel⟩, by decide⟩
theorem lk_X5_160 : LkV RX5 160 yX5_go cX5_go 3 none 1 := ⟨List.forall_mem_cons.mpr ⟨wd_991, List.forall_mem_cons.mpr ⟨wd_993, List.forall_mem_cons.mpr ⟨wd_42, List.forall_mem_cons.mpr ⟨wd_85, List.forall_mem_cons.mpr ⟨wd_994, fun _ h => absurd h List.not_mem_nil⟩⟩⟩⟩⟩, ⟨by decide, by decide, by decide +kernel⟩, by decide⟩
theorem lk_X5_163 : LkV RX5 163 yX5_allBooks cX5_allBooks 3 (some .int) 0 := ⟨List.forall_mem_cons.mpr ⟨wd_1014, List.forall_mem_cons.mpr ⟨wd_1016, List.forall_mem_cons.mpr ⟨wd_47, List.forall_mem_cons.mpr ⟨wd_85, List.forall_mem_cons.mpr ⟨wd_1017, fun _ h => absurd h List.not_mem_nil⟩⟩⟩⟩⟩, ⟨by decide, by decide, by decide +kernel⟩, by decide⟩
theorem lk_X5_166 : LkV RX5 166 yX5_allSubjects cX5_allSubjects 3 (some .int) 0 := ⟨List.forall_mem_cons.mpr ⟨wd_1022, List.forall_mem_cons.mpr ⟨wd_1024, List.forall_mem_cons.mpr ⟨wd_48, List.forall_mem_cons.mpr ⟨wd_85, List.forall_mem_cons.mpr ⟨wd_1025, fun _ h => absurd h List.not_mem_nil⟩⟩⟩⟩⟩, ⟨by decide, by decide, by decide +kernel⟩, by decide⟩
theorem lk_X5_169 : LkV RX5 169 yX5_allCells cX5_allCells 3 (some .int) 0 := ⟨List.forall_mem_cons.mpr ⟨wd_1026, List.forall_mem_cons.mpr ⟨wd_1028, List.forall_mem_cons.mpr ⟨wd_49, List.forall_mem_cons.mpr ⟨wd_85, List.forall_mem_cons.mpr ⟨wd_1029, fun _ h => absurd h List.not_mem_nil⟩⟩⟩⟩⟩, ⟨by decide, by decide, by decide +kernel⟩, by decide⟩
theorem lk_X5_172 : LkV RX5 172 yX5_laysAside cX5_laysAside 2 none 0 := ⟨List.forall_mem_cons.mpr ⟨wd_1034, List.forall_mem_cons.mpr ⟨wd_1036, List.forall_mem_cons.mpr ⟨wd_50, List.forall_mem_cons.mpr ⟨wd_85, List.forall_mem_cons.mpr ⟨wd_1037, fun _ h => absurd h List.not_mem_nil⟩⟩⟩⟩⟩, ⟨by decide, by decide, by decide +kernel⟩, by decide⟩
theorem lk_X5_175 : LkV RX5 175 yX5_takesBack cX5_takesBack 3 (some .int) 1 := ⟨List.forall_mem_cons.mpr ⟨wd_1038, List.forall_mem_cons.mpr ⟨wd_1040, List.forall_mem_cons.mpr ⟨wd_51, List.forall_mem_cons.mpr ⟨wd_85, List.forall_mem_cons.mpr ⟨wd_1041, fun _ h => absurd h List.not_mem_nil⟩⟩⟩⟩⟩, ⟨by decide, by decide, by decide +kernel⟩, by decide⟩
theorem lk_X5_178 : LkV RX5 178 yX5_whenOf cX5_whenOf 4 (some .int) 2 := ⟨List.forall_mem_cons.mpr ⟨wd_1046, List.forall_mem_cons.mpr ⟨wd_1048, List.forall_mem_cons.mpr ⟨wd_52, List.forall_mem_cons.mpr ⟨wd_85, List.forall_mem_cons.mpr ⟨wd_1049, fun _ h => absurd h List.not_mem_nil⟩⟩⟩⟩⟩, ⟨by decide, by decide, by decide +kernel⟩, by decide⟩
theorem lk_X5_181 : LkV RX5 181 yX5_orNone cX5_orNone 3 (some .int) 2 := ⟨List.forall_mem_cons.mpr ⟨wd_1050, List.forall_mem_cons.mpr ⟨wd_1052, List.forall_mem_cons.mpr ⟨wd_53, List.forall_mem_cons.mpr ⟨wd_85, List.forall_mem_cons.mpr ⟨wd_1053, fun _ h => absurd h List.not_mem_nil⟩⟩⟩⟩⟩, ⟨by decide, by decide, by decide +kernel⟩, by decide⟩
theorem lk_X5_184 : LkV RX5 184 yX5_carriers cX5_carriers 4 (some .int) 1 := ⟨List.forall_mem_cons.mpr ⟨wd_1062, List.forall_mem_cons.mpr ⟨wd_1064, List.forall_mem_cons.mpr ⟨wd_54, List.forall_mem_cons.mpr ⟨wd_85, List.forall_mem_cons.mpr ⟨wd_1065, fun _ h => absurd h List.not_mem_nil⟩⟩⟩⟩⟩, ⟨by decide, by decide, by decide +kernel⟩, by decide⟩
theorem lk_X5_188 : LkV RX5 188 yX5_open cX5_open 1 (some .int) 0 := ⟨List.forall_mem_cons.mpr ⟨wd_1086, List.forall_mem_cons.mpr ⟨wd_1088, List.forall_mem_cons.mpr ⟨wd_59, List.forall_mem_cons.mpr ⟨wd_85, List.forall_mem_cons.mpr ⟨wd_1089, fun _ h => absurd h List.not_mem_nil⟩⟩⟩⟩⟩, ⟨by decide, by decide, by decide +kernel⟩, by decide⟩
theorem lk_X5_191 : LkV RX5 191 yX5_places cX5_places 4 (some .int) 1 := ⟨List.forall_mem_cons.mpr ⟨wd_1078, List.forall_mem_cons.mpr ⟨wd_1080, List.forall_mem_cons.mpr ⟨wd_57, List.forall_mem_cons.mpr ⟨wd_85, List.forall_mem_cons.mpr ⟨wd_1081, fun _ h => absurd h List.not_mem_nil⟩⟩⟩⟩⟩, ⟨by decide, by decide, by decide +kernel⟩, by decide⟩
theorem lk_X5_198 : LkV RX5 198 yX5_spread cX5_spread 4 (some .int) 1 := ⟨List.forall_mem_cons.mpr ⟨wd_1082, List.forall_mem_cons.mpr ⟨wd_1084, List.forall_mem_cons.mpr ⟨wd_58, List.forall_mem_cons.mpr ⟨wd_85, List.forall_mem_cons.mpr ⟨wd_1085, fun _ h => absurd h List.not_mem_nil⟩⟩⟩⟩⟩, ⟨by decide, by decide, by decide +kernel⟩, by decide⟩
theorem lk_X5_201 : LkV RX5 201 yX5_wrongReader cX5_wrongReader 3 (some .int) 2 := ⟨List.forall_mem_cons.mpr ⟨wd_1070, List.forall_mem_cons.mpr ⟨wd_1072, List.forall_mem_cons.mpr ⟨wd_55, List.forall_mem_cons.mpr ⟨wd_85, List.forall_mem_cons.mpr ⟨wd_1073, fun _ h => absurd h List.not_mem_nil⟩⟩⟩⟩⟩, ⟨by decide, by decide, by decide +kernel⟩, by decide⟩
theorem lk_X5_204 : LkV RX5 204 yX5_soonestOf cX5_soonestOf 6 (some .int) 2 := ⟨List.forall_mem_cons.mpr ⟨wd_1074, List.forall_mem_cons.mpr ⟨wd_1076, List.forall_mem_cons.mpr ⟨wd_56, List.forall_mem_cons.mpr ⟨wd_85, List.forall_mem_cons.mpr ⟨wd_1077, fun _ h => absurd h List.not_mem_nil⟩⟩⟩⟩⟩, ⟨by decide, by decide, by decide +kernel⟩, by decide⟩
theorem lk_X5_209 : LkS RX5 209 yX5_isSooner cX5_isSooner 2 (some .boolean) 2 := ⟨List.forall_mem_cons.mpr ⟨wd_1120, List.forall_mem_cons.mpr ⟨wd_1121, List.forall_mem_cons.mpr ⟨wd_85, List.forall_mem_cons.mpr ⟨wd_1122, fun _ h => absurd h List.not_mem_nil⟩⟩⟩⟩, ⟨by decide, by decide, by decide +kernel⟩, by decide⟩
theorem lk_X5_229 : LkV RX5 229 yX5_byteAt cX5_byteAt 2 (some .int) 1 := ⟨List.forall_mem_cons.mpr ⟨wd_1152, List.forall_mem_cons.mpr ⟨wd_1154, List.forall_mem_cons.mpr ⟨wd_62, List.forall_mem_cons.mpr ⟨wd_85, List.forall_mem_cons.mpr ⟨wd_1155, fun _ h => absurd h List.not_mem_nil⟩⟩⟩⟩⟩, ⟨by decide, by decide, by decide +kernel⟩, by decide⟩
theorem lk_X5_232 : LkS RX5 232 yX5_isLetter cX5_isLetter 1 (some .boolean) 1 := ⟨List.forall_mem_cons.mpr ⟨wd_1156, List.forall_mem_cons.mpr ⟨wd_1157, List.forall_mem_cons.mpr ⟨wd_85, List.forall_mem_cons.mpr ⟨wd_1158, fun _ h => absurd h List.not_mem_nil⟩⟩⟩⟩, ⟨by decide, by decide, by decide +kernel⟩, by decide⟩
theorem lk_X5_235 : LkS RX5 235 yX5_isDigit cX5_isDigit 1 (some .boolean) 1 := ⟨List.forall_mem_cons.mpr ⟨wd_1161, List.forall_mem_cons.mpr ⟨wd_1162, List.forall_mem_cons.mpr ⟨wd_85, List.forall_mem_cons.mpr ⟨wd_1163, fun _ h => absurd h List.not_mem_nil⟩⟩⟩⟩, ⟨by decide, by decide, by decide +kernel⟩, by decide⟩
theorem lk_X5_242 : LkV RX5 242 yX5_token cX5_token 3 none 0 := ⟨List.forall_mem_cons.mpr ⟨wd_1148, List.forall_mem_cons.mpr ⟨wd_1150, List.forall_mem_cons.mpr ⟨wd_61, List.forall_mem_cons.mpr ⟨wd_85, List.forall_mem_cons.mpr ⟨wd_1151, fun _ h => absurd h List.not_mem_nil⟩⟩⟩⟩⟩, ⟨by decide, by decide, by decide +kernel⟩, by decide⟩
theorem lk_X5_252 : LkV RX5 252 yX5_wants cX5_wants 2 none 1 := ⟨List.forall_mem_cons.mpr ⟨wd_1189, List.forall_mem_cons.mpr ⟨wd_1191, List.forall_mem_cons.mpr ⟨wd_67, List.forall_mem_cons.mpr ⟨wd_85, List.forall_mem_cons.mpr ⟨wd_1192, fun _ h => absurd h List.not_mem_nil⟩⟩⟩⟩⟩, ⟨by decide, by decide, by decide +kernel⟩, by decide⟩
theorem lk_X5_256 : LkV RX5 256 yX5_word cX5_word 4 (some .long) 0 := ⟨List.forall_mem_cons.mpr ⟨wd_1173, List.forall_mem_cons.mpr ⟨wd_1175, List.forall_mem_cons.mpr ⟨wd_65, List.forall_mem_cons.mpr ⟨wd_85, List.forall_mem_cons.mpr ⟨wd_1176, fun _ h => absurd h List.not_mem_nil⟩⟩⟩⟩⟩, ⟨by decide, by decide, by decide +kernel⟩, by decide⟩
theorem lk_X5_278 : LkV RX5 278 yX5_number cX5_number 6 none 2 := ⟨List.forall_mem_cons.mpr ⟨wd_1198, List.forall_mem_cons.mpr ⟨wd_1200, List.forall_mem_cons.mpr ⟨wd_69, List.forall_mem_cons.mpr ⟨wd_85, List.forall_mem_cons.mpr ⟨wd_1201, fun _ h => absurd h List.not_mem_nil⟩⟩⟩⟩⟩, ⟨by decide, by decide, by decide +kernel⟩, by decide⟩
theorem lk_X5_283 : LkV RX5 283 yX5_cellHere cX5_cellHere 1 none 0 := ⟨List.forall_mem_cons.mpr ⟨wd_1194, List.forall_mem_cons.mpr ⟨wd_1196, List.forall_mem_cons.mpr ⟨wd_68, List.forall_mem_cons.mpr ⟨wd_85, List.forall_mem_cons.mpr ⟨wd_1197, fun _ h => absurd h List.not_mem_nil⟩⟩⟩⟩⟩, ⟨by decide, by decide, by decide +kernel⟩, by decide⟩
theorem lk_X5_288 : LkV RX5 288 yX5_kindHere cX5_kindHere 3 (some .int) 0 := ⟨List.forall_mem_cons.mpr ⟨wd_1169, List.forall_mem_cons.mpr ⟨wd_1171, List.forall_mem_cons.mpr ⟨wd_64, List.forall_mem_cons.mpr ⟨wd_85, List.forall_mem_cons.mpr ⟨wd_1172, fun _ h => absurd h List.not_mem_nil⟩⟩⟩⟩⟩, ⟨by decide, by decide, by decide +kernel⟩, by decide⟩
theorem lk_X5_291 : LkV RX5 291 yX5_tortoiseItem cX5_tortoiseItem 5 none 1 := ⟨List.forall_mem_cons.mpr ⟨wd_1185, List.forall_mem_cons.mpr ⟨wd_1187, List.forall_mem_cons.mpr ⟨wd_66, List.forall_mem_cons.mpr ⟨wd_85, List.forall_mem_cons.mpr ⟨wd_1188, fun _ h => absurd h List.not_mem_nil⟩⟩⟩⟩⟩, ⟨by decide, by decide, by decide +kernel⟩, by decide⟩
theorem lk_X5_298 : LkV RX5 298 yX5_fenceItem cX5_fenceItem 2 none 1 := ⟨List.forall_mem_cons.mpr ⟨wd_1204, List.forall_mem_cons.mpr ⟨wd_1206, List.forall_mem_cons.mpr ⟨wd_70, List.forall_mem_cons.mpr ⟨wd_85, List.forall_mem_cons.mpr ⟨wd_1207, fun _ h => absurd h List.not_mem_nil⟩⟩⟩⟩⟩, ⟨by decide, by decide, by decide +kernel⟩, by decide⟩
theorem lk_X5_303 : LkV RX5 303 yX5_rainItem cX5_rainItem 4 none 0 := ⟨List.forall_mem_cons.mpr ⟨wd_1209, List.forall_mem_cons.mpr ⟨wd_1211, List.forall_mem_cons.mpr ⟨wd_71, List.forall_mem_cons.mpr ⟨wd_85, List.forall_mem_cons.mpr ⟨wd_1212, fun _ h => absurd h List.not_mem_nil⟩⟩⟩⟩⟩, ⟨by decide, by decide, by decide +kernel⟩, by decide⟩
theorem lk_X5_306 : LkV RX5 306 yX5_placeHere cX5_placeHere 3 (some .int) 0 := ⟨List.forall_mem_cons.mpr ⟨wd_1214, List.forall_mem_cons.mpr ⟨wd_1216, List.forall_mem_cons.mpr ⟨wd_72, List.forall_mem_cons.mpr ⟨wd_85, List.forall_mem_cons.mpr ⟨wd_1217, fun _ h => absurd h List.not_mem_nil⟩⟩⟩⟩⟩, ⟨by decide, by decide, by decide +kernel⟩, by decide⟩
theorem lk_X5_309 : LkV RX5 309 yX5_placeItem cX5_placeItem 2 none 1 := ⟨List.forall_mem_cons.mpr ⟨wd_1221, List.forall_mem_cons.mpr ⟨wd_1223, List.forall_mem_cons.mpr ⟨wd_73, List.forall_mem_cons.mpr ⟨wd_85, List.forall_mem_cons.mpr ⟨wd_1224, fun _ h => absurd h List.not_mem_nil⟩⟩⟩⟩⟩, ⟨by decide, by decide, by decide +kernel⟩, by decide⟩
theorem lk_X5_312 : LkV RX5 312 yX5_saves cX5_saves 2 none 0 := ⟨List.forall_mem_cons.mpr ⟨wd_1144, List.forall_mem_cons.mpr ⟨wd_1146, List.forall_mem_cons.mpr ⟨wd_60, List.forall_mem_cons.mpr ⟨wd_85, List.forall_mem_cons.mpr ⟨wd_1147, fun _ h => absurd h List.not_mem_nil⟩⟩⟩⟩⟩, ⟨by decide, by decide, by decide +kernel⟩, by decide⟩
theorem lk_X5_315 : LkV RX5 315 yX5_item cX5_item 4 none 0 := ⟨List.forall_mem_cons.mpr ⟨wd_1165, List.forall_mem_cons.mpr ⟨wd_1167, List.forall_mem_cons.mpr ⟨wd_63, List.forall_mem_cons.mpr ⟨wd_85, List.forall_mem_cons.mpr ⟨wd_1168, fun _ h => absurd h List.not_mem_nil⟩⟩⟩⟩⟩, ⟨by decide, by decide, by decide +kernel⟩, by decide⟩
theorem lk_X5_318 : LkV RX5 318 yX5_putsBack cX5_putsBack 2 none 0 := ⟨List.forall_mem_cons.mpr ⟨wd_1225, List.forall_mem_cons.mpr ⟨wd_1227, List.forall_mem_cons.mpr ⟨wd_74, List.forall_mem_cons.mpr ⟨wd_85, List.forall_mem_cons.mpr ⟨wd_1228, fun _ h => absurd h List.not_mem_nil⟩⟩⟩⟩⟩, ⟨by decide, by decide, by decide +kernel⟩, by decide⟩
theorem lk_X5_323 : LkS RX5 323 yX5_isRow cX5_isRow 1 (some .boolean) 1 := ⟨List.forall_mem_cons.mpr ⟨wd_1233, List.forall_mem_cons.mpr ⟨wd_1234, List.forall_mem_cons.mpr ⟨wd_85, List.forall_mem_cons.mpr ⟨wd_1235, fun _ h => absurd h List.not_mem_nil⟩⟩⟩⟩, ⟨by decide, by decide, by decide +kernel⟩, by decide⟩
theorem lk_X5_328 : LkV RX5 328 yX5_wrong cX5_wrong 2 (some .int) 1 := ⟨List.forall_mem_cons.mpr ⟨wd_1242, List.forall_mem_cons.mpr ⟨wd_1244, List.forall_mem_cons.mpr ⟨wd_75, List.forall_mem_cons.mpr ⟨wd_85, List.forall_mem_cons.mpr ⟨wd_1245, fun _ h => absurd h List.not_mem_nil⟩⟩⟩⟩⟩, ⟨by decide, by decide, by decide +kernel⟩, by decide⟩
theorem lk_X5_331 : LkS RX5 331 yX5_narrowed cX5_narrowed 3 (some .long) 2 := ⟨List.forall_mem_cons.mpr ⟨wd_1247, List.forall_mem_cons.mpr ⟨wd_1248, List.forall_mem_cons.mpr ⟨wd_85, List.forall_mem_cons.mpr ⟨wd_1249, fun _ h => absurd h List.not_mem_nil⟩⟩⟩⟩, ⟨by decide, by decide, by decide +kernel⟩, by decide⟩
theorem lk_X5_335 : LkV RX5 335 yX5_wrongBook cX5_wrongBook 4 (some .int) 2 := ⟨List.forall_mem_cons.mpr ⟨wd_1262, List.forall_mem_cons.mpr ⟨wd_1264, List.forall_mem_cons.mpr ⟨wd_76, List.forall_mem_cons.mpr ⟨wd_85, List.forall_mem_cons.mpr ⟨wd_1265, fun _ h => absurd h List.not_mem_nil⟩⟩⟩⟩⟩, ⟨by decide, by decide, by decide +kernel⟩, by decide⟩
theorem lk_X5_338 : LkV RX5 338 yX5_isSo cX5_isSo 5 (some .int) 2 := ⟨List.forall_mem_cons.mpr ⟨wd_1270, List.forall_mem_cons.mpr ⟨wd_1272, List.forall_mem_cons.mpr ⟨wd_77, List.forall_mem_cons.mpr ⟨wd_85, List.forall_mem_cons.mpr ⟨wd_1273, fun _ h => absurd h List.not_mem_nil⟩⟩⟩⟩⟩, ⟨by decide, by decide, by decide +kernel⟩, by decide⟩
theorem lk_X5_344 : LkV RX5 344 yX5_tipped cX5_tipped 3 (some .int) 0 := ⟨List.forall_mem_cons.mpr ⟨wd_1290, List.forall_mem_cons.mpr ⟨wd_1292, List.forall_mem_cons.mpr ⟨wd_78, List.forall_mem_cons.mpr ⟨wd_85, List.forall_mem_cons.mpr ⟨wd_1293, fun _ h => absurd h List.not_mem_nil⟩⟩⟩⟩⟩, ⟨by decide, by decide, by decide +kernel⟩, by decide⟩
theorem lk_J0_335 : LkV RJ0 335 yJ0_coder_7d493 cJ0_coder_7d493 1 (some .byte) 0 := ⟨List.forall_mem_cons.mpr ⟨wd_633, List.forall_mem_cons.mpr ⟨wd_634, List.forall_mem_cons.mpr ⟨wd_635, List.forall_mem_cons.mpr ⟨wd_88, List.forall_mem_cons.mpr ⟨wd_636, fun _ h => absurd h List.not_mem_nil⟩⟩⟩⟩⟩, ⟨by decide, by decide, by decide +kernel⟩, by decide⟩
theorem lk_J0_492 : LkV RJ0 492 yJ0_isLatin1_aae02 cJ0_isLatin1_aae02 1 (some .boolean) 0 := ⟨List.forall_mem_cons.mpr ⟨wd_643, List.forall_mem_cons.mpr ⟨wd_644, List.forall_mem_cons.mpr ⟨wd_645, List.forall_mem_cons.mpr ⟨wd_88, List.forall_mem_cons.mpr ⟨wd_646, fun _ h => absurd h List.not_mem_nil⟩⟩⟩⟩⟩, ⟨by decide, by decide, by decide +kernel⟩, by decide⟩
theorem lk_J0_495 : LkS RJ0 495 yJ1_charAt_3b067 cJ1_charAt_3b067 2 (some .char) 2 := ⟨List.forall_mem_cons.mpr ⟨wd_647, List.forall_mem_cons.mpr ⟨wd_648, List.forall_mem_cons.mpr ⟨wd_89, List.forall_mem_cons.mpr ⟨wd_649, fun _ h => absurd h List.not_mem_nil⟩⟩⟩⟩, ⟨by decide, by decide, by decide +kernel⟩, by decide⟩
theorem lk_J0_498 : LkS RJ0 498 yJ2_charAt_3b067 cJ2_charAt_3b067 2 (some .char) 2 := ⟨List.forall_mem_cons.mpr ⟨wd_658, List.forall_mem_cons.mpr ⟨wd_659, List.forall_mem_cons.mpr ⟨wd_91, List.forall_mem_cons.mpr ⟨wd_660, fun _ h => absurd h List.not_mem_nil⟩⟩⟩⟩, ⟨by decide, by decide, by decide +kernel⟩, by decide⟩
theorem lk_J0_1059 : LkS RJ0 1059 yJ3_checkIndex_8e157 cJ3_checkIndex_8e157 3 (some .int) 3 := ⟨List.forall_mem_cons.mpr ⟨wd_655, List.forall_mem_cons.mpr ⟨wd_656, List.forall_mem_cons.mpr ⟨wd_90, List.forall_mem_cons.mpr ⟨wd_657, fun _ h => absurd h List.not_mem_nil⟩⟩⟩⟩, ⟨by decide, by decide, by decide +kernel⟩, by decide⟩
theorem lk_J1_9 : LkS RJ1 9 yJ0_checkIndex_df160 cJ0_checkIndex_df160 2 none 2 := ⟨List.forall_mem_cons.mpr ⟨wd_650, List.forall_mem_cons.mpr ⟨wd_651, List.forall_mem_cons.mpr ⟨wd_88, List.forall_mem_cons.mpr ⟨wd_652, fun _ h => absurd h List.not_mem_nil⟩⟩⟩⟩, ⟨by decide, by decide, by decide +kernel⟩, by decide⟩
theorem lk_J2_48 : LkS RJ2 48 yJ2_length_9d52b cJ2_length_9d52b 1 (some .int) 1 := ⟨List.forall_mem_cons.mpr ⟨wd_664, List.forall_mem_cons.mpr ⟨wd_665, List.forall_mem_cons.mpr ⟨wd_91, List.forall_mem_cons.mpr ⟨wd_666, fun _ h => absurd h List.not_mem_nil⟩⟩⟩⟩, ⟨by decide, by decide, by decide +kernel⟩, by decide⟩
theorem lk_J2_67 : LkS RJ2 67 yJ2_checkIndex_2214a cJ2_checkIndex_2214a 2 none 2 := ⟨List.forall_mem_cons.mpr ⟨wd_661, List.forall_mem_cons.mpr ⟨wd_662, List.forall_mem_cons.mpr ⟨wd_91, List.forall_mem_cons.mpr ⟨wd_663, fun _ h => absurd h List.not_mem_nil⟩⟩⟩⟩, ⟨by decide, by decide, by decide +kernel⟩, by decide⟩
theorem lk_J2_71 : LkS RJ2 71 yJ2_getChar_3b067 cJ2_getChar_3b067 2 (some .char) 2 := ⟨List.forall_mem_cons.mpr ⟨wd_668, List.forall_mem_cons.mpr ⟨wd_669, List.forall_mem_cons.mpr ⟨wd_91, List.forall_mem_cons.mpr ⟨wd_670, fun _ h => absurd h List.not_mem_nil⟩⟩⟩⟩, ⟨by decide, by decide, by decide +kernel⟩, by decide⟩
theorem lk_J2_414 : LkS RJ2 414 yJ0_checkIndex_df160 cJ0_checkIndex_df160 2 none 2 := ⟨List.forall_mem_cons.mpr ⟨wd_667, List.forall_mem_cons.mpr ⟨wd_651, List.forall_mem_cons.mpr ⟨wd_88, List.forall_mem_cons.mpr ⟨wd_652, fun _ h => absurd h List.not_mem_nil⟩⟩⟩⟩, ⟨by decide, by decide, by decide +kernel⟩, by decide⟩
theorem lk_L_13 : LkV RL 13 yX4_fence cX4_fence 4 (some .int) 2 := ⟨List.forall_mem_cons.mpr ⟨wd_249, List.forall_mem_cons.mpr ⟨wd_250, List.forall_mem_cons.mpr ⟨wd_251, List.forall_mem_cons.mpr ⟨wd_80, List.forall_mem_cons.mpr ⟨wd_252, fun _ h => absurd h List.not_mem_nil⟩⟩⟩⟩⟩, ⟨by decide, by decide, by decide +kernel⟩, by decide⟩
theorem lk_L_17 : LkV RL 17 yX5_fence cX5_fence 4 (some .int) 2 := ⟨List.forall_mem_cons.mpr ⟨wd_848, List.forall_mem_cons.mpr ⟨wd_849, List.forall_mem_cons.mpr ⟨wd_850, List.forall_mem_cons.mpr ⟨wd_85, List.forall_mem_cons.mpr ⟨wd_851, fun _ h => absurd h List.not_mem_nil⟩⟩⟩⟩⟩, ⟨by decide, by decide, by decide +kernel⟩, by decide⟩
theorem lk_L_18 : LkV RL 18 yX4_spot cX4_spot 4 (some .int) 2 := ⟨List.forall_mem_cons.mpr ⟨wd_275, List.forall_mem_cons.mpr ⟨wd_276, List.forall_mem_cons.mpr ⟨wd_277, List.forall_mem_cons.mpr ⟨wd_80, List.forall_mem_cons.mpr ⟨wd_278, fun _ h => absurd h List.not_mem_nil⟩⟩⟩⟩⟩, ⟨by decide, by decide, by decide +kernel⟩, by decide⟩
theorem lk_L_21 : LkV RL 21 yX5_spot cX5_spot 3 (some .int) 2 := ⟨List.forall_mem_cons.mpr ⟨wd_872, List.forall_mem_cons.mpr ⟨wd_873, List.forall_mem_cons.mpr ⟨wd_874, List.forall_mem_cons.mpr ⟨wd_85, List.forall_mem_cons.mpr ⟨wd_875, fun _ h => absurd h List.not_mem_nil⟩⟩⟩⟩⟩, ⟨by decide, by decide, by decide +kernel⟩, by decide⟩
theorem lk_L_22 : LkV RL 22 yX4_rain cX4_rain 3 (some .int) 1 := ⟨List.forall_mem_cons.mpr ⟨wd_279, List.forall_mem_cons.mpr ⟨wd_280, List.forall_mem_cons.mpr ⟨wd_281, List.forall_mem_cons.mpr ⟨wd_80, List.forall_mem_cons.mpr ⟨wd_282, fun _ h => absurd h List.not_mem_nil⟩⟩⟩⟩⟩, ⟨by decide, by decide, by decide +kernel⟩, by decide⟩
theorem lk_L_26 : LkV RL 26 yX5_rain cX5_rain 2 (some .int) 1 := ⟨List.forall_mem_cons.mpr ⟨wd_881, List.forall_mem_cons.mpr ⟨wd_882, List.forall_mem_cons.mpr ⟨wd_883, List.forall_mem_cons.mpr ⟨wd_85, List.forall_mem_cons.mpr ⟨wd_884, fun _ h => absurd h List.not_mem_nil⟩⟩⟩⟩⟩, ⟨by decide, by decide, by decide +kernel⟩, by decide⟩
theorem lk_L_27 : LkV RL 27 yX4_cell cX4_cell 3 (some .int) 2 := ⟨List.forall_mem_cons.mpr ⟨wd_287, List.forall_mem_cons.mpr ⟨wd_288, List.forall_mem_cons.mpr ⟨wd_289, List.forall_mem_cons.mpr ⟨wd_80, List.forall_mem_cons.mpr ⟨wd_290, fun _ h => absurd h List.not_mem_nil⟩⟩⟩⟩⟩, ⟨by decide, by decide, by decide +kernel⟩, by decide⟩
theorem lk_L_30 : LkV RL 30 yX5_cell cX5_cell 3 (some .int) 2 := ⟨List.forall_mem_cons.mpr ⟨wd_886, List.forall_mem_cons.mpr ⟨wd_887, List.forall_mem_cons.mpr ⟨wd_888, List.forall_mem_cons.mpr ⟨wd_85, List.forall_mem_cons.mpr ⟨wd_889, fun _ h => absurd h List.not_mem_nil⟩⟩⟩⟩⟩, ⟨by decide, by decide, by decide +kernel⟩, by decide⟩
theorem lk_L_31 : LkV RL 31 yX4_tortoise cX4_tortoise 4 (some .int) 3 := ⟨List.forall_mem_cons.mpr ⟨wd_299, List.forall_mem_cons.mpr ⟨wd_300, List.forall_mem_cons.mpr ⟨wd_301, List.forall_mem_cons.mpr ⟨wd_80, List.forall_mem_cons.mpr ⟨wd_302, fun _ h => absurd h List.not_mem_nil⟩⟩⟩⟩⟩, ⟨by decide, by decide, by decide +kernel⟩, by decide⟩
theorem lk_L_35 : LkV RL 35 yX5_tortoise cX5_tortoise 4 (some .int) 3 := ⟨List.forall_mem_cons.mpr ⟨wd_905, List.forall_mem_cons.mpr ⟨wd_906, List.forall_mem_cons.mpr ⟨wd_907, List.forall_mem_cons.mpr ⟨wd_85, List.forall_mem_cons.mpr ⟨wd_908, fun _ h => absurd h List.not_mem_nil⟩⟩⟩⟩⟩, ⟨by decide, by decide, by decide +kernel⟩, by decide⟩
theorem lk_L_36 : LkV RL 36 yX4_of cX4_of 3 (some .int) 2 := ⟨List.forall_mem_cons.mpr ⟨wd_314, List.forall_mem_cons.mpr ⟨wd_315, List.forall_mem_cons.mpr ⟨wd_316, List.forall_mem_cons.mpr ⟨wd_80, List.forall_mem_cons.mpr ⟨wd_317, fun _ h => absurd h List.not_mem_nil⟩⟩⟩⟩⟩, ⟨by decide, by decide, by decide +kernel⟩, by decide⟩
theorem lk_L_39 : LkV RL 39 yX5_of cX5_of 3 (some .int) 2 := ⟨List.forall_mem_cons.mpr ⟨wd_922, List.forall_mem_cons.mpr ⟨wd_923, List.forall_mem_cons.mpr ⟨wd_924, List.forall_mem_cons.mpr ⟨wd_85, List.forall_mem_cons.mpr ⟨wd_925, fun _ h => absurd h List.not_mem_nil⟩⟩⟩⟩⟩, ⟨by decide, by decide, by decide +kernel⟩, by decide⟩
theorem lk_L_40 : LkV RL 40 yX4_set cX4_set 5 (some .int) 3 := ⟨List.forall_mem_cons.mpr ⟨wd_343, List.forall_mem_cons.mpr ⟨wd_344, List.forall_mem_cons.mpr ⟨wd_345, List.forall_mem_cons.mpr ⟨wd_80, List.forall_mem_cons.mpr ⟨wd_346, fun _ h => absurd h List.not_mem_nil⟩⟩⟩⟩⟩, ⟨by decide, by decide, by decide +kernel⟩, by decide⟩
theorem lk_L_43 : LkV RL 43 yX5_set cX5_set 5 (some .int) 3 := ⟨List.forall_mem_cons.mpr ⟨wd_952, List.forall_mem_cons.mpr ⟨wd_953, List.forall_mem_cons.mpr ⟨wd_954, List.forall_mem_cons.mpr ⟨wd_85, List.forall_mem_cons.mpr ⟨wd_955, fun _ h => absurd h List.not_mem_nil⟩⟩⟩⟩⟩, ⟨by decide, by decide, by decide +kernel⟩, by decide⟩
theorem lk_L_44 : LkV RL 44 yX4_turn cX4_turn 4 (some .int) 2 := ⟨List.forall_mem_cons.mpr ⟨wd_347, List.forall_mem_cons.mpr ⟨wd_348, List.forall_mem_cons.mpr ⟨wd_349, List.forall_mem_cons.mpr ⟨wd_80, List.forall_mem_cons.mpr ⟨wd_350, fun _ h => absurd h List.not_mem_nil⟩⟩⟩⟩⟩, ⟨by decide, by decide, by decide +kernel⟩, by decide⟩
theorem lk_L_47 : LkV RL 47 yX5_turn cX5_turn 3 (some .int) 2 := ⟨List.forall_mem_cons.mpr ⟨wd_956, List.forall_mem_cons.mpr ⟨wd_957, List.forall_mem_cons.mpr ⟨wd_958, List.forall_mem_cons.mpr ⟨wd_85, List.forall_mem_cons.mpr ⟨wd_959, fun _ h => absurd h List.not_mem_nil⟩⟩⟩⟩⟩, ⟨by decide, by decide, by decide +kernel⟩, by decide⟩
theorem lk_L_48 : LkV RL 48 yX4_as cX4_as 3 (some .int) 2 := ⟨List.forall_mem_cons.mpr ⟨wd_351, List.forall_mem_cons.mpr ⟨wd_352, List.forall_mem_cons.mpr ⟨wd_353, List.forall_mem_cons.mpr ⟨wd_80, List.forall_mem_cons.mpr ⟨wd_354, fun _ h => absurd h List.not_mem_nil⟩⟩⟩⟩⟩, ⟨by decide, by decide, by decide +kernel⟩, by decide⟩
theorem lk_L_51 : LkV RL 51 yX5_as cX5_as 4 (some .int) 2 := ⟨List.forall_mem_cons.mpr ⟨wd_960, List.forall_mem_cons.mpr ⟨wd_961, List.forall_mem_cons.mpr ⟨wd_962, List.forall_mem_cons.mpr ⟨wd_85, List.forall_mem_cons.mpr ⟨wd_963, fun _ h => absurd h List.not_mem_nil⟩⟩⟩⟩⟩, ⟨by decide, by decide, by decide +kernel⟩, by decide⟩
theorem lk_L_52 : LkV RL 52 yX4_lend cX4_lend 5 (some .int) 3 := ⟨List.forall_mem_cons.mpr ⟨wd_360, List.forall_mem_cons.mpr ⟨wd_361, List.forall_mem_cons.mpr ⟨wd_362, List.forall_mem_cons.mpr ⟨wd_80, List.forall_mem_cons.mpr ⟨wd_363, fun _ h => absurd h List.not_mem_nil⟩⟩⟩⟩⟩, ⟨by decide, by decide, by decide +kernel⟩, by decide⟩
theorem lk_L_55 : LkV RL 55 yX5_lend cX5_lend 4 (some .int) 3 := ⟨List.forall_mem_cons.mpr ⟨wd_968, List.forall_mem_cons.mpr ⟨wd_969, List.forall_mem_cons.mpr ⟨wd_970, List.forall_mem_cons.mpr ⟨wd_85, List.forall_mem_cons.mpr ⟨wd_971, fun _ h => absurd h List.not_mem_nil⟩⟩⟩⟩⟩, ⟨by decide, by decide, by decide +kernel⟩, by decide⟩
theorem lk_L_56 : LkV RL 56 yX4_hours cX4_hours 2 (some .int) 1 := ⟨List.forall_mem_cons.mpr ⟨wd_375, List.forall_mem_cons.mpr ⟨wd_376, List.forall_mem_cons.mpr ⟨wd_377, List.forall_mem_cons.mpr ⟨wd_80, List.forall_mem_cons.mpr ⟨wd_378, fun _ h => absurd h List.not_mem_nil⟩⟩⟩⟩⟩, ⟨by decide, by decide, by decide +kernel⟩, by decide⟩
theorem lk_L_59 : LkV RL 59 yX5_hours cX5_hours 2 (some .int) 1 := ⟨List.forall_mem_cons.mpr ⟨wd_986, List.forall_mem_cons.mpr ⟨wd_987, List.forall_mem_cons.mpr ⟨wd_988, List.forall_mem_cons.mpr ⟨wd_85, List.forall_mem_cons.mpr ⟨wd_989, fun _ h => absurd h List.not_mem_nil⟩⟩⟩⟩⟩, ⟨by decide, by decide, by decide +kernel⟩, by decide⟩
theorem lk_L_60 : LkV RL 60 yX4_now cX4_now 2 (some .int) 1 := ⟨List.forall_mem_cons.mpr ⟨wd_417, List.forall_mem_cons.mpr ⟨wd_418, List.forall_mem_cons.mpr ⟨wd_419, List.forall_mem_cons.mpr ⟨wd_80, List.forall_mem_cons.mpr ⟨wd_420, fun _ h => absurd h List.not_mem_nil⟩⟩⟩⟩⟩, ⟨by decide, by decide, by decide +kernel⟩, by decide⟩
theorem lk_L_63 : LkV RL 63 yX5_now cX5_now 2 (some .int) 1 := ⟨List.forall_mem_cons.mpr ⟨wd_1018, List.forall_mem_cons.mpr ⟨wd_1019, List.forall_mem_cons.mpr ⟨wd_1020, List.forall_mem_cons.mpr ⟨wd_85, List.forall_mem_cons.mpr ⟨wd_1021, fun _ h => absurd h List.not_mem_nil⟩⟩⟩⟩⟩, ⟨by decide, by decide, by decide +kernel⟩, by decide⟩
theorem lk_L_64 : LkV RL 64 yX4_on cX4_on 4 (some .int) 3 := ⟨List.forall_mem_cons.mpr ⟨wd_432, List.forall_mem_cons.mpr ⟨wd_433, List.forall_mem_cons.mpr ⟨wd_434, List.forall_mem_cons.mpr ⟨wd_80, List.forall_mem_cons.mpr ⟨wd_435, fun _ h => absurd h List.not_mem_nil⟩⟩⟩⟩⟩, ⟨by decide, by decide, by decide +kernel⟩, by decide⟩
theorem lk_L_67 : LkV RL 67 yX5_on cX5_on 4 (some .int) 3 := ⟨List.forall_mem_cons.mpr ⟨wd_1030, List.forall_mem_cons.mpr ⟨wd_1031, List.forall_mem_cons.mpr ⟨wd_1032, List.forall_mem_cons.mpr ⟨wd_85, List.forall_mem_cons.mpr ⟨wd_1033, fun _ h => absurd h List.not_mem_nil⟩⟩⟩⟩⟩, ⟨by decide, by decide, by decide +kernel⟩, by decide⟩
theorem lk_L_68 : LkV RL 68 yX4_when cX4_when 3 (some .int) 2 := ⟨List.forall_mem_cons.mpr ⟨wd_443, List.forall_mem_cons.mpr ⟨wd_444, List.forall_mem_cons.mpr ⟨wd_445, List.forall_mem_cons.mpr ⟨wd_80, List.forall_mem_cons.mpr ⟨wd_446, fun _ h => absurd h List.not_mem_nil⟩⟩⟩⟩⟩, ⟨by decide, by decide, by decide +kernel⟩, by decide⟩
theorem lk_L_71 : LkV RL 71 yX5_when cX5_when 3 (some .int) 2 := ⟨List.forall_mem_cons.mpr ⟨wd_1042, List.forall_mem_cons.mpr ⟨wd_1043, List.forall_mem_cons.mpr ⟨wd_1044, List.forall_mem_cons.mpr ⟨wd_85, List.forall_mem_cons.mpr ⟨wd_1045, fun _ h => absurd h List.not_mem_nil⟩⟩⟩⟩⟩, ⟨by decide, by decide, by decide +kernel⟩, by decide⟩
theorem lk_L_72 : LkV RL 72 yX4_meet cX4_meet 3 (some .int) 2 := ⟨List.forall_mem_cons.mpr ⟨wd_459, List.forall_mem_cons.mpr ⟨wd_460, List.forall_mem_cons.mpr ⟨wd_461, List.forall_mem_cons.mpr ⟨wd_80, List.forall_mem_cons.mpr ⟨wd_462, fun _ h => absurd h List.not_mem_nil⟩⟩⟩⟩⟩, ⟨by decide, by decide, by decide +kernel⟩, by decide⟩
theorem lk_L_75 : LkV RL 75 yX5_meet cX5_meet 4 (some .int) 2 := ⟨List.forall_mem_cons.mpr ⟨wd_1054, List.forall_mem_cons.mpr ⟨wd_1055, List.forall_mem_cons.mpr ⟨wd_1056, List.forall_mem_cons.mpr ⟨wd_85, List.forall_mem_cons.mpr ⟨wd_1057, fun _ h => absurd h List.not_mem_nil⟩⟩⟩⟩⟩, ⟨by decide, by decide, by decide +kernel⟩, by decide⟩
theorem lk_L_76 : LkV RL 76 yX4_carries cX4_carries 3 (some .int) 2 := ⟨List.forall_mem_cons.mpr ⟨wd_467, List.forall_mem_cons.mpr ⟨wd_468, List.forall_mem_cons.mpr ⟨wd_469, List.forall_mem_cons.mpr ⟨wd_80, List.forall_mem_cons.mpr ⟨wd_470, fun _ h => absurd h List.not_mem_nil⟩⟩⟩⟩⟩, ⟨by decide, by decide, by decide +kernel⟩, by decide⟩
theorem lk_L_79 : LkV RL 79 yX5_carries cX5_carries 3 (some .int) 2 := ⟨List.forall_mem_cons.mpr ⟨wd_1058, List.forall_mem_cons.mpr ⟨wd_1059, List.forall_mem_cons.mpr ⟨wd_1060, List.forall_mem_cons.mpr ⟨wd_85, List.forall_mem_cons.mpr ⟨wd_1061, fun _ h => absurd h List.not_mem_nil⟩⟩⟩⟩⟩, ⟨by decide, by decide, by decide +kernel⟩, by decide⟩
theorem lk_L_80 : LkV RL 80 yX4_soonest cX4_soonest 4 (some .int) 2 := ⟨List.forall_mem_cons.mpr ⟨wd_475, List.forall_mem_cons.mpr ⟨wd_476, List.forall_mem_cons.mpr ⟨wd_477, List.forall_mem_cons.mpr ⟨wd_80, List.forall_mem_cons.mpr ⟨wd_478, fun _ h => absurd h List.not_mem_nil⟩⟩⟩⟩⟩, ⟨by decide, by decide, by decide +kernel⟩, by decide⟩
theorem lk_L_83 : LkV RL 83 yX5_soonest cX5_soonest 4 (some .int) 2 := ⟨List.forall_mem_cons.mpr ⟨wd_1066, List.forall_mem_cons.mpr ⟨wd_1067, List.forall_mem_cons.mpr ⟨wd_1068, List.forall_mem_cons.mpr ⟨wd_85, List.forall_mem_cons.mpr ⟨wd_1069, fun _ h => absurd h List.not_mem_nil⟩⟩⟩⟩⟩, ⟨by decide, by decide, by decide +kernel⟩, by decide⟩
theorem lk_L_84 : LkV RL 84 yX4_where cX4_where 4 (some .int) 2 := ⟨List.forall_mem_cons.mpr ⟨wd_506, List.forall_mem_cons.mpr ⟨wd_507, List.forall_mem_cons.mpr ⟨wd_508, List.forall_mem_cons.mpr ⟨wd_80, List.forall_mem_cons.mpr ⟨wd_509, fun _ h => absurd h List.not_mem_nil⟩⟩⟩⟩⟩, ⟨by decide, by decide, by decide +kernel⟩, by decide⟩
theorem lk_L_87 : LkV RL 87 yX5_where cX5_where 5 (some .int) 2 := ⟨List.forall_mem_cons.mpr ⟨wd_1091, List.forall_mem_cons.mpr ⟨wd_1092, List.forall_mem_cons.mpr ⟨wd_1093, List.forall_mem_cons.mpr ⟨wd_85, List.forall_mem_cons.mpr ⟨wd_1094, fun _ h => absurd h List.not_mem_nil⟩⟩⟩⟩⟩, ⟨by decide, by decide, by decide +kernel⟩, by decide⟩
theorem lk_L_88 : LkV RL 88 yX4_waits cX4_waits 4 (some .int) 2 := ⟨List.forall_mem_cons.mpr ⟨wd_518, List.forall_mem_cons.mpr ⟨wd_519, List.forall_mem_cons.mpr ⟨wd_520, List.forall_mem_cons.mpr ⟨wd_80, List.forall_mem_cons.mpr ⟨wd_521, fun _ h => absurd h List.not_mem_nil⟩⟩⟩⟩⟩, ⟨by decide, by decide, by decide +kernel⟩, by decide⟩
theorem lk_L_91 : LkV RL 91 yX5_waits cX5_waits 5 (some .int) 2 := ⟨List.forall_mem_cons.mpr ⟨wd_1095, List.forall_mem_cons.mpr ⟨wd_1096, List.forall_mem_cons.mpr ⟨wd_1097, List.forall_mem_cons.mpr ⟨wd_85, List.forall_mem_cons.mpr ⟨wd_1098, fun _ h => absurd h List.not_mem_nil⟩⟩⟩⟩⟩, ⟨by decide, by decide, by decide +kernel⟩, by decide⟩
theorem lk_L_92 : LkV RL 92 yX4_waterhole cX4_waterhole 2 (some .int) 1 := ⟨List.forall_mem_cons.mpr ⟨wd_526, List.forall_mem_cons.mpr ⟨wd_527, List.forall_mem_cons.mpr ⟨wd_528, List.forall_mem_cons.mpr ⟨wd_80, List.forall_mem_cons.mpr ⟨wd_529, fun _ h => absurd h List.not_mem_nil⟩⟩⟩⟩⟩, ⟨by decide, by decide, by decide +kernel⟩, by decide⟩
theorem lk_L_95 : LkV RL 95 yX5_waterhole cX5_waterhole 6 (some .int) 1 := ⟨List.forall_mem_cons.mpr ⟨wd_1099, List.forall_mem_cons.mpr ⟨wd_1100, List.forall_mem_cons.mpr ⟨wd_1101, List.forall_mem_cons.mpr ⟨wd_85, List.forall_mem_cons.mpr ⟨wd_1102, fun _ h => absurd h List.not_mem_nil⟩⟩⟩⟩⟩, ⟨by decide, by decide, by decide +kernel⟩, by decide⟩
theorem lk_L_96 : LkV RL 96 yX4_many cX4_many 3 (some .int) 2 := ⟨List.forall_mem_cons.mpr ⟨wd_530, List.forall_mem_cons.mpr ⟨wd_531, List.forall_mem_cons.mpr ⟨wd_532, List.forall_mem_cons.mpr ⟨wd_80, List.forall_mem_cons.mpr ⟨wd_533, fun _ h => absurd h List.not_mem_nil⟩⟩⟩⟩⟩, ⟨by decide, by decide, by decide +kernel⟩, by decide⟩
theorem lk_L_99 : LkV RL 99 yX5_many cX5_many 5 (some .int) 2 := ⟨List.forall_mem_cons.mpr ⟨wd_1103, List.forall_mem_cons.mpr ⟨wd_1104, List.forall_mem_cons.mpr ⟨wd_1105, List.forall_mem_cons.mpr ⟨wd_85, List.forall_mem_cons.mpr ⟨wd_1106, fun _ h => absurd h List.not_mem_nil⟩⟩⟩⟩⟩, ⟨by decide, by decide, by decide +kernel⟩, by decide⟩
theorem lk_L_100 : LkV RL 100 yX4_both cX4_both 5 (some .int) 3 := ⟨List.forall_mem_cons.mpr ⟨wd_539, List.forall_mem_cons.mpr ⟨wd_540, List.forall_mem_cons.mpr ⟨wd_541, List.forall_mem_cons.mpr ⟨wd_80, List.forall_mem_cons.mpr ⟨wd_542, fun _ h => absurd h List.not_mem_nil⟩⟩⟩⟩⟩, ⟨by decide, by decide, by decide +kernel⟩, by decide⟩
theorem lk_L_103 : LkV RL 103 yX5_both cX5_both 10 (some .int) 3 := ⟨List.forall_mem_cons.mpr ⟨wd_1108, List.forall_mem_cons.mpr ⟨wd_1109, List.forall_mem_cons.mpr ⟨wd_1110, List.forall_mem_cons.mpr ⟨wd_85, List.forall_mem_cons.mpr ⟨wd_1111, fun _ h => absurd h List.not_mem_nil⟩⟩⟩⟩⟩, ⟨by decide, by decide, by decide +kernel⟩, by decide⟩
theorem lk_L_104 : LkV RL 104 yX4_censors cX4_censors 7 (some .int) 3 := ⟨List.forall_mem_cons.mpr ⟨wd_547, List.forall_mem_cons.mpr ⟨wd_548, List.forall_mem_cons.mpr ⟨wd_549, List.forall_mem_cons.mpr ⟨wd_80, List.forall_mem_cons.mpr ⟨wd_550, fun _ h => absurd h List.not_mem_nil⟩⟩⟩⟩⟩, ⟨by decide, by decide, by decide +kernel⟩, by decide⟩
theorem lk_L_107 : LkV RL 107 yX5_censors cX5_censors 8 (some .int) 3 := ⟨List.forall_mem_cons.mpr ⟨wd_1112, List.forall_mem_cons.mpr ⟨wd_1113, List.forall_mem_cons.mpr ⟨wd_1114, List.forall_mem_cons.mpr ⟨wd_85, List.forall_mem_cons.mpr ⟨wd_1115, fun _ h => absurd h List.not_mem_nil⟩⟩⟩⟩⟩, ⟨by decide, by decide, by decide +kernel⟩, by decide⟩
theorem lk_L_108 : LkV RL 108 yX4_tips cX4_tips 5 (some .int) 2 := ⟨List.forall_mem_cons.mpr ⟨wd_551, List.forall_mem_cons.mpr ⟨wd_552, List.forall_mem_cons.mpr ⟨wd_553, List.forall_mem_cons.mpr ⟨wd_80, List.forall_mem_cons.mpr ⟨wd_554, fun _ h => absurd h List.not_mem_nil⟩⟩⟩⟩⟩, ⟨by decide, by decide, by decide +kernel⟩, by decide⟩
theorem lk_L_111 : LkV RL 111 yX5_tips cX5_tips 8 (some .int) 2 := ⟨List.forall_mem_cons.mpr ⟨wd_1116, List.forall_mem_cons.mpr ⟨wd_1117, List.forall_mem_cons.mpr ⟨wd_1118, List.forall_mem_cons.mpr ⟨wd_85, List.forall_mem_cons.mpr ⟨wd_1119, fun _ h => absurd h List.not_mem_nil⟩⟩⟩⟩⟩, ⟨by decide, by decide, by decide +kernel⟩, by decide⟩
theorem lk_L_112 : LkV RL 112 yX4_spring cX4_spring 5 (some .int) 2 := ⟨List.forall_mem_cons.mpr ⟨wd_559, List.forall_mem_cons.mpr ⟨wd_560, List.forall_mem_cons.mpr ⟨wd_561, List.forall_mem_cons.mpr ⟨wd_80, List.forall_mem_cons.mpr ⟨wd_562, fun _ h => absurd h List.not_mem_nil⟩⟩⟩⟩⟩, ⟨by decide, by decide, by decide +kernel⟩, by decide⟩
theorem lk_L_115 : LkV RL 115 yX5_spring cX5_spring 9 (some .int) 2 := ⟨List.forall_mem_cons.mpr ⟨wd_1123, List.forall_mem_cons.mpr ⟨wd_1124, List.forall_mem_cons.mpr ⟨wd_1125, List.forall_mem_cons.mpr ⟨wd_85, List.forall_mem_cons.mpr ⟨wd_1126, fun _ h => absurd h List.not_mem_nil⟩⟩⟩⟩⟩, ⟨by decide, by decide, by decide +kernel⟩, by decide⟩
theorem lk_L_116 : LkV RL 116 yX4_kind cX4_kind 4 (some .int) 2 := ⟨List.forall_mem_cons.mpr ⟨wd_567, List.forall_mem_cons.mpr ⟨wd_568, List.forall_mem_cons.mpr ⟨wd_569, List.forall_mem_cons.mpr ⟨wd_80, List.forall_mem_cons.mpr ⟨wd_570, fun _ h => absurd h List.not_mem_nil⟩⟩⟩⟩⟩, ⟨by decide, by decide, by decide +kernel⟩, by decide⟩
theorem lk_L_119 : LkV RL 119 yX5_kind cX5_kind 8 (some .int) 2 := ⟨List.forall_mem_cons.mpr ⟨wd_1127, List.forall_mem_cons.mpr ⟨wd_1128, List.forall_mem_cons.mpr ⟨wd_1129, List.forall_mem_cons.mpr ⟨wd_85, List.forall_mem_cons.mpr ⟨wd_1130, fun _ h => absurd h List.not_mem_nil⟩⟩⟩⟩⟩, ⟨by decide, by decide, by decide +kernel⟩, by decide⟩
theorem lk_L_120 : LkV RL 120 yX4_feed cX4_feed 3 (some .int) 2 := ⟨List.forall_mem_cons.mpr ⟨wd_575, List.forall_mem_cons.mpr ⟨wd_576, List.forall_mem_cons.mpr ⟨wd_577, List.forall_mem_cons.mpr ⟨wd_80, List.forall_mem_cons.mpr ⟨wd_578, fun _ h => absurd h List.not_mem_nil⟩⟩⟩⟩⟩, ⟨by decide, by decide, by decide +kernel⟩, by decide⟩
theorem lk_L_123 : LkV RL 123 yX5_feed cX5_feed 4 (some .int) 2 := ⟨List.forall_mem_cons.mpr ⟨wd_1131, List.forall_mem_cons.mpr ⟨wd_1132, List.forall_mem_cons.mpr ⟨wd_1133, List.forall_mem_cons.mpr ⟨wd_85, List.forall_mem_cons.mpr ⟨wd_1134, fun _ h => absurd h List.not_mem_nil⟩⟩⟩⟩⟩, ⟨by decide, by decide, by decide +kernel⟩, by decide⟩
theorem lk_L_124 : LkV RL 124 yX4_wipe cX4_wipe 2 (some .int) 0 := ⟨List.forall_mem_cons.mpr ⟨wd_583, List.forall_mem_cons.mpr ⟨wd_584, List.forall_mem_cons.mpr ⟨wd_585, List.forall_mem_cons.mpr ⟨wd_80, List.forall_mem_cons.mpr ⟨wd_586, fun _ h => absurd h List.not_mem_nil⟩⟩⟩⟩⟩, ⟨by decide, by decide, by decide +kernel⟩, by decide⟩
theorem lk_L_128 : LkV RL 128 yX5_wipe cX5_wipe 2 (some .int) 0 := ⟨List.forall_mem_cons.mpr ⟨wd_1136, List.forall_mem_cons.mpr ⟨wd_1137, List.forall_mem_cons.mpr ⟨wd_1138, List.forall_mem_cons.mpr ⟨wd_85, List.forall_mem_cons.mpr ⟨wd_1139, fun _ h => absurd h List.not_mem_nil⟩⟩⟩⟩⟩, ⟨by decide, by decide, by decide +kernel⟩, by decide⟩
theorem lk_L_129 : LkV RL 129 yX4_island cX4_island 2 (some .int) 0 := ⟨List.forall_mem_cons.mpr ⟨wd_587, List.forall_mem_cons.mpr ⟨wd_588, List.forall_mem_cons.mpr ⟨wd_589, List.forall_mem_cons.mpr ⟨wd_80, List.forall_mem_cons.mpr ⟨wd_590, fun _ h => absurd h List.not_mem_nil⟩⟩⟩⟩⟩, ⟨by decide, by decide, by decide +kernel⟩, by decide⟩
theorem lk_L_132 : LkV RL 132 yX5_island cX5_island 2 (some .int) 0 := ⟨List.forall_mem_cons.mpr ⟨wd_1140, List.forall_mem_cons.mpr ⟨wd_1141, List.forall_mem_cons.mpr ⟨wd_1142, List.forall_mem_cons.mpr ⟨wd_85, List.forall_mem_cons.mpr ⟨wd_1143, fun _ h => absurd h List.not_mem_nil⟩⟩⟩⟩⟩, ⟨by decide, by decide, by decide +kernel⟩, by decide⟩
theorem lk_L_133 : LkV RL 133 yX4_sheet cX4_sheet 4 (some .int) 3 := ⟨List.forall_mem_cons.mpr ⟨wd_709, List.forall_mem_cons.mpr ⟨wd_710, List.forall_mem_cons.mpr ⟨wd_711, List.forall_mem_cons.mpr ⟨wd_80, List.forall_mem_cons.mpr ⟨wd_712, fun _ h => absurd h List.not_mem_nil⟩⟩⟩⟩⟩, ⟨by decide, by decide, by decide +kernel⟩, by decide⟩
theorem lk_L_136 : LkV RL 136 yX5_sheet cX5_sheet 5 (some .int) 3 := ⟨List.forall_mem_cons.mpr ⟨wd_1229, List.forall_mem_cons.mpr ⟨wd_1230, List.forall_mem_cons.mpr ⟨wd_1231, List.forall_mem_cons.mpr ⟨wd_85, List.forall_mem_cons.mpr ⟨wd_1232, fun _ h => absurd h List.not_mem_nil⟩⟩⟩⟩⟩, ⟨by decide, by decide, by decide +kernel⟩, by decide⟩
theorem lk_L_139 : LkV RL 139 yX4_write cX4_write 9 (some .long) 3 := ⟨List.forall_mem_cons.mpr ⟨wd_717, List.forall_mem_cons.mpr ⟨wd_718, List.forall_mem_cons.mpr ⟨wd_719, List.forall_mem_cons.mpr ⟨wd_80, List.forall_mem_cons.mpr ⟨wd_720, fun _ h => absurd h List.not_mem_nil⟩⟩⟩⟩⟩, ⟨by decide, by decide, by decide +kernel⟩, by decide⟩
theorem lk_L_143 : LkV RL 143 yX5_write cX5_write 8 (some .long) 3 := ⟨List.forall_mem_cons.mpr ⟨wd_1238, List.forall_mem_cons.mpr ⟨wd_1239, List.forall_mem_cons.mpr ⟨wd_1240, List.forall_mem_cons.mpr ⟨wd_85, List.forall_mem_cons.mpr ⟨wd_1241, fun _ h => absurd h List.not_mem_nil⟩⟩⟩⟩⟩, ⟨by decide, by decide, by decide +kernel⟩, by decide⟩
theorem lk_L_144 : LkV RL 144 yX4_copy cX4_copy 8 (some .int) 5 := ⟨List.forall_mem_cons.mpr ⟨wd_733, List.forall_mem_cons.mpr ⟨wd_734, List.forall_mem_cons.mpr ⟨wd_735, List.forall_mem_cons.mpr ⟨wd_80, List.forall_mem_cons.mpr ⟨wd_736, fun _ h => absurd h List.not_mem_nil⟩⟩⟩⟩⟩, ⟨by decide, by decide, by decide +kernel⟩, by decide⟩
theorem lk_L_148 : LkV RL 148 yX5_copy cX5_copy 7 (some .int) 5 := ⟨List.forall_mem_cons.mpr ⟨wd_1250, List.forall_mem_cons.mpr ⟨wd_1251, List.forall_mem_cons.mpr ⟨wd_1252, List.forall_mem_cons.mpr ⟨wd_85, List.forall_mem_cons.mpr ⟨wd_1253, fun _ h => absurd h List.not_mem_nil⟩⟩⟩⟩⟩, ⟨by decide, by decide, by decide +kernel⟩, by decide⟩
theorem lk_L_149 : LkV RL 149 yX4_lays cX4_lays 3 (some .int) 1 := ⟨List.forall_mem_cons.mpr ⟨wd_744, List.forall_mem_cons.mpr ⟨wd_745, List.forall_mem_cons.mpr ⟨wd_746, List.forall_mem_cons.mpr ⟨wd_80, List.forall_mem_cons.mpr ⟨wd_747, fun _ h => absurd h List.not_mem_nil⟩⟩⟩⟩⟩, ⟨by decide, by decide, by decide +kernel⟩, by decide⟩
theorem lk_L_152 : LkV RL 152 yX5_lays cX5_lays 7 (some .int) 1 := ⟨List.forall_mem_cons.mpr ⟨wd_1254, List.forall_mem_cons.mpr ⟨wd_1255, List.forall_mem_cons.mpr ⟨wd_1256, List.forall_mem_cons.mpr ⟨wd_85, List.forall_mem_cons.mpr ⟨wd_1257, fun _ h => absurd h List.not_mem_nil⟩⟩⟩⟩⟩, ⟨by decide, by decide, by decide +kernel⟩, by decide⟩
theorem lk_L_153 : LkV RL 153 yX4_book cX4_book 6 (some .int) 2 := ⟨List.forall_mem_cons.mpr ⟨wd_753, List.forall_mem_cons.mpr ⟨wd_754, List.forall_mem_cons.mpr ⟨wd_755, List.forall_mem_cons.mpr ⟨wd_80, List.forall_mem_cons.mpr ⟨wd_756, fun _ h => absurd h List.not_mem_nil⟩⟩⟩⟩⟩, ⟨by decide, by decide, by decide +kernel⟩, by decide⟩
theorem lk_L_156 : LkV RL 156 yX5_book cX5_book 5 (some .int) 2 := ⟨List.forall_mem_cons.mpr ⟨wd_1258, List.forall_mem_cons.mpr ⟨wd_1259, List.forall_mem_cons.mpr ⟨wd_1260, List.forall_mem_cons.mpr ⟨wd_85, List.forall_mem_cons.mpr ⟨wd_1261, fun _ h => absurd h List.not_mem_nil⟩⟩⟩⟩⟩, ⟨by decide, by decide, by decide +kernel⟩, by decide⟩
theorem lk_L_157 : LkV RL 157 yX4_read cX4_read 7 (some .int) 2 := ⟨List.forall_mem_cons.mpr ⟨wd_758, List.forall_mem_cons.mpr ⟨wd_759, List.forall_mem_cons.mpr ⟨wd_760, List.forall_mem_cons.mpr ⟨wd_80, List.forall_mem_cons.mpr ⟨wd_761, fun _ h => absurd h List.not_mem_nil⟩⟩⟩⟩⟩, ⟨by decide, by decide, by decide +kernel⟩, by decide⟩
theorem lk_L_160 : LkV RL 160 yX5_read cX5_read 7 (some .int) 2 := ⟨List.forall_mem_cons.mpr ⟨wd_1266, List.forall_mem_cons.mpr ⟨wd_1267, List.forall_mem_cons.mpr ⟨wd_1268, List.forall_mem_cons.mpr ⟨wd_85, List.forall_mem_cons.mpr ⟨wd_1269, fun _ h => absurd h List.not_mem_nil⟩⟩⟩⟩⟩, ⟨by decide, by decide, by decide +kernel⟩, by decide⟩
theorem lk_L_161 : LkV RL 161 yX4_image cX4_image 1 (some .int) 0 := ⟨List.forall_mem_cons.mpr ⟨wd_766, List.forall_mem_cons.mpr ⟨wd_767, List.forall_mem_cons.mpr ⟨wd_768, List.forall_mem_cons.mpr ⟨wd_80, List.forall_mem_cons.mpr ⟨wd_769, fun _ h => absurd h List.not_mem_nil⟩⟩⟩⟩⟩, ⟨by decide, by decide, by decide +kernel⟩, by decide⟩
theorem lk_L_164 : LkV RL 164 yX5_image cX5_image 2 (some .int) 0 := ⟨List.forall_mem_cons.mpr ⟨wd_1274, List.forall_mem_cons.mpr ⟨wd_1275, List.forall_mem_cons.mpr ⟨wd_1276, List.forall_mem_cons.mpr ⟨wd_85, List.forall_mem_cons.mpr ⟨wd_1277, fun _ h => absurd h List.not_mem_nil⟩⟩⟩⟩⟩, ⟨by decide, by decide, by decide +kernel⟩, by decide⟩
theorem lk_L_165 : LkV RL 165 yX4_undo cX4_undo 1 (some .int) 0 := ⟨List.forall_mem_cons.mpr ⟨wd_770, List.forall_mem_cons.mpr ⟨wd_771, List.forall_mem_cons.mpr ⟨wd_772, List.forall_mem_cons.mpr ⟨wd_80, List.forall_mem_cons.mpr ⟨wd_773, fun _ h => absurd h List.not_mem_nil⟩⟩⟩⟩⟩, ⟨by decide, by decide, by decide +kernel⟩, by decide⟩
theorem lk_L_168 : LkV RL 168 yX5_undo cX5_undo 2 (some .int) 0 := ⟨List.forall_mem_cons.mpr ⟨wd_1278, List.forall_mem_cons.mpr ⟨wd_1279, List.forall_mem_cons.mpr ⟨wd_1280, List.forall_mem_cons.mpr ⟨wd_85, List.forall_mem_cons.mpr ⟨wd_1281, fun _ h => absurd h List.not_mem_nil⟩⟩⟩⟩⟩, ⟨by decide, by decide, by decide +kernel⟩, by decide⟩
theorem lk_L_169 : LkV RL 169 yX4_tear cX4_tear 2 (some .int) 0 := ⟨List.forall_mem_cons.mpr ⟨wd_774, List.forall_mem_cons.mpr ⟨wd_775, List.forall_mem_cons.mpr ⟨wd_776, List.forall_mem_cons.mpr ⟨wd_80, List.forall_mem_cons.mpr ⟨wd_777, fun _ h => absurd h List.not_mem_nil⟩⟩⟩⟩⟩, ⟨by decide, by decide, by decide +kernel⟩, by decide⟩
theorem lk_L_172 : LkV RL 172 yX5_tear cX5_tear 2 (some .int) 0 := ⟨List.forall_mem_cons.mpr ⟨wd_1282, List.forall_mem_cons.mpr ⟨wd_1283, List.forall_mem_cons.mpr ⟨wd_1284, List.forall_mem_cons.mpr ⟨wd_85, List.forall_mem_cons.mpr ⟨wd_1285, fun _ h => absurd h List.not_mem_nil⟩⟩⟩⟩⟩, ⟨by decide, by decide, by decide +kernel⟩, by decide⟩
theorem lk_L_173 : LkV RL 173 yX4_count cX4_count 2 (some .int) 1 := ⟨List.forall_mem_cons.mpr ⟨wd_778, List.forall_mem_cons.mpr ⟨wd_779, List.forall_mem_cons.mpr ⟨wd_780, List.forall_mem_cons.mpr ⟨wd_80, List.forall_mem_cons.mpr ⟨wd_781, fun _ h => absurd h List.not_mem_nil⟩⟩⟩⟩⟩, ⟨by decide, by decide, by decide +kernel⟩, by decide⟩
theorem lk_L_176 : LkV RL 176 yX5_count cX5_count 2 (some .int) 1 := ⟨List.forall_mem_cons.mpr ⟨wd_1286, List.forall_mem_cons.mpr ⟨wd_1287, List.forall_mem_cons.mpr ⟨wd_1288, List.forall_mem_cons.mpr ⟨wd_85, List.forall_mem_cons.mpr ⟨wd_1289, fun _ h => absurd h List.not_mem_nil⟩⟩⟩⟩⟩, ⟨by decide, by decide, by decide +kernel⟩, by decide⟩
theorem lk_L_177 : LkV RL 177 yX4_status cX4_status 4 (some .int) 1 := ⟨List.forall_mem_cons.mpr ⟨wd_786, List.forall_mem_cons.mpr ⟨wd_787, List.forall_mem_cons.mpr ⟨wd_788, List.forall_mem_cons.mpr ⟨wd_80, List.forall_mem_cons.mpr ⟨wd_789, fun _ h => absurd h List.not_mem_nil⟩⟩⟩⟩⟩, ⟨by decide, by decide, by decide +kernel⟩, by decide⟩
theorem lk_L_180 : LkV RL 180 yX5_status cX5_status 4 (some .int) 1 := ⟨List.forall_mem_cons.mpr ⟨wd_1294, List.forall_mem_cons.mpr ⟨wd_1295, List.forall_mem_cons.mpr ⟨wd_1296, List.forall_mem_cons.mpr ⟨wd_85, List.forall_mem_cons.mpr ⟨wd_1297, fun _ h => absurd h List.not_mem_nil⟩⟩⟩⟩⟩, ⟨by decide, by decide, by decide +kernel⟩, by decide⟩
end
section
/-! what else the walks use -/
def fu : Nat := 200
def ushr (x y : Int32) : Int32 := (x.toUInt32 >>> (y.toUInt32 &&& Int32.toUInt32 31)).toInt32
theorem sw_out {lo hi : Int} {n : Nat} (x : Int32) (ks : List Int32) (hk : ks.map Int32.toInt = (List.range n).map (fun i : Nat => lo + (i : Int))) (hh : lo + n = hi + 1) (h : ∀ k ∈ ks, ¬ x = k) : x.toInt < lo ∨ hi < x.toInt := by
  by_cases h1 : x.toInt < lo
  · exact Or.inl h1
  · refine Or.inr ?_
    by_cases h2 : hi < x.toInt
    · exact h2
    · exfalso
      have hm : x.toInt ∈ (List.range n).map (fun i : Nat => lo + (i : Int)) := List.mem_map.mpr ⟨(x.toInt - lo).toNat, List.mem_range.mpr (by omega), by omega⟩
      rw [← hk] at hm
      obtain ⟨k, hk1, hk2⟩ := List.mem_map.mp hm
      exact h k hk1 (Int32.toInt_inj.mp hk2.symm)
section MORE
variable {Z : Zt} {E : Ec} {cc : ByteArray} {nL : Nat} {own : String} {ret : Option FieldType} {h : Nat} {β : Type} {fin : β → Option Value × Mi × Ml} {pc : Nat} {lv lv' : List (Nat × Value)} {st rest : List Value} {M M' : Mi} {N N' : Ml} {t t1 t2 : Option β}
theorem r_sel {tj : Nat} {sj : List Value} (K : GT Z E nL fin tj lv sj M N t) (k : GT Z E nL fin tj lv sj M N t → GT Z E nL fin pc lv st M N t) : GT Z E nL fin pc lv st M N t := k K
theorem r_stk {v v' : Int32} (e : v' = v) (K : GT Z E nL fin pc lv (.int v' :: rest) M N t) : GT Z E nL fin pc lv (.int v :: rest) M N t := by subst e; exact K
theorem Fr.S {H0 H : Heap} {locs : List Loc} (h2 : Fr Z H0 H) (h3 : ∀ q ∈ locs, InA Z q.base) : va_S (InA Z) H0 H locs := ⟨by rw [h2.1]; exact Nat.le_refl _, fun q _ hq => h2.2 q hq, h3⟩
theorem r_kab (C : Ok 1 Z E cc nL RX4 ret h) (hd : decode cc pc = .ok (.getstatic 287, 3)) (kk : GT Z E nL fin (pc + 3) lv (.ref (zA Z 42 0) :: rest) M N t) : GT Z E nL fin pc lv rest M N t :=
  fun b hb H locs ls h1 h2 h3 h4 => va_gets C.x C.b (C.z.S _ C.sta).1 (h2.S h3) C.ow (C.ts _ wd_358) (fun _ q => q) hd (kk b hb H locs ls h1 h2 h3 h4)
theorem ald_K {i v : Int32} (C : Ok 1 Z E cc nL own ret h) (hin : inb i 6) (hv : kab (ix i) = v) (hd : decode cc pc = .ok (.iaload, 1)) (kk : GT Z E nL fin (pc + 1) lv (.int v :: rest) M N t) : GT Z E nL fin pc lv (.int i :: .ref (zA Z 42 0) :: rest) M N t :=
  fun b hb H locs ls h1 h2 h3 h4 => va_ti C.x C.b (C.z.S _ C.sta).2.1 (h2.S h3) (inb_in hin) (v := .int v) (by rw [← hv]) hd (kk b hb H locs ls h1 h2 h3 h4)
theorem r_ldcS {i k : Nat} {tx : String} (C : Ok 1 Z E cc nL RX3 ret h) (hd : decode cc pc = .ok (.ldc i, 2)) (hk : sTxt[k]? = some (i, tx)) (kk : GT Z E nL fin (pc + 2) lv (.ref (zA Z 40 k) :: rest) M N t) : GT Z E nL fin pc lv rest M N t :=
  fun b hb H locs ls h1 h2 h3 h4 => va_ldcS C.x C.b C.ow ((C.z.S _ C.sta).2.2.2.1 k i tx hk) hd (kk b hb H locs ls h1 h2 h3 h4)
theorem rvStr {w : Nat} (C : Ok 1 Z E cc nL own ret h) (hw : w < 14) : RcV Z E M N (zA Z 40 w) RJ0 := fun H _ h2 => vk_recv (locs := []) (C.z.S _ C.sta).2.2.1 hw (h2.S (fun _ q => by cases q))
theorem r_min {x y : Int32} (C : Ok 1 Z E cc nL RX3 ret h) (hh : 0 < h) (hW : (rest.map fun v => v.category).sum ≤ 8) (hd : decode cc pc = .ok (.invokestatic 134, 3)) (kk : GT Z E nL fin (pc + 3) lv (.int (if y < x then y else x) :: rest) M N t) : GT Z E nL fin pc lv (.int y :: .int x :: rest) M N t :=
  fun b hb H locs ls h1 h2 h3 h4 => va_mmin C.x C.b (C.ml.trans h4.1.symm) C.ow (C.ts _ wd_605) (C.ts _ wd_606) (C.ts _ wd_87) (C.ts _ wd_607) (by rw [C.rm]; exact hh) (by rw [C.rm]; show _ + 13 ≤ 30 * h; omega) (Nat.zero_le _) (Nat.zero_le _) hd (kk b hb H locs ls h1 h2 h3 h4)
end MORE
section COPY
variable {p : Program} {l : Launch} {e : Env} {R : Room} {s : State} {m : MethodId} {args : Array Value} {below : List Frame} {meth : Method} {c : Code} {H : Heap} {locs : List Loc} {cells slots : Nat} {Q : State → Prop}
variable {cc : ByteArray} {pc : Nat} {ls : Array Slot} {rest : List Value} {D : va_G} {cl : List vw_C} {a : Nat} {tys : List (ClassId × FieldType)}
theorem x_copyl (hexec : p.tables.exec = Jvm.exec) (hb : c.code = cc) (hml : c.maxLocals = ls.size) {own : String} {index : Nat} (hown : s.vm.findClass own = some m.cls) (hlink : (Cond.methodLink own index arraycopyName).before args s = true) (hnat : (Cond.native arraycopyName).before args s = true) (hstat : (Cond.static arraycopyName).before args s = true) (hini : (Cond.initialized "java/lang/System").before args s = true)
    (hK : va_K D cl tys s) (t0 : Nat) {a0 : Nat} {c0 : ClassId} {n0 n1 : Nat} {f g : Nat → Int64} (ha0 : va_at D cl (a0, .inl (c0, n0, .inr (.inl f))) H) (ha1 : va_at D cl (a, .inl (c0, n1, .inr (.inl g))) H) (ht0 : tys[t0]? = some (c0, .long))
    {sp dp n : Int32} (h1 : ¬ sp < 0) (h2 : ¬ dp < 0) (h3 : ¬ n < 0) (h4 : sp.toNatClampNeg + n.toNatClampNeg ≤ n0) (h5 : dp.toNatClampNeg + n.toNatClampNeg ≤ n1)
    (hframes : 1 ≤ R.frames) (hlocals : (rest.map fun v => v.category).sum + (nativeFrameWords "java/lang/System" "arraycopy" 5 + 11) ≤ R.locals) (hdg : decode cc pc = .ok (.invokestatic index, 3))
    (kk : ∀ (H1 : Heap) (L : List Loc), va_at D cl (a, .inl (c0, n1, .inr (.inl (va_cpy f g sp.toNatClampNeg dp.toNatClampNeg n.toNatClampNeg)))) H1 → H1.size = H.size → (∀ q : Nat, q ≠ a → H1[q]? = H[q]?) → (∀ q ∈ L, q.base = a) → W p l e R s m args below meth c H1 (locs ++ L) cells slots Q (F0 m (pc + 3) ls rest)) : W p l e R s m args below meth c H locs cells slots Q (F0 m pc ls (.int n :: .int dp :: .ref a :: .int sp :: .ref a0 :: rest)) := by
  have nn : ∀ z : Int32, ¬ z < 0 → z.toInt = (z.toNatClampNeg : Int) := by
    intro z hz
    have hz0 : (0 : Int) ≤ z.toInt := by
      have := Int32.not_lt.mp hz
      simpa using Int32.le_iff_toInt_le.mp this
    show z.toInt = ((z.toInt.toNat : Nat) : Int)
    omega
  intro T hT X
  have hc0 : H[a0]? = some (vp_cell c0 (n0, .inr (.inl f))) := ha0
  have hc1 : H[a]? = some (vp_cell c0 (n1, .inr (.inl g))) := ha1
  obtain ⟨-, k0, hk0, cm0, hkk0⟩ := (hK.2 t0 _ ht0).1 n0 (fun j => .long (f j))
  obtain ⟨-, k1, hk1, cm1, hkk1⟩ := (hK.2 t0 _ ht0).1 n1 (fun j => .long (g j))
  obtain ⟨vm', X', step⟩ := X.arraycopy hexec hown hlink hnat hstat hini (src := a0) (dst := a) (cs := vp_cell c0 (n0, .inr (.inl f))) (cd := vp_cell c0 (n1, .inr (.inl g))) (srcPos := sp) (destPos := dp) (n := n) (by rw [hT]; exact hc0) (by rw [hT]; exact hc1)
    (fun _ h => by cases h) (fun _ h => by cases h) (fun h => by cases h) (fun h => by cases h) hk0 hk1 hkk0 hkk1 (by simp [refKind]) h1 h2 h3
    (by rw [nn sp h1, nn n h3]; show ¬ _ > ((arrV c0 n0 (fun j => .long (f j))).slots.size : Int); rw [arrV_size]; omega)
    (by rw [nn dp h2, nn n h3]; show ¬ _ > ((arrV c0 n1 (fun j => .long (g j))).slots.size : Int); rw [arrV_size]; omega)
    (fun vm₁ _ i hi => by
      have e : (vp_cell c0 (n0, .inr (.inl f))).slots.getD (sp.toNatClampNeg + i) .null = .long (f (sp.toNatClampNeg + i)) := by
        show (arrV c0 n0 (fun j => .long (f j))).slots.getD _ _ = _
        rw [Array.getD_eq_getD_getElem?, arrV_read _ _ (by omega)]
        rfl
      refine ⟨?_, ?_⟩
      · rw [e]
        rfl
      · rw [e]
        exact trivial)
    (g := F0 m pc ls (.int n :: .int dp :: .ref a :: .int sp :: .ref a0 :: rest)) rfl (by rw [hml]) (rest := rest) rfl (by rw [hb]; exact hdg) hframes (by show 2 * 0 + _ + _ ≤ _; omega)
  have e1 : copied (vp_cell c0 (n0, .inr (.inl f))) (vp_cell c0 (n1, .inr (.inl g))) sp dp n = vp_cell c0 (n1, .inr (.inl (va_cpy f g sp.toNatClampNeg dp.toNatClampNeg n.toNatClampNeg))) := va_copied (fun z => .long z) c0 c0 f g h4
  rw [e1] at X' step
  have hl : a < H.size := (Array.getElem?_eq_some_iff.mp hc1).1
  have hheap : ((T.setVm vm').setCell a (vp_cell c0 (n1, .inr (.inl (va_cpy f g sp.toNatClampNeg dp.toNatClampNeg n.toNatClampNeg))))).heap = H.setIfInBounds a (vp_cell c0 (n1, .inr (.inl (va_cpy f g sp.toNatClampNeg dp.toNatClampNeg n.toNatClampNeg)))) := by rw [← hT]; rfl
  obtain ⟨t, a1, b1⟩ := kk (H.setIfInBounds a (vp_cell c0 (n1, .inr (.inl (va_cpy f g sp.toNatClampNeg dp.toNatClampNeg n.toNatClampNeg))))) _ (show (H.setIfInBounds a _)[a]? = some _ by simp [Array.getElem?_setIfInBounds, hl]) (by simp) (fun q hq => by simp [Array.getElem?_setIfInBounds, Ne.symm hq]) (fun q hq => by
      obtain ⟨z, -, hz⟩ := List.mem_map.mp hq
      rw [← hz]) _ hheap X'
  exact ⟨t, step t a1, b1⟩
end COPY
abbrev cpOk (sp dp n : Int32) : Prop := ¬ sp < 0 ∧ ¬ dp < 0 ∧ ¬ n < 0 ∧ ix sp + ix n ≤ 40 ∧ ix dp + ix n ≤ 40
section MORE2
variable {Z : Zt} {E : Ec} {cc : ByteArray} {nL : Nat} {own : String} {ret : Option FieldType} {h : Nat} {β : Type} {fin : β → Option Value × Mi × Ml} {pc : Nat} {lv lv' : List (Nat × Value)} {st rest : List Value} {M M' : Mi} {N N' : Ml} {t t1 t2 : Option β}
theorem r_copy {g1 g2 : Nat} {sp dp n : Int32} (C : Ok 1 Z E cc nL RX4 ret h) (hh : 0 < h) (hg1 : 20 ≤ g1 ∧ g1 < 24) (hg2 : 20 ≤ g2 ∧ g2 < 24) (ho : cpOk sp dp n) (hN : sR N g2 (va_cpy (N g1) (N g2) (ix sp) (ix dp) (ix n)) = N') (hd : decode cc pc = .ok (.invokestatic 255, 3)) (kk : GT Z E nL fin (pc + 3) lv [] M N' t) : GT Z E nL fin pc lv [.int n, .int dp, .ref (zA Z g2 1), .int sp, .ref (zA Z g1 1)] M N t := by
  intro b hb H locs ls h1 h2 h3 h4
  have q1 : 1 ≤ E.2.2.2.1.frames := by rw [C.rm]; exact hh
  have q3 : nativeFrameWords "java/lang/System" "arraycopy" 5 + 11 ≤ 30 := by decide +kernel
  have q2 : (([] : List Value).map fun v => v.category).sum + (nativeFrameWords "java/lang/System" "arraycopy" 5 + 11) ≤ E.2.2.2.1.locals := by
    rw [C.rm]
    show 0 + (nativeFrameWords "java/lang/System" "arraycopy" 5 + 11) ≤ 30 * h
    omega
  refine x_copyl (rest := []) C.x C.b (C.ml.trans h4.1.symm) C.ow (C.ts _ wd_741) (C.ts _ wd_743) (C.ts _ wd_742) (C.ts _ wd_92) C.kn.1 1 (h1 g1 1 _ (lyS C.z hg1 _ _ 1)) (h1 g2 1 _ (lyS C.z hg2 _ _ 1)) rfl ho.1 ho.2.1 ho.2.2.1 ho.2.2.2.1 ho.2.2.2.2 q1 q2 hd (fun H1 L he hz oq hL => ?_)
  have hR := h1.put C.z.1 (lyS C.z hg2 _ _ 1) ((lyS C.z hg2 (M g2) (va_cpy (N g1) (N g2) (ix sp) (ix dp) (ix n)) 1)) he oq (fun p e hp q => by
    rw [lyS C.z hg2] at q ⊢
    rw [← q]
    match p, hp with
    | 0, _ => rfl
    | 1, hp => exact absurd rfl hp
    | n + 2, _ => rfl)
  rw [sR_self, hN] at hR
  exact kk b hb H1 _ ls hR (h2.set ⟨g2, 1, _, _, _, lyS C.z hg2 (M g2) (N g2) 1, rfl⟩ hz oq) (locs_app h3 (fun q hq => by rw [hL q hq]; exact ⟨g2, 1, _, _, _, lyS C.z hg2 (M g2) (N g2) 1, rfl⟩)) h4
end MORE2
end
section
theorem dJ0_length_8abf5_0 : decode cJ0_length_8abf5 0 = .ok (.aload_n 0, 1) := by decide +kernel
theorem dJ0_length_8abf5_1 : decode cJ0_length_8abf5 1 = .ok (.getfield 9, 3) := by decide +kernel
theorem dJ0_length_8abf5_4 : decode cJ0_length_8abf5 4 = .ok (.arraylength, 1) := by decide +kernel
theorem dJ0_length_8abf5_5 : decode cJ0_length_8abf5 5 = .ok (.aload_n 0, 1) := by decide +kernel
theorem dJ0_length_8abf5_6 : decode cJ0_length_8abf5 6 = .ok (.invokevirtual 335, 3) := by decide +kernel
theorem dJ0_length_8abf5_9 : decode cJ0_length_8abf5 9 = .ok (.ishr, 1) := by decide +kernel
theorem dJ0_length_8abf5_10 : decode cJ0_length_8abf5 10 = .ok (.ireturn, 1) := by decide +kernel
theorem dJ0_charAt_5068e_0 : decode cJ0_charAt_5068e 0 = .ok (.aload_n 0, 1) := by decide +kernel
theorem dJ0_charAt_5068e_1 : decode cJ0_charAt_5068e 1 = .ok (.invokevirtual 492, 3) := by decide +kernel
theorem dJ0_charAt_5068e_4 : decode cJ0_charAt_5068e 4 = .ok (.ifCond .eq 12, 3) := by decide +kernel
theorem dJ0_charAt_5068e_7 : decode cJ0_charAt_5068e 7 = .ok (.aload_n 0, 1) := by decide +kernel
theorem dJ0_charAt_5068e_8 : decode cJ0_charAt_5068e 8 = .ok (.getfield 9, 3) := by decide +kernel
theorem dJ0_charAt_5068e_11 : decode cJ0_charAt_5068e 11 = .ok (.iload_n 1, 1) := by decide +kernel
theorem dJ0_charAt_5068e_12 : decode cJ0_charAt_5068e 12 = .ok (.invokestatic 495, 3) := by decide +kernel
theorem dJ0_charAt_5068e_15 : decode cJ0_charAt_5068e 15 = .ok (.ireturn, 1) := by decide +kernel
theorem dJ0_charAt_5068e_16 : decode cJ0_charAt_5068e 16 = .ok (.aload_n 0, 1) := by decide +kernel
theorem dJ0_charAt_5068e_17 : decode cJ0_charAt_5068e 17 = .ok (.getfield 9, 3) := by decide +kernel
theorem dJ0_charAt_5068e_20 : decode cJ0_charAt_5068e 20 = .ok (.iload_n 1, 1) := by decide +kernel
theorem dJ0_charAt_5068e_21 : decode cJ0_charAt_5068e 21 = .ok (.invokestatic 498, 3) := by decide +kernel
theorem dJ0_charAt_5068e_24 : decode cJ0_charAt_5068e 24 = .ok (.ireturn, 1) := by decide +kernel
theorem dJ0_coder_7d493_0 : decode cJ0_coder_7d493 0 = .ok (.getstatic 38, 3) := by decide +kernel
theorem dJ0_coder_7d493_3 : decode cJ0_coder_7d493 3 = .ok (.ifCond .eq 10, 3) := by decide +kernel
theorem dJ0_coder_7d493_6 : decode cJ0_coder_7d493 6 = .ok (.aload_n 0, 1) := by decide +kernel
theorem dJ0_coder_7d493_7 : decode cJ0_coder_7d493 7 = .ok (.getfield 15, 3) := by decide +kernel
theorem dJ0_coder_7d493_10 : decode cJ0_coder_7d493 10 = .ok (.goto 4, 3) := by decide +kernel
theorem dJ0_coder_7d493_13 : decode cJ0_coder_7d493 13 = .ok (.iconst 1, 1) := by decide +kernel
theorem dJ0_coder_7d493_14 : decode cJ0_coder_7d493 14 = .ok (.ireturn, 1) := by decide +kernel
theorem dJ0_isLatin1_aae02_0 : decode cJ0_isLatin1_aae02 0 = .ok (.getstatic 38, 3) := by decide +kernel
theorem dJ0_isLatin1_aae02_3 : decode cJ0_isLatin1_aae02 3 = .ok (.ifCond .eq 14, 3) := by decide +kernel
theorem dJ0_isLatin1_aae02_6 : decode cJ0_isLatin1_aae02 6 = .ok (.aload_n 0, 1) := by decide +kernel
theorem dJ0_isLatin1_aae02_7 : decode cJ0_isLatin1_aae02 7 = .ok (.getfield 15, 3) := by decide +kernel
theorem dJ0_isLatin1_aae02_10 : decode cJ0_isLatin1_aae02 10 = .ok (.ifCond .ne 7, 3) := by decide +kernel
theorem dJ0_isLatin1_aae02_13 : decode cJ0_isLatin1_aae02 13 = .ok (.iconst 1, 1) := by decide +kernel
theorem dJ0_isLatin1_aae02_14 : decode cJ0_isLatin1_aae02 14 = .ok (.goto 4, 3) := by decide +kernel
theorem dJ0_isLatin1_aae02_17 : decode cJ0_isLatin1_aae02 17 = .ok (.iconst 0, 1) := by decide +kernel
theorem dJ0_isLatin1_aae02_18 : decode cJ0_isLatin1_aae02 18 = .ok (.ireturn, 1) := by decide +kernel
theorem dJ0_checkIndex_df160_0 : decode cJ0_checkIndex_df160 0 = .ok (.iload_n 0, 1) := by decide +kernel
theorem dJ0_checkIndex_df160_1 : decode cJ0_checkIndex_df160 1 = .ok (.iload_n 1, 1) := by decide +kernel
theorem dJ0_checkIndex_df160_2 : decode cJ0_checkIndex_df160 2 = .ok (.getstatic 1053, 3) := by decide +kernel
theorem dJ0_checkIndex_df160_5 : decode cJ0_checkIndex_df160 5 = .ok (.invokestatic 1059, 3) := by decide +kernel
theorem dJ0_checkIndex_df160_8 : decode cJ0_checkIndex_df160 8 = .ok (.pop, 1) := by decide +kernel
theorem dJ0_checkIndex_df160_9 : decode cJ0_checkIndex_df160 9 = .ok (.return_, 1) := by decide +kernel
theorem dJ1_charAt_3b067_0 : decode cJ1_charAt_3b067 0 = .ok (.iload_n 1, 1) := by decide +kernel
theorem dJ1_charAt_3b067_1 : decode cJ1_charAt_3b067 1 = .ok (.aload_n 0, 1) := by decide +kernel
theorem dJ1_charAt_3b067_2 : decode cJ1_charAt_3b067 2 = .ok (.arraylength, 1) := by decide +kernel
theorem dJ1_charAt_3b067_3 : decode cJ1_charAt_3b067 3 = .ok (.invokestatic 9, 3) := by decide +kernel
theorem dJ1_charAt_3b067_6 : decode cJ1_charAt_3b067 6 = .ok (.aload_n 0, 1) := by decide +kernel
theorem dJ1_charAt_3b067_7 : decode cJ1_charAt_3b067 7 = .ok (.iload_n 1, 1) := by decide +kernel
theorem dJ1_charAt_3b067_8 : decode cJ1_charAt_3b067 8 = .ok (.baload, 1) := by decide +kernel
theorem dJ1_charAt_3b067_9 : decode cJ1_charAt_3b067 9 = .ok (.sipush 255, 3) := by decide +kernel
theorem dJ1_charAt_3b067_12 : decode cJ1_charAt_3b067 12 = .ok (.iand, 1) := by decide +kernel
theorem dJ1_charAt_3b067_13 : decode cJ1_charAt_3b067 13 = .ok (.i2c, 1) := by decide +kernel
theorem dJ1_charAt_3b067_14 : decode cJ1_charAt_3b067 14 = .ok (.ireturn, 1) := by decide +kernel
theorem dJ3_checkIndex_8e157_0 : decode cJ3_checkIndex_8e157 0 = .ok (.iload_n 0, 1) := by decide +kernel
theorem dJ3_checkIndex_8e157_1 : decode cJ3_checkIndex_8e157 1 = .ok (.ifCond .lt 8, 3) := by decide +kernel
theorem dJ3_checkIndex_8e157_4 : decode cJ3_checkIndex_8e157 4 = .ok (.iload_n 0, 1) := by decide +kernel
theorem dJ3_checkIndex_8e157_5 : decode cJ3_checkIndex_8e157 5 = .ok (.iload_n 1, 1) := by decide +kernel
theorem dJ3_checkIndex_8e157_6 : decode cJ3_checkIndex_8e157 6 = .ok (.if_icmp .lt 10, 3) := by decide +kernel
theorem dJ3_checkIndex_8e157_9 : decode cJ3_checkIndex_8e157 9 = .ok (.aload_n 2, 1) := by decide +kernel
theorem dJ3_checkIndex_8e157_10 : decode cJ3_checkIndex_8e157 10 = .ok (.iload_n 0, 1) := by decide +kernel
theorem dJ3_checkIndex_8e157_11 : decode cJ3_checkIndex_8e157 11 = .ok (.iload_n 1, 1) := by decide +kernel
theorem dJ3_checkIndex_8e157_12 : decode cJ3_checkIndex_8e157 12 = .ok (.invokestatic 95, 3) := by decide +kernel
theorem dJ3_checkIndex_8e157_15 : decode cJ3_checkIndex_8e157 15 = .ok (.athrow, 1) := by decide +kernel
theorem dJ3_checkIndex_8e157_16 : decode cJ3_checkIndex_8e157 16 = .ok (.iload_n 0, 1) := by decide +kernel
theorem dJ3_checkIndex_8e157_17 : decode cJ3_checkIndex_8e157 17 = .ok (.ireturn, 1) := by decide +kernel
def slen (w : Nat) : Int32 := Int32.ofNat (sLen.getD w 0)
def sby (w j : Nat) : Int32 := (sByt.getD w []).getD j 0
theorem slen_sh : ∀ w, w < 14 → slen w >>> ((0 : Int32) &&& 31) = slen w := by decide +kernel
theorem slen_8 : ∀ w, w < 14 → sLen.getD w 0 ≤ 8 := by decide +kernel
theorem sby_c : ∀ w, w < 14 → ∀ j, j < 8 → ((sby w j &&& 255).toUInt32 % 65536).toInt32 = sby w j := by decide +kernel
theorem sby_n : ∀ w, w < 14 → ∀ j, j < 8 → narrow .char (.int (sby w j)) = .int (sby w j) := by decide +kernel
theorem slen_lt : ∀ w, w < 14 → ∀ j : Nat, j < sLen.getD w 0 → Int32.ofNat j < slen w := by
  intro w hw j hj
  have h8 := slen_8 w hw
  have : ∀ w, w < 14 → ∀ j : Nat, j < 8 → j < sLen.getD w 0 → Int32.ofNat j < slen w := by decide +kernel
  exact this w hw j (by omega) hj
theorem ix_nI {i : Int32} (h : ¬ i < 0) : Int32.ofNat (ix i) = i := by
  obtain ⟨j, hj, rfl⟩ := nI_of h
  show Int32.ofNat (nI j).toNatClampNeg = nI j
  rw [nI_clamp hj]; rfl
section JDKR
variable {Z : Zt} {E : Ec} {cc : ByteArray} {nL : Nat} {own : String} {ret : Option FieldType} {h : Nat} {β : Type} {fin : β → Option Value × Mi × Ml} {pc : Nat} {lv lv' : List (Nat × Value)} {st rest : List Value} {M M' : Mi} {N N' : Ml} {t t1 t2 : Option β} {w : Nat}
theorem gs_coder (C : Ok 1 Z E cc nL RJ0 ret h) (hw : w < 14) (hd : decode cc pc = .ok (.getfield 15, 3)) (kk : GT Z E nL fin (pc + 3) lv (.int 0 :: rest) M N t) : GT Z E nL fin pc lv (.ref (zA Z 40 w) :: rest) M N t :=
  fun b hb H locs ls h1 h2 h3 h4 => vk_getf C.x C.b (((C.z.S _ C.sta).2.2.1.1 w hw).2.1) (h2.S h3) C.ow (C.ts _ wd_1302) (fun _ q => q) hd (kk b hb H locs ls h1 h2 h3 h4)
theorem gs_value (C : Ok 1 Z E cc nL RJ0 ret h) (hw : w < 14) (hd : decode cc pc = .ok (.getfield 9, 3)) (kk : GT Z E nL fin (pc + 3) lv (.ref (zA Z 41 w) :: rest) M N t) : GT Z E nL fin pc lv (.ref (zA Z 40 w) :: rest) M N t :=
  fun b hb H locs ls h1 h2 h3 h4 => vk_getf C.x C.b (((C.z.S _ C.sta).2.2.1.1 w hw).2.2.1) (h2.S h3) C.ow (C.ts _ wd_1301) (fun _ q => q) hd (kk b hb H locs ls h1 h2 h3 h4)
theorem gs_len (C : Ok 1 Z E cc nL own ret h) (hw : w < 14) (hd : decode cc pc = .ok (.arraylength, 1)) (kk : GT Z E nL fin (pc + 1) lv (.int (slen w) :: rest) M N t) : GT Z E nL fin pc lv (.ref (zA Z 41 w) :: rest) M N t :=
  fun b hb H locs ls h1 h2 h3 h4 => va_tlen C.x C.b (((C.z.S _ C.sta).2.2.1.1 w hw).2.2.2) (h2.S h3) rfl hd (kk b hb H locs ls h1 h2 h3 h4)
theorem gs_bald {i : Int32} (C : Ok 1 Z E cc nL own ret h) (hw : w < 14) (hin : inb i (sLen.getD w 0)) (hd : decode cc pc = .ok (.baload, 1)) (kk : GT Z E nL fin (pc + 1) lv (.int (sby w (ix i)) :: rest) M N t) : GT Z E nL fin pc lv (.int i :: .ref (zA Z 41 w) :: rest) M N t :=
  fun b hb H locs ls h1 h2 h3 h4 => va_tb C.x C.b (((C.z.S _ C.sta).2.2.1.1 w hw).2.2.2) (h2.S h3) (inb_in hin) rfl hd (kk b hb H locs ls h1 h2 h3 h4)
theorem gs_compact (C : Ok 1 Z E cc nL RJ0 ret h) (hd : decode cc pc = .ok (.getstatic 38, 3)) (kk : GT Z E nL fin (pc + 3) lv (.int 1 :: rest) M N t) : GT Z E nL fin pc lv rest M N t :=
  fun b hb H locs ls h1 h2 h3 h4 => va_gets C.x C.b (C.z.S _ C.sta).2.2.2.2.1 (h2.S h3) C.ow (C.ts _ wd_637) (fun _ q => q) hd (kk b hb H locs ls h1 h2 h3 h4)
theorem gs_fmt (C : Ok 1 Z E cc nL RJ0 ret h) (hd : decode cc pc = .ok (.getstatic 1053, 3)) (kk : ∀ v : Value, (v = .null ∨ ∃ a, v = .ref a) → GT Z E nL fin (pc + 3) lv (v :: rest) M N t) : GT Z E nL fin pc lv rest M N t := by
  intro b hb H locs ls h1 h2 h3 h4
  rcases (C.z.S _ C.sta).2.2.2.2.2 with hz | ⟨a, hz⟩
  · exact va_gets C.x C.b hz (h2.S h3) C.ow (C.ts _ wd_653) (fun _ q => q) hd (kk _ (Or.inl rfl) b hb H locs ls h1 h2 h3 h4)
  · exact va_gets C.x C.b hz (h2.S h3) C.ow (C.ts _ wd_653) (fun _ q => q) hd (kk _ (Or.inr ⟨a, rfl⟩) b hb H locs ls h1 h2 h3 h4)
theorem r_i2c {x : Int32} (C : Ok 1 Z E cc nL own ret h) (hd : decode cc pc = .ok (.i2c, 1)) (kk : GT Z E nL fin (pc + 1) lv (.int ((x.toUInt32 % 65536).toInt32) :: rest) M N t) : GT Z E nL fin pc lv (.int x :: rest) M N t :=
  fun b hb H locs ls h1 h2 h3 h4 => lv_i2c C.x C.b hd rfl (kk b hb H locs ls h1 h2 h3 h4)
theorem r_nret {ty : FieldType} {b : β} {v : Int32} (C : Ok 1 Z E cc nL own (some ty) h) (hd : decode cc pc = .ok (.ireturn, 1)) (hn : narrow ty (.int v) = .int v) (hf : fin b = (some (.int v), M, N)) : GT Z E nL fin pc lv [.int v] M N (some b) := by
  intro b' hb' H locs ls h1 h2 h3 h4
  cases hb'
  exact W.zret C.x C.b C.rt hn (fun t ht _ => ⟨by rw [hf], by rw [hf, ht]; exact h1, by rw [ht]; exact h2⟩) h3 hd C.lk
end JDKR
def finC (M : Mi) (N : Ml) : Int32 → Option Value × Mi × Ml := fun b => (some (.int b), M, N)
def finU (M : Mi) (N : Ml) : Unit → Option Value × Mi × Ml := fun _ => (none, M, N)
theorem mJ0_coder_7d493 (l : Launch) {Z : Zt} (hZ : Zok 1 Z) {w : Nat} (hw : w < 14) (M : Mi) (N : Ml) : Ct 1 Z l yJ0_coder_7d493 cJ0_coder_7d493 1 (some .byte) 0 [.ref (zA Z 40 w)] M N (some (.int 0), M, N) := by
  refine metG (fin := finC M N) (t := some 0) (by decide) (Nat.le_of_ble_eq_true rfl) (fun E _ C => ?_) rfl
  refine gs_compact C dJ0_coder_7d493_0 ?_
  refine r_same (P := (1 : Int32) = 0) ?_
  refine r_if_eq (tgt := 13) C dJ0_coder_7d493_3 (by decide) (fun c => absurd c (by decide)) (fun _ => ?_)
  refine r_aload_n C dJ0_coder_7d493_6 0 0 rfl rfl ?_
  refine gs_coder C hw dJ0_coder_7d493_7 ?_
  refine r_goto (tgt := 14) C dJ0_coder_7d493_10 (by decide) ?_
  exact r_nret C dJ0_coder_7d493_14 rfl rfl
theorem mJ0_isLatin1_aae02 (l : Launch) {Z : Zt} (hZ : Zok 1 Z) {w : Nat} (hw : w < 14) (M : Mi) (N : Ml) : Ct 1 Z l yJ0_isLatin1_aae02 cJ0_isLatin1_aae02 1 (some .boolean) 0 [.ref (zA Z 40 w)] M N (some (.int 1), M, N) := by
  refine metG (fin := finC M N) (t := some 1) (by decide) (Nat.le_of_ble_eq_true rfl) (fun E _ C => ?_) rfl
  refine gs_compact C dJ0_isLatin1_aae02_0 ?_
  refine r_same (P := (1 : Int32) = 0) ?_
  refine r_if_eq (tgt := 17) C dJ0_isLatin1_aae02_3 (by decide) (fun c => absurd c (by decide)) (fun _ => ?_)
  refine r_aload_n C dJ0_isLatin1_aae02_6 0 0 rfl rfl ?_
  refine gs_coder C hw dJ0_isLatin1_aae02_7 ?_
  refine r_same (P := (0 : Int32) = 0) ?_
  refine r_if_ne (tgt := 17) C dJ0_isLatin1_aae02_10 (by decide) (fun c => absurd rfl c) (fun _ => ?_)
  refine r_iconst (v := 1) C dJ0_isLatin1_aae02_13 (by decide) ?_
  refine r_goto (tgt := 18) C dJ0_isLatin1_aae02_14 (by decide) ?_
  exact r_nret C dJ0_isLatin1_aae02_18 rfl rfl
noncomputable def fJ0_length_8abf5 (w : Nat) : Int32 := slen w
theorem mJ0_length_8abf5 (l : Launch) {Z : Zt} (hZ : Zok 1 Z) {w : Nat} (hw : w < 14) (M : Mi) (N : Ml) (_w : Nat) : Ct 1 Z l yJ0_length_8abf5 cJ0_length_8abf5 1 (some .int) 1 [.ref (zA Z 40 w)] M N (some (.int (fJ0_length_8abf5 w)), M, N) := by
  refine metG (fin := finC M N) (t := some (fJ0_length_8abf5 w)) (by decide) (Nat.le_of_ble_eq_true rfl) (fun E _ C => ?_) rfl
  refine r_aload_n C dJ0_length_8abf5_0 0 0 rfl rfl ?_
  refine gs_value C hw dJ0_length_8abf5_1 ?_
  refine gs_len C hw dJ0_length_8abf5_4 ?_
  refine r_aload_n C dJ0_length_8abf5_5 0 0 rfl rfl ?_
  refine r_callV (rest := [.int (slen w)]) (st2 := [.int 0, .int (slen w)]) C (mJ0_coder_7d493 (eL E) C.z hw _ _) lk_J0_335 (rvStr C hw) (by decide) rfl rfl (Nat.le_of_ble_eq_true rfl) dJ0_length_8abf5_6 rfl ?_
  refine r_ishr C dJ0_length_8abf5_9 ?_
  exact r_iret C dJ0_length_8abf5_10 (by rw [slen_sh w hw]; rfl)
theorem mJ3_checkIndex_8e157 (l : Launch) {Z : Zt} (hZ : Zok 1 Z) (M : Mi) (N : Ml) {i n : Int32} {v : Value} (hv : v = .null ∨ ∃ a, v = .ref a) (h0 : ¬ i < 0) (h1 : i < n) : Ct 1 Z l yJ3_checkIndex_8e157 cJ3_checkIndex_8e157 3 (some .int) 0 [.int i, .int n, v] M N (some (.int i), M, N) := by
  have key : ∀ u : Value, v = u → u.category = 1 → (lg_sl [.int i, .int n, u]).length ≤ 3 → lv_args 0 [.int i, .int n, u] = [(0, .int i), (1, .int n), (2, u)] → Ct 1 Z l yJ3_checkIndex_8e157 cJ3_checkIndex_8e157 3 (some .int) 0 [.int i, .int n, v] M N (some (.int i), M, N) := by
    intro u hu hc hl hq
    subst hu
    refine metG (fin := finC M N) (t := some i) (by decide) hl (fun E _ C => ?_) rfl
    rw [hq]
    refine r_iload_n C dJ3_checkIndex_8e157_0 0 0 rfl rfl ?_
    refine r_same (P := i < 0) ?_
    refine r_if_lt (tgt := 9) C dJ3_checkIndex_8e157_1 (by decide) (fun c => absurd c h0) (fun _ => ?_)
    refine r_iload_n C dJ3_checkIndex_8e157_4 0 0 rfl rfl ?_
    refine r_iload_n C dJ3_checkIndex_8e157_5 1 1 rfl rfl ?_
    refine r_same (P := i < n) ?_
    refine r_ic_lt (tgt := 16) C dJ3_checkIndex_8e157_6 (by decide) (fun _ => ?_) (fun c => absurd h1 c)
    refine r_iload_n C dJ3_checkIndex_8e157_16 0 0 rfl rfl ?_
    exact r_iret C dJ3_checkIndex_8e157_17 rfl
  rcases hv with hv | ⟨a, hv⟩
  · exact key _ hv rfl (Nat.le_of_ble_eq_true rfl) rfl
  · exact key _ hv rfl (Nat.le_of_ble_eq_true rfl) rfl
theorem mJ0_checkIndex_df160 (l : Launch) {Z : Zt} (hZ : Zok 1 Z) (M : Mi) (N : Ml) {i n : Int32} (h0 : ¬ i < 0) (h1 : i < n) : Ct 1 Z l yJ0_checkIndex_df160 cJ0_checkIndex_df160 2 none 1 [.int i, .int n] M N (none, M, N) := by
  refine metG (fin := finU M N) (t := some ()) (by decide) (Nat.le_of_ble_eq_true rfl) (fun E _ C => ?_) rfl
  refine r_iload_n C dJ0_checkIndex_df160_0 0 0 rfl rfl ?_
  refine r_iload_n C dJ0_checkIndex_df160_1 1 1 rfl rfl ?_
  refine gs_fmt C dJ0_checkIndex_df160_2 (fun v hv => ?_)
  refine r_callS (rest := []) (st2 := [.int i]) C (mJ3_checkIndex_8e157 (eL E) C.z _ _ hv h0 h1) lk_J0_1059 (by decide) rfl rfl (Nat.le_of_ble_eq_true rfl) dJ0_checkIndex_df160_5 rfl ?_
  refine r_pop C dJ0_checkIndex_df160_8 rfl ?_
  exact r_vret C dJ0_checkIndex_df160_9 rfl
theorem mJ1_charAt_3b067 (l : Launch) {Z : Zt} (hZ : Zok 1 Z) {w : Nat} (hw : w < 14) (M : Mi) (N : Ml) {i : Int32} (hin : inb i (sLen.getD w 0)) : Ct 1 Z l yJ1_charAt_3b067 cJ1_charAt_3b067 2 (some .char) 2 [.ref (zA Z 41 w), .int i] M N (some (.int (sby w (ix i))), M, N) := by
  have h8 : ix i < 8 := Nat.lt_of_lt_of_le hin.2 (slen_8 w hw)
  refine metG (fin := finC M N) (t := some (sby w (ix i))) (by decide) (Nat.le_of_ble_eq_true rfl) (fun E _ C => ?_) rfl
  refine r_iload_n C dJ1_charAt_3b067_0 1 1 rfl rfl ?_
  refine r_aload_n C dJ1_charAt_3b067_1 0 0 rfl rfl ?_
  refine gs_len C hw dJ1_charAt_3b067_2 ?_
  refine r_callS (rest := []) (st2 := []) C (mJ0_checkIndex_df160 (eL E) C.z _ _ hin.1 (by have q := slen_lt w hw _ hin.2; rw [ix_nI hin.1] at q; exact q)) lk_J1_9 (by decide) rfl rfl (Nat.le_of_ble_eq_true rfl) dJ1_charAt_3b067_3 rfl ?_
  refine r_aload_n C dJ1_charAt_3b067_6 0 0 rfl rfl ?_
  refine r_iload_n C dJ1_charAt_3b067_7 1 1 rfl rfl ?_
  refine gs_bald C hw hin dJ1_charAt_3b067_8 ?_
  refine r_sipush (v := 255) C dJ1_charAt_3b067_9 (by decide) ?_
  refine r_iand C dJ1_charAt_3b067_12 ?_
  refine r_i2c C dJ1_charAt_3b067_13 ?_
  rw [sby_c w hw _ h8]
  exact r_nret C dJ1_charAt_3b067_14 (sby_n w hw _ h8) rfl
noncomputable def fJ0_charAt_5068e (w : Nat) (i : Int32) : Option Int32 := if inb i (sLen.getD w 0) then some (sby w (ix i)) else none
theorem mJ0_charAt_5068e (l : Launch) {Z : Zt} (hZ : Zok 1 Z) {w : Nat} (hw : w < 14) (M : Mi) (N : Ml) (_w : Nat) (i : Int32) (b : Int32) (hb : fJ0_charAt_5068e w i = some b) : Ct 1 Z l yJ0_charAt_5068e cJ0_charAt_5068e 2 (some .char) 3 [.ref (zA Z 40 w), .int i] M N (some (.int b), M, N) := by
  unfold fJ0_charAt_5068e at hb
  by_cases hin : inb i (sLen.getD w 0)
  · rw [if_pos hin] at hb
    have h8 : ix i < 8 := Nat.lt_of_lt_of_le hin.2 (slen_8 w hw)
    refine metG (fin := finC M N) (t := some (sby w (ix i))) (by decide) (Nat.le_of_ble_eq_true rfl) (fun E _ C => ?_) hb
    refine r_aload_n C dJ0_charAt_5068e_0 0 0 rfl rfl ?_
    refine r_callV (rest := []) (st2 := [.int 1]) C (mJ0_isLatin1_aae02 (eL E) C.z hw _ _) lk_J0_492 (rvStr C hw) (by decide) rfl rfl (Nat.le_of_ble_eq_true rfl) dJ0_charAt_5068e_1 rfl ?_
    refine r_same (P := (1 : Int32) = 0) ?_
    refine r_if_eq (tgt := 16) C dJ0_charAt_5068e_4 (by decide) (fun c => absurd c (by decide)) (fun _ => ?_)
    refine r_aload_n C dJ0_charAt_5068e_7 0 0 rfl rfl ?_
    refine gs_value C hw dJ0_charAt_5068e_8 ?_
    refine r_iload_n C dJ0_charAt_5068e_11 1 1 rfl rfl ?_
    refine r_callS (rest := []) (st2 := [.int (sby w (ix i))]) C (mJ1_charAt_3b067 (eL E) C.z hw _ _ hin) lk_J0_495 (by decide) rfl rfl (Nat.le_of_ble_eq_true rfl) dJ0_charAt_5068e_12 rfl ?_
    exact r_nret C dJ0_charAt_5068e_15 (sby_n w hw _ h8) rfl
  · rw [if_neg hin] at hb
    cases hb
end
