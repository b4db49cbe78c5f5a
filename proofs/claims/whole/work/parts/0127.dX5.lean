theorem dX5_init_0 : decode cX5_init 0 = .ok (.aload_n 0, 1) := by decide +kernel
theorem dX5_init_1 : decode cX5_init 1 = .ok (.invokespecial 1, 3) := by decide +kernel
theorem dX5_init_4 : decode cX5_init 4 = .ok (.aload_n 0, 1) := by decide +kernel
theorem dX5_init_5 : decode cX5_init 5 = .ok (.bipush 39, 2) := by decide +kernel
theorem dX5_init_7 : decode cX5_init 7 = .ok (.newarray .int, 2) := by decide +kernel
theorem dX5_init_9 : decode cX5_init 9 = .ok (.putfield 7, 3) := by decide +kernel
theorem dX5_init_12 : decode cX5_init 12 = .ok (.aload_n 0, 1) := by decide +kernel
theorem dX5_init_13 : decode cX5_init 13 = .ok (.bipush 39, 2) := by decide +kernel
theorem dX5_init_15 : decode cX5_init 15 = .ok (.newarray .int, 2) := by decide +kernel
theorem dX5_init_17 : decode cX5_init 17 = .ok (.putfield 13, 3) := by decide +kernel
theorem dX5_init_20 : decode cX5_init 20 = .ok (.aload_n 0, 1) := by decide +kernel
theorem dX5_init_21 : decode cX5_init 21 = .ok (.bipush 39, 2) := by decide +kernel
theorem dX5_init_23 : decode cX5_init 23 = .ok (.newarray .int, 2) := by decide +kernel
theorem dX5_init_25 : decode cX5_init 25 = .ok (.putfield 16, 3) := by decide +kernel
theorem dX5_init_28 : decode cX5_init 28 = .ok (.aload_n 0, 1) := by decide +kernel
theorem dX5_init_29 : decode cX5_init 29 = .ok (.bipush 39, 2) := by decide +kernel
theorem dX5_init_31 : decode cX5_init 31 = .ok (.newarray .int, 2) := by decide +kernel
theorem dX5_init_33 : decode cX5_init 33 = .ok (.putfield 19, 3) := by decide +kernel
theorem dX5_init_36 : decode cX5_init 36 = .ok (.aload_n 0, 1) := by decide +kernel
theorem dX5_init_37 : decode cX5_init 37 = .ok (.bipush 7, 2) := by decide +kernel
theorem dX5_init_39 : decode cX5_init 39 = .ok (.newarray .int, 2) := by decide +kernel
theorem dX5_init_41 : decode cX5_init 41 = .ok (.putfield 22, 3) := by decide +kernel
theorem dX5_init_44 : decode cX5_init 44 = .ok (.aload_n 0, 1) := by decide +kernel
theorem dX5_init_45 : decode cX5_init 45 = .ok (.bipush 120, 2) := by decide +kernel
theorem dX5_init_47 : decode cX5_init 47 = .ok (.newarray .int, 2) := by decide +kernel
theorem dX5_init_49 : decode cX5_init 49 = .ok (.putfield 25, 3) := by decide +kernel
theorem dX5_init_52 : decode cX5_init 52 = .ok (.aload_n 0, 1) := by decide +kernel
theorem dX5_init_53 : decode cX5_init 53 = .ok (.iconst 4, 1) := by decide +kernel
theorem dX5_init_54 : decode cX5_init 54 = .ok (.newarray .int, 2) := by decide +kernel
theorem dX5_init_56 : decode cX5_init 56 = .ok (.putfield 28, 3) := by decide +kernel
theorem dX5_init_59 : decode cX5_init 59 = .ok (.aload_n 0, 1) := by decide +kernel
theorem dX5_init_60 : decode cX5_init 60 = .ok (.iconst 4, 1) := by decide +kernel
theorem dX5_init_61 : decode cX5_init 61 = .ok (.newarray .int, 2) := by decide +kernel
theorem dX5_init_63 : decode cX5_init 63 = .ok (.putfield 31, 3) := by decide +kernel
theorem dX5_init_66 : decode cX5_init 66 = .ok (.aload_n 0, 1) := by decide +kernel
theorem dX5_init_67 : decode cX5_init 67 = .ok (.sipush 160, 3) := by decide +kernel
theorem dX5_init_70 : decode cX5_init 70 = .ok (.newarray .long, 2) := by decide +kernel
theorem dX5_init_72 : decode cX5_init 72 = .ok (.putfield 34, 3) := by decide +kernel
theorem dX5_init_75 : decode cX5_init 75 = .ok (.aload_n 0, 1) := by decide +kernel
theorem dX5_init_76 : decode cX5_init 76 = .ok (.bipush 40, 2) := by decide +kernel
theorem dX5_init_78 : decode cX5_init 78 = .ok (.newarray .long, 2) := by decide +kernel
theorem dX5_init_80 : decode cX5_init 80 = .ok (.putfield 38, 3) := by decide +kernel
theorem dX5_init_83 : decode cX5_init 83 = .ok (.aload_n 0, 1) := by decide +kernel
theorem dX5_init_84 : decode cX5_init 84 = .ok (.getfield 7, 3) := by decide +kernel
theorem dX5_init_87 : decode cX5_init 87 = .ok (.iconst 3, 1) := by decide +kernel
theorem dX5_init_88 : decode cX5_init 88 = .ok (.bipush 14, 2) := by decide +kernel
theorem dX5_init_90 : decode cX5_init 90 = .ok (.iastore, 1) := by decide +kernel
theorem dX5_init_91 : decode cX5_init 91 = .ok (.aload_n 0, 1) := by decide +kernel
theorem dX5_init_92 : decode cX5_init 92 = .ok (.getfield 7, 3) := by decide +kernel
theorem dX5_init_95 : decode cX5_init 95 = .ok (.iconst 4, 1) := by decide +kernel
theorem dX5_init_96 : decode cX5_init 96 = .ok (.iconst 3, 1) := by decide +kernel
theorem dX5_init_97 : decode cX5_init 97 = .ok (.iastore, 1) := by decide +kernel
theorem dX5_init_98 : decode cX5_init 98 = .ok (.aload_n 0, 1) := by decide +kernel
theorem dX5_init_99 : decode cX5_init 99 = .ok (.getfield 7, 3) := by decide +kernel
theorem dX5_init_102 : decode cX5_init 102 = .ok (.iconst 5, 1) := by decide +kernel
theorem dX5_init_103 : decode cX5_init 103 = .ok (.bipush 24, 2) := by decide +kernel
theorem dX5_init_105 : decode cX5_init 105 = .ok (.iastore, 1) := by decide +kernel
theorem dX5_init_106 : decode cX5_init 106 = .ok (.return_, 1) := by decide +kernel
theorem dX5_in_0 : decode cX5_in 0 = .ok (.lload_n 0, 1) := by decide +kernel
theorem dX5_in_1 : decode cX5_in 1 = .ok (.lload_n 2, 1) := by decide +kernel
theorem dX5_in_2 : decode cX5_in 2 = .ok (.lcmp, 1) := by decide +kernel
theorem dX5_in_3 : decode cX5_in 3 = .ok (.ifCond .lt 14, 3) := by decide +kernel
theorem dX5_in_6 : decode cX5_in 6 = .ok (.lload_n 0, 1) := by decide +kernel
theorem dX5_in_7 : decode cX5_in 7 = .ok (.lload 4, 2) := by decide +kernel
theorem dX5_in_9 : decode cX5_in 9 = .ok (.lcmp, 1) := by decide +kernel
theorem dX5_in_10 : decode cX5_in 10 = .ok (.ifCond .gt 7, 3) := by decide +kernel
theorem dX5_in_13 : decode cX5_in 13 = .ok (.iconst 1, 1) := by decide +kernel
theorem dX5_in_14 : decode cX5_in 14 = .ok (.goto 4, 3) := by decide +kernel
theorem dX5_in_17 : decode cX5_in 17 = .ok (.iconst 0, 1) := by decide +kernel
theorem dX5_in_18 : decode cX5_in 18 = .ok (.ireturn, 1) := by decide +kernel
theorem dX5_finds_0 : decode cX5_finds 0 = .ok (.aload_n 0, 1) := by decide +kernel
theorem dX5_finds_1 : decode cX5_finds 1 = .ok (.getfield 22, 3) := by decide +kernel
theorem dX5_finds_4 : decode cX5_finds 4 = .ok (.ldc 41, 2) := by decide +kernel
theorem dX5_finds_6 : decode cX5_finds 6 = .ok (.iload_n 1, 1) := by decide +kernel
theorem dX5_finds_7 : decode cX5_finds 7 = .ok (.isub, 1) := by decide +kernel
theorem dX5_finds_8 : decode cX5_finds 8 = .ok (.dup2, 1) := by decide +kernel
theorem dX5_finds_9 : decode cX5_finds 9 = .ok (.iaload, 1) := by decide +kernel
theorem dX5_finds_10 : decode cX5_finds 10 = .ok (.iconst 1, 1) := by decide +kernel
theorem dX5_finds_11 : decode cX5_finds 11 = .ok (.iadd, 1) := by decide +kernel
theorem dX5_finds_12 : decode cX5_finds 12 = .ok (.iastore, 1) := by decide +kernel
theorem dX5_finds_13 : decode cX5_finds 13 = .ok (.iload_n 1, 1) := by decide +kernel
theorem dX5_finds_14 : decode cX5_finds 14 = .ok (.ireturn, 1) := by decide +kernel
theorem dX5_saves_0 : decode cX5_saves 0 = .ok (.iconst 0, 1) := by decide +kernel
theorem dX5_saves_1 : decode cX5_saves 1 = .ok (.istore_n 1, 1) := by decide +kernel
theorem dX5_saves_2 : decode cX5_saves 2 = .ok (.iload_n 1, 1) := by decide +kernel
theorem dX5_saves_3 : decode cX5_saves 3 = .ok (.bipush 39, 2) := by decide +kernel
theorem dX5_saves_5 : decode cX5_saves 5 = .ok (.if_icmp .ge 21, 3) := by decide +kernel
theorem dX5_saves_8 : decode cX5_saves 8 = .ok (.aload_n 0, 1) := by decide +kernel
theorem dX5_saves_9 : decode cX5_saves 9 = .ok (.getfield 16, 3) := by decide +kernel
theorem dX5_saves_12 : decode cX5_saves 12 = .ok (.iload_n 1, 1) := by decide +kernel
theorem dX5_saves_13 : decode cX5_saves 13 = .ok (.aload_n 0, 1) := by decide +kernel
theorem dX5_saves_14 : decode cX5_saves 14 = .ok (.getfield 7, 3) := by decide +kernel
theorem dX5_saves_17 : decode cX5_saves 17 = .ok (.iload_n 1, 1) := by decide +kernel
theorem dX5_saves_18 : decode cX5_saves 18 = .ok (.iaload, 1) := by decide +kernel
theorem dX5_saves_19 : decode cX5_saves 19 = .ok (.iastore, 1) := by decide +kernel
theorem dX5_saves_20 : decode cX5_saves 20 = .ok (.iinc 1 1, 3) := by decide +kernel
theorem dX5_saves_23 : decode cX5_saves 23 = .ok (.goto (-21), 3) := by decide +kernel
theorem dX5_saves_26 : decode cX5_saves 26 = .ok (.return_, 1) := by decide +kernel
theorem dX5_putsBack_0 : decode cX5_putsBack 0 = .ok (.iconst 0, 1) := by decide +kernel
theorem dX5_putsBack_1 : decode cX5_putsBack 1 = .ok (.istore_n 1, 1) := by decide +kernel
theorem dX5_putsBack_2 : decode cX5_putsBack 2 = .ok (.iload_n 1, 1) := by decide +kernel
theorem dX5_putsBack_3 : decode cX5_putsBack 3 = .ok (.bipush 39, 2) := by decide +kernel
theorem dX5_putsBack_5 : decode cX5_putsBack 5 = .ok (.if_icmp .ge 21, 3) := by decide +kernel
theorem dX5_putsBack_8 : decode cX5_putsBack 8 = .ok (.aload_n 0, 1) := by decide +kernel
theorem dX5_putsBack_9 : decode cX5_putsBack 9 = .ok (.getfield 7, 3) := by decide +kernel
theorem dX5_putsBack_12 : decode cX5_putsBack 12 = .ok (.iload_n 1, 1) := by decide +kernel
theorem dX5_putsBack_13 : decode cX5_putsBack 13 = .ok (.aload_n 0, 1) := by decide +kernel
theorem dX5_putsBack_14 : decode cX5_putsBack 14 = .ok (.getfield 16, 3) := by decide +kernel
theorem dX5_putsBack_17 : decode cX5_putsBack 17 = .ok (.iload_n 1, 1) := by decide +kernel
theorem dX5_putsBack_18 : decode cX5_putsBack 18 = .ok (.iaload, 1) := by decide +kernel
theorem dX5_putsBack_19 : decode cX5_putsBack 19 = .ok (.iastore, 1) := by decide +kernel
theorem dX5_putsBack_20 : decode cX5_putsBack 20 = .ok (.iinc 1 1, 3) := by decide +kernel
theorem dX5_putsBack_23 : decode cX5_putsBack 23 = .ok (.goto (-21), 3) := by decide +kernel
theorem dX5_putsBack_26 : decode cX5_putsBack 26 = .ok (.return_, 1) := by decide +kernel
theorem dX5_laysAside_0 : decode cX5_laysAside 0 = .ok (.iconst 0, 1) := by decide +kernel
theorem dX5_laysAside_1 : decode cX5_laysAside 1 = .ok (.istore_n 1, 1) := by decide +kernel
theorem dX5_laysAside_2 : decode cX5_laysAside 2 = .ok (.iload_n 1, 1) := by decide +kernel
theorem dX5_laysAside_3 : decode cX5_laysAside 3 = .ok (.bipush 39, 2) := by decide +kernel
theorem dX5_laysAside_5 : decode cX5_laysAside 5 = .ok (.if_icmp .ge 21, 3) := by decide +kernel
theorem dX5_laysAside_8 : decode cX5_laysAside 8 = .ok (.aload_n 0, 1) := by decide +kernel
theorem dX5_laysAside_9 : decode cX5_laysAside 9 = .ok (.getfield 19, 3) := by decide +kernel
theorem dX5_laysAside_12 : decode cX5_laysAside 12 = .ok (.iload_n 1, 1) := by decide +kernel
theorem dX5_laysAside_13 : decode cX5_laysAside 13 = .ok (.aload_n 0, 1) := by decide +kernel
theorem dX5_laysAside_14 : decode cX5_laysAside 14 = .ok (.getfield 7, 3) := by decide +kernel
theorem dX5_laysAside_17 : decode cX5_laysAside 17 = .ok (.iload_n 1, 1) := by decide +kernel
theorem dX5_laysAside_18 : decode cX5_laysAside 18 = .ok (.iaload, 1) := by decide +kernel
theorem dX5_laysAside_19 : decode cX5_laysAside 19 = .ok (.iastore, 1) := by decide +kernel
theorem dX5_laysAside_20 : decode cX5_laysAside 20 = .ok (.iinc 1 1, 3) := by decide +kernel
theorem dX5_laysAside_23 : decode cX5_laysAside 23 = .ok (.goto (-21), 3) := by decide +kernel
theorem dX5_laysAside_26 : decode cX5_laysAside 26 = .ok (.return_, 1) := by decide +kernel
theorem dX5_takesBack_0 : decode cX5_takesBack 0 = .ok (.iconst 0, 1) := by decide +kernel
theorem dX5_takesBack_1 : decode cX5_takesBack 1 = .ok (.istore_n 2, 1) := by decide +kernel
theorem dX5_takesBack_2 : decode cX5_takesBack 2 = .ok (.iload_n 2, 1) := by decide +kernel
theorem dX5_takesBack_3 : decode cX5_takesBack 3 = .ok (.bipush 39, 2) := by decide +kernel
theorem dX5_takesBack_5 : decode cX5_takesBack 5 = .ok (.if_icmp .ge 21, 3) := by decide +kernel
theorem dX5_takesBack_8 : decode cX5_takesBack 8 = .ok (.aload_n 0, 1) := by decide +kernel
theorem dX5_takesBack_9 : decode cX5_takesBack 9 = .ok (.getfield 7, 3) := by decide +kernel
theorem dX5_takesBack_12 : decode cX5_takesBack 12 = .ok (.iload_n 2, 1) := by decide +kernel
theorem dX5_takesBack_13 : decode cX5_takesBack 13 = .ok (.aload_n 0, 1) := by decide +kernel
theorem dX5_takesBack_14 : decode cX5_takesBack 14 = .ok (.getfield 19, 3) := by decide +kernel
theorem dX5_takesBack_17 : decode cX5_takesBack 17 = .ok (.iload_n 2, 1) := by decide +kernel
theorem dX5_takesBack_18 : decode cX5_takesBack 18 = .ok (.iaload, 1) := by decide +kernel
theorem dX5_takesBack_19 : decode cX5_takesBack 19 = .ok (.iastore, 1) := by decide +kernel
theorem dX5_takesBack_20 : decode cX5_takesBack 20 = .ok (.iinc 2 1, 3) := by decide +kernel
theorem dX5_takesBack_23 : decode cX5_takesBack 23 = .ok (.goto (-21), 3) := by decide +kernel
theorem dX5_takesBack_26 : decode cX5_takesBack 26 = .ok (.iload_n 1, 1) := by decide +kernel
theorem dX5_takesBack_27 : decode cX5_takesBack 27 = .ok (.ireturn, 1) := by decide +kernel
theorem dX5_becomes_0 : decode cX5_becomes 0 = .ok (.aload_n 0, 1) := by decide +kernel
theorem dX5_becomes_1 : decode cX5_becomes 1 = .ok (.getfield 7, 3) := by decide +kernel
theorem dX5_becomes_4 : decode cX5_becomes 4 = .ok (.iload_n 1, 1) := by decide +kernel
theorem dX5_becomes_5 : decode cX5_becomes 5 = .ok (.iaload, 1) := by decide +kernel
theorem dX5_becomes_6 : decode cX5_becomes 6 = .ok (.istore_n 3, 1) := by decide +kernel
theorem dX5_becomes_7 : decode cX5_becomes 7 = .ok (.aload_n 0, 1) := by decide +kernel
theorem dX5_becomes_8 : decode cX5_becomes 8 = .ok (.getfield 7, 3) := by decide +kernel
theorem dX5_becomes_11 : decode cX5_becomes 11 = .ok (.iload_n 1, 1) := by decide +kernel
theorem dX5_becomes_12 : decode cX5_becomes 12 = .ok (.iload_n 2, 1) := by decide +kernel
theorem dX5_becomes_13 : decode cX5_becomes 13 = .ok (.iastore, 1) := by decide +kernel
theorem dX5_becomes_14 : decode cX5_becomes 14 = .ok (.iload_n 3, 1) := by decide +kernel
theorem dX5_becomes_15 : decode cX5_becomes 15 = .ok (.ireturn, 1) := by decide +kernel
theorem dX5_isCell_0 : decode cX5_isCell 0 = .ok (.iload_n 0, 1) := by decide +kernel
theorem dX5_isCell_1 : decode cX5_isCell 1 = .ok (.i2l, 1) := by decide +kernel
theorem dX5_isCell_2 : decode cX5_isCell 2 = .ok (.lconst 0, 1) := by decide +kernel
theorem dX5_isCell_3 : decode cX5_isCell 3 = .ok (.ldc2_w 42, 3) := by decide +kernel
theorem dX5_isCell_6 : decode cX5_isCell 6 = .ok (.invokestatic 44, 3) := by decide +kernel
theorem dX5_isCell_9 : decode cX5_isCell 9 = .ok (.ireturn, 1) := by decide +kernel
theorem dX5_isKind_0 : decode cX5_isKind 0 = .ok (.iload_n 0, 1) := by decide +kernel
theorem dX5_isKind_1 : decode cX5_isKind 1 = .ok (.i2l, 1) := by decide +kernel
theorem dX5_isKind_2 : decode cX5_isKind 2 = .ok (.lconst 0, 1) := by decide +kernel
theorem dX5_isKind_3 : decode cX5_isKind 3 = .ok (.ldc2_w 48, 3) := by decide +kernel
theorem dX5_isKind_6 : decode cX5_isKind 6 = .ok (.invokestatic 44, 3) := by decide +kernel
theorem dX5_isKind_9 : decode cX5_isKind 9 = .ok (.ireturn, 1) := by decide +kernel
theorem dX5_isSubject_0 : decode cX5_isSubject 0 = .ok (.iload_n 0, 1) := by decide +kernel
theorem dX5_isSubject_1 : decode cX5_isSubject 1 = .ok (.i2l, 1) := by decide +kernel
theorem dX5_isSubject_2 : decode cX5_isSubject 2 = .ok (.lconst 0, 1) := by decide +kernel
theorem dX5_isSubject_3 : decode cX5_isSubject 3 = .ok (.ldc2_w 50, 3) := by decide +kernel
theorem dX5_isSubject_6 : decode cX5_isSubject 6 = .ok (.invokestatic 44, 3) := by decide +kernel
theorem dX5_isSubject_9 : decode cX5_isSubject 9 = .ok (.ireturn, 1) := by decide +kernel
theorem dX5_isSet_0 : decode cX5_isSet 0 = .ok (.lload_n 0, 1) := by decide +kernel
theorem dX5_isSet_1 : decode cX5_isSet 1 = .ok (.lconst 0, 1) := by decide +kernel
theorem dX5_isSet_2 : decode cX5_isSet 2 = .ok (.ldc2_w 52, 3) := by decide +kernel
theorem dX5_isSet_5 : decode cX5_isSet 5 = .ok (.invokestatic 44, 3) := by decide +kernel
theorem dX5_isSet_8 : decode cX5_isSet 8 = .ok (.ireturn, 1) := by decide +kernel
theorem dX5_isOne_0 : decode cX5_isOne 0 = .ok (.iload_n 1, 1) := by decide +kernel
theorem dX5_isOne_1 : decode cX5_isOne 1 = .ok (.i2l, 1) := by decide +kernel
theorem dX5_isOne_2 : decode cX5_isOne 2 = .ok (.lconst 0, 1) := by decide +kernel
theorem dX5_isOne_3 : decode cX5_isOne 3 = .ok (.aload_n 0, 1) := by decide +kernel
theorem dX5_isOne_4 : decode cX5_isOne 4 = .ok (.getfield 7, 3) := by decide +kernel
theorem dX5_isOne_7 : decode cX5_isOne 7 = .ok (.iconst 1, 1) := by decide +kernel
theorem dX5_isOne_8 : decode cX5_isOne 8 = .ok (.iaload, 1) := by decide +kernel
theorem dX5_isOne_9 : decode cX5_isOne 9 = .ok (.iconst 1, 1) := by decide +kernel
theorem dX5_isOne_10 : decode cX5_isOne 10 = .ok (.isub, 1) := by decide +kernel
theorem dX5_isOne_11 : decode cX5_isOne 11 = .ok (.i2l, 1) := by decide +kernel
theorem dX5_isOne_12 : decode cX5_isOne 12 = .ok (.invokestatic 44, 3) := by decide +kernel
theorem dX5_isOne_15 : decode cX5_isOne 15 = .ok (.ireturn, 1) := by decide +kernel
theorem dX5_areTwo_0 : decode cX5_areTwo 0 = .ok (.aload_n 0, 1) := by decide +kernel
theorem dX5_areTwo_1 : decode cX5_areTwo 1 = .ok (.iload_n 1, 1) := by decide +kernel
theorem dX5_areTwo_2 : decode cX5_areTwo 2 = .ok (.invokevirtual 54, 3) := by decide +kernel
theorem dX5_areTwo_5 : decode cX5_areTwo 5 = .ok (.ifCond .eq 20, 3) := by decide +kernel
theorem dX5_areTwo_8 : decode cX5_areTwo 8 = .ok (.aload_n 0, 1) := by decide +kernel
theorem dX5_areTwo_9 : decode cX5_areTwo 9 = .ok (.iload_n 2, 1) := by decide +kernel
theorem dX5_areTwo_10 : decode cX5_areTwo 10 = .ok (.invokevirtual 54, 3) := by decide +kernel
theorem dX5_areTwo_13 : decode cX5_areTwo 13 = .ok (.ifCond .eq 12, 3) := by decide +kernel
theorem dX5_areTwo_16 : decode cX5_areTwo 16 = .ok (.iload_n 1, 1) := by decide +kernel
theorem dX5_areTwo_17 : decode cX5_areTwo 17 = .ok (.iload_n 2, 1) := by decide +kernel
theorem dX5_areTwo_18 : decode cX5_areTwo 18 = .ok (.if_icmp .eq 7, 3) := by decide +kernel
theorem dX5_areTwo_21 : decode cX5_areTwo 21 = .ok (.iconst 1, 1) := by decide +kernel
theorem dX5_areTwo_22 : decode cX5_areTwo 22 = .ok (.goto 4, 3) := by decide +kernel
theorem dX5_areTwo_25 : decode cX5_areTwo 25 = .ok (.iconst 0, 1) := by decide +kernel
theorem dX5_areTwo_26 : decode cX5_areTwo 26 = .ok (.ireturn, 1) := by decide +kernel
theorem dX5_spotOf_0 : decode cX5_spotOf 0 = .ok (.bipush 7, 2) := by decide +kernel
theorem dX5_spotOf_2 : decode cX5_spotOf 2 = .ok (.iconst 4, 1) := by decide +kernel
theorem dX5_spotOf_3 : decode cX5_spotOf 3 = .ok (.iload_n 0, 1) := by decide +kernel
theorem dX5_spotOf_4 : decode cX5_spotOf 4 = .ok (.imul, 1) := by decide +kernel
theorem dX5_spotOf_5 : decode cX5_spotOf 5 = .ok (.iadd, 1) := by decide +kernel
theorem dX5_spotOf_6 : decode cX5_spotOf 6 = .ok (.iload_n 1, 1) := by decide +kernel
theorem dX5_spotOf_7 : decode cX5_spotOf 7 = .ok (.iadd, 1) := by decide +kernel
theorem dX5_spotOf_8 : decode cX5_spotOf 8 = .ok (.ireturn, 1) := by decide +kernel
theorem dX5_its_0 : decode cX5_its 0 = .ok (.aload_n 0, 1) := by decide +kernel
theorem dX5_its_1 : decode cX5_its 1 = .ok (.getfield 7, 3) := by decide +kernel
theorem dX5_its_4 : decode cX5_its 4 = .ok (.iload_n 1, 1) := by decide +kernel
theorem dX5_its_5 : decode cX5_its 5 = .ok (.iload_n 2, 1) := by decide +kernel
theorem dX5_its_6 : decode cX5_its 6 = .ok (.invokestatic 58, 3) := by decide +kernel
theorem dX5_its_9 : decode cX5_its 9 = .ok (.iaload, 1) := by decide +kernel
theorem dX5_its_10 : decode cX5_its 10 = .ok (.ireturn, 1) := by decide +kernel
theorem dX5_ones_0 : decode cX5_ones 0 = .ok (.iconst 0, 1) := by decide +kernel
theorem dX5_ones_1 : decode cX5_ones 1 = .ok (.istore_n 1, 1) := by decide +kernel
theorem dX5_ones_2 : decode cX5_ones 2 = .ok (.iload_n 0, 1) := by decide +kernel
theorem dX5_ones_3 : decode cX5_ones 3 = .ok (.istore_n 2, 1) := by decide +kernel
theorem dX5_ones_4 : decode cX5_ones 4 = .ok (.iload_n 2, 1) := by decide +kernel
theorem dX5_ones_5 : decode cX5_ones 5 = .ok (.ifCond .eq 15, 3) := by decide +kernel
theorem dX5_ones_8 : decode cX5_ones 8 = .ok (.iinc 1 1, 3) := by decide +kernel
theorem dX5_ones_11 : decode cX5_ones 11 = .ok (.iload_n 2, 1) := by decide +kernel
theorem dX5_ones_12 : decode cX5_ones 12 = .ok (.iload_n 2, 1) := by decide +kernel
theorem dX5_ones_13 : decode cX5_ones 13 = .ok (.iconst 1, 1) := by decide +kernel
theorem dX5_ones_14 : decode cX5_ones 14 = .ok (.isub, 1) := by decide +kernel
theorem dX5_ones_15 : decode cX5_ones 15 = .ok (.iand, 1) := by decide +kernel
theorem dX5_ones_16 : decode cX5_ones 16 = .ok (.istore_n 2, 1) := by decide +kernel
theorem dX5_ones_17 : decode cX5_ones 17 = .ok (.goto (-13), 3) := by decide +kernel
theorem dX5_ones_20 : decode cX5_ones 20 = .ok (.iload_n 1, 1) := by decide +kernel
theorem dX5_ones_21 : decode cX5_ones 21 = .ok (.ireturn, 1) := by decide +kernel
theorem dX5_isFenced_0 : decode cX5_isFenced 0 = .ok (.aload_n 0, 1) := by decide +kernel
theorem dX5_isFenced_1 : decode cX5_isFenced 1 = .ok (.getfield 7, 3) := by decide +kernel
theorem dX5_isFenced_4 : decode cX5_isFenced 4 = .ok (.iconst 2, 1) := by decide +kernel
theorem dX5_isFenced_5 : decode cX5_isFenced 5 = .ok (.iaload, 1) := by decide +kernel
theorem dX5_isFenced_6 : decode cX5_isFenced 6 = .ok (.iload_n 1, 1) := by decide +kernel
theorem dX5_isFenced_7 : decode cX5_isFenced 7 = .ok (.ishr, 1) := by decide +kernel
theorem dX5_isFenced_8 : decode cX5_isFenced 8 = .ok (.iconst 1, 1) := by decide +kernel
theorem dX5_isFenced_9 : decode cX5_isFenced 9 = .ok (.iand, 1) := by decide +kernel
theorem dX5_isFenced_10 : decode cX5_isFenced 10 = .ok (.iconst 1, 1) := by decide +kernel
theorem dX5_isFenced_11 : decode cX5_isFenced 11 = .ok (.if_icmp .ne 7, 3) := by decide +kernel
theorem dX5_isFenced_14 : decode cX5_isFenced 14 = .ok (.iconst 1, 1) := by decide +kernel
theorem dX5_isFenced_15 : decode cX5_isFenced 15 = .ok (.goto 4, 3) := by decide +kernel
theorem dX5_isFenced_18 : decode cX5_isFenced 18 = .ok (.iconst 0, 1) := by decide +kernel
theorem dX5_isFenced_19 : decode cX5_isFenced 19 = .ok (.ireturn, 1) := by decide +kernel
theorem dX5_fences_0 : decode cX5_fences 0 = .ok (.aload_n 0, 1) := by decide +kernel
theorem dX5_fences_1 : decode cX5_fences 1 = .ok (.getfield 7, 3) := by decide +kernel
theorem dX5_fences_4 : decode cX5_fences 4 = .ok (.iconst 2, 1) := by decide +kernel
theorem dX5_fences_5 : decode cX5_fences 5 = .ok (.aload_n 0, 1) := by decide +kernel
theorem dX5_fences_6 : decode cX5_fences 6 = .ok (.getfield 7, 3) := by decide +kernel
theorem dX5_fences_9 : decode cX5_fences 9 = .ok (.iconst 2, 1) := by decide +kernel
theorem dX5_fences_10 : decode cX5_fences 10 = .ok (.iaload, 1) := by decide +kernel
theorem dX5_fences_11 : decode cX5_fences 11 = .ok (.iconst 1, 1) := by decide +kernel
theorem dX5_fences_12 : decode cX5_fences 12 = .ok (.iload_n 1, 1) := by decide +kernel
theorem dX5_fences_13 : decode cX5_fences 13 = .ok (.ishl, 1) := by decide +kernel
theorem dX5_fences_14 : decode cX5_fences 14 = .ok (.iconst (-1), 1) := by decide +kernel
theorem dX5_fences_15 : decode cX5_fences 15 = .ok (.ixor, 1) := by decide +kernel
theorem dX5_fences_16 : decode cX5_fences 16 = .ok (.iand, 1) := by decide +kernel
theorem dX5_fences_17 : decode cX5_fences 17 = .ok (.iload_n 2, 1) := by decide +kernel
theorem dX5_fences_18 : decode cX5_fences 18 = .ok (.iload_n 1, 1) := by decide +kernel
theorem dX5_fences_19 : decode cX5_fences 19 = .ok (.ishl, 1) := by decide +kernel
theorem dX5_fences_20 : decode cX5_fences 20 = .ok (.ior, 1) := by decide +kernel
theorem dX5_fences_21 : decode cX5_fences 21 = .ok (.iastore, 1) := by decide +kernel
theorem dX5_fences_22 : decode cX5_fences 22 = .ok (.return_, 1) := by decide +kernel
theorem dX5_fence_0 : decode cX5_fence 0 = .ok (.iload_n 1, 1) := by decide +kernel
theorem dX5_fence_1 : decode cX5_fence 1 = .ok (.invokestatic 62, 3) := by decide +kernel
theorem dX5_fence_4 : decode cX5_fence 4 = .ok (.ifCond .eq 13, 3) := by decide +kernel
theorem dX5_fence_7 : decode cX5_fence 7 = .ok (.iload_n 2, 1) := by decide +kernel
theorem dX5_fence_8 : decode cX5_fence 8 = .ok (.i2l, 1) := by decide +kernel
theorem dX5_fence_9 : decode cX5_fence 9 = .ok (.lconst 0, 1) := by decide +kernel
theorem dX5_fence_10 : decode cX5_fence 10 = .ok (.lconst 1, 1) := by decide +kernel
theorem dX5_fence_11 : decode cX5_fence 11 = .ok (.invokestatic 44, 3) := by decide +kernel
theorem dX5_fence_14 : decode cX5_fence 14 = .ok (.ifCond .ne 10, 3) := by decide +kernel
theorem dX5_fence_17 : decode cX5_fence 17 = .ok (.aload_n 0, 1) := by decide +kernel
theorem dX5_fence_18 : decode cX5_fence 18 = .ok (.ldc 41, 2) := by decide +kernel
theorem dX5_fence_20 : decode cX5_fence 20 = .ok (.invokevirtual 65, 3) := by decide +kernel
theorem dX5_fence_23 : decode cX5_fence 23 = .ok (.ireturn, 1) := by decide +kernel
theorem dX5_fence_24 : decode cX5_fence 24 = .ok (.aload_n 0, 1) := by decide +kernel
theorem dX5_fence_25 : decode cX5_fence 25 = .ok (.iload_n 1, 1) := by decide +kernel
theorem dX5_fence_26 : decode cX5_fence 26 = .ok (.invokevirtual 69, 3) := by decide +kernel
theorem dX5_fence_29 : decode cX5_fence 29 = .ok (.ifCond .eq 7, 3) := by decide +kernel
theorem dX5_fence_32 : decode cX5_fence 32 = .ok (.iconst 1, 1) := by decide +kernel
theorem dX5_fence_33 : decode cX5_fence 33 = .ok (.goto 4, 3) := by decide +kernel
theorem dX5_fence_36 : decode cX5_fence 36 = .ok (.iconst 0, 1) := by decide +kernel
theorem dX5_fence_37 : decode cX5_fence 37 = .ok (.istore_n 3, 1) := by decide +kernel
theorem dX5_fence_38 : decode cX5_fence 38 = .ok (.aload_n 0, 1) := by decide +kernel
theorem dX5_fence_39 : decode cX5_fence 39 = .ok (.iload_n 1, 1) := by decide +kernel
theorem dX5_fence_40 : decode cX5_fence 40 = .ok (.iload_n 2, 1) := by decide +kernel
theorem dX5_fence_41 : decode cX5_fence 41 = .ok (.invokevirtual 72, 3) := by decide +kernel
theorem dX5_fence_44 : decode cX5_fence 44 = .ok (.iload_n 3, 1) := by decide +kernel
theorem dX5_fence_45 : decode cX5_fence 45 = .ok (.ireturn, 1) := by decide +kernel
theorem dX5_spot_0 : decode cX5_spot 0 = .ok (.iload_n 1, 1) := by decide +kernel
theorem dX5_spot_1 : decode cX5_spot 1 = .ok (.i2l, 1) := by decide +kernel
theorem dX5_spot_2 : decode cX5_spot 2 = .ok (.lconst 0, 1) := by decide +kernel
theorem dX5_spot_3 : decode cX5_spot 3 = .ok (.ldc2_w 76, 3) := by decide +kernel
theorem dX5_spot_6 : decode cX5_spot 6 = .ok (.invokestatic 44, 3) := by decide +kernel
theorem dX5_spot_9 : decode cX5_spot 9 = .ok (.ifCond .eq 21, 3) := by decide +kernel
theorem dX5_spot_12 : decode cX5_spot 12 = .ok (.iload_n 2, 1) := by decide +kernel
theorem dX5_spot_13 : decode cX5_spot 13 = .ok (.invokestatic 62, 3) := by decide +kernel
theorem dX5_spot_16 : decode cX5_spot 16 = .ok (.ifCond .eq 14, 3) := by decide +kernel
theorem dX5_spot_19 : decode cX5_spot 19 = .ok (.aload_n 0, 1) := by decide +kernel
theorem dX5_spot_20 : decode cX5_spot 20 = .ok (.iconst 3, 1) := by decide +kernel
theorem dX5_spot_21 : decode cX5_spot 21 = .ok (.iload_n 1, 1) := by decide +kernel
theorem dX5_spot_22 : decode cX5_spot 22 = .ok (.iadd, 1) := by decide +kernel
theorem dX5_spot_23 : decode cX5_spot 23 = .ok (.iload_n 2, 1) := by decide +kernel
theorem dX5_spot_24 : decode cX5_spot 24 = .ok (.invokevirtual 78, 3) := by decide +kernel
theorem dX5_spot_27 : decode cX5_spot 27 = .ok (.goto 9, 3) := by decide +kernel
theorem dX5_spot_30 : decode cX5_spot 30 = .ok (.aload_n 0, 1) := by decide +kernel
theorem dX5_spot_31 : decode cX5_spot 31 = .ok (.ldc 41, 2) := by decide +kernel
theorem dX5_spot_33 : decode cX5_spot 33 = .ok (.invokevirtual 65, 3) := by decide +kernel
theorem dX5_spot_36 : decode cX5_spot 36 = .ok (.ireturn, 1) := by decide +kernel
theorem dX5_rain_0 : decode cX5_rain 0 = .ok (.iload_n 1, 1) := by decide +kernel
theorem dX5_rain_1 : decode cX5_rain 1 = .ok (.i2l, 1) := by decide +kernel
theorem dX5_rain_2 : decode cX5_rain 2 = .ok (.lconst 0, 1) := by decide +kernel
theorem dX5_rain_3 : decode cX5_rain 3 = .ok (.ldc2_w 81, 3) := by decide +kernel
theorem dX5_rain_6 : decode cX5_rain 6 = .ok (.invokestatic 44, 3) := by decide +kernel
theorem dX5_rain_9 : decode cX5_rain 9 = .ok (.ifCond .eq 13, 3) := by decide +kernel
theorem dX5_rain_12 : decode cX5_rain 12 = .ok (.aload_n 0, 1) := by decide +kernel
theorem dX5_rain_13 : decode cX5_rain 13 = .ok (.bipush 6, 2) := by decide +kernel
theorem dX5_rain_15 : decode cX5_rain 15 = .ok (.iload_n 1, 1) := by decide +kernel
theorem dX5_rain_16 : decode cX5_rain 16 = .ok (.invokevirtual 78, 3) := by decide +kernel
theorem dX5_rain_19 : decode cX5_rain 19 = .ok (.goto 9, 3) := by decide +kernel
theorem dX5_rain_22 : decode cX5_rain 22 = .ok (.aload_n 0, 1) := by decide +kernel
theorem dX5_rain_23 : decode cX5_rain 23 = .ok (.ldc 41, 2) := by decide +kernel
theorem dX5_rain_25 : decode cX5_rain 25 = .ok (.invokevirtual 65, 3) := by decide +kernel
theorem dX5_rain_28 : decode cX5_rain 28 = .ok (.ireturn, 1) := by decide +kernel
theorem dX5_those_0 : decode cX5_those 0 = .ok (.iconst 0, 1) := by decide +kernel
theorem dX5_those_1 : decode cX5_those 1 = .ok (.istore_n 2, 1) := by decide +kernel
theorem dX5_those_2 : decode cX5_those 2 = .ok (.iconst 0, 1) := by decide +kernel
theorem dX5_those_3 : decode cX5_those 3 = .ok (.istore_n 3, 1) := by decide +kernel
theorem dX5_those_4 : decode cX5_those 4 = .ok (.iload_n 3, 1) := by decide +kernel
theorem dX5_those_5 : decode cX5_those 5 = .ok (.aload_n 0, 1) := by decide +kernel
theorem dX5_those_6 : decode cX5_those 6 = .ok (.getfield 7, 3) := by decide +kernel
theorem dX5_those_9 : decode cX5_those 9 = .ok (.iconst 1, 1) := by decide +kernel
theorem dX5_those_10 : decode cX5_those 10 = .ok (.iaload, 1) := by decide +kernel
theorem dX5_those_11 : decode cX5_those 11 = .ok (.if_icmp .ge 29, 3) := by decide +kernel
theorem dX5_those_14 : decode cX5_those 14 = .ok (.iload_n 2, 1) := by decide +kernel
theorem dX5_those_15 : decode cX5_those 15 = .ok (.aload_n 0, 1) := by decide +kernel
theorem dX5_those_16 : decode cX5_those 16 = .ok (.iload_n 3, 1) := by decide +kernel
theorem dX5_those_17 : decode cX5_those 17 = .ok (.iconst 1, 1) := by decide +kernel
theorem dX5_those_18 : decode cX5_those 18 = .ok (.invokevirtual 83, 3) := by decide +kernel
theorem dX5_those_21 : decode cX5_those 21 = .ok (.iload_n 1, 1) := by decide +kernel
theorem dX5_those_22 : decode cX5_those 22 = .ok (.if_icmp .ne 9, 3) := by decide +kernel
theorem dX5_those_25 : decode cX5_those 25 = .ok (.iconst 1, 1) := by decide +kernel
theorem dX5_those_26 : decode cX5_those 26 = .ok (.iload_n 3, 1) := by decide +kernel
theorem dX5_those_27 : decode cX5_those 27 = .ok (.ishl, 1) := by decide +kernel
theorem dX5_those_28 : decode cX5_those 28 = .ok (.goto 4, 3) := by decide +kernel
theorem dX5_those_31 : decode cX5_those 31 = .ok (.iconst 0, 1) := by decide +kernel
theorem dX5_those_32 : decode cX5_those 32 = .ok (.ior, 1) := by decide +kernel
theorem dX5_those_33 : decode cX5_those 33 = .ok (.istore_n 2, 1) := by decide +kernel
theorem dX5_those_34 : decode cX5_those 34 = .ok (.iinc 3 1, 3) := by decide +kernel
theorem dX5_those_37 : decode cX5_those 37 = .ok (.goto (-33), 3) := by decide +kernel
theorem dX5_those_40 : decode cX5_those 40 = .ok (.iload_n 2, 1) := by decide +kernel
theorem dX5_those_41 : decode cX5_those 41 = .ok (.ireturn, 1) := by decide +kernel
theorem dX5_booksIn_0 : decode cX5_booksIn 0 = .ok (.iconst 0, 1) := by decide +kernel
theorem dX5_booksIn_1 : decode cX5_booksIn 1 = .ok (.istore_n 2, 1) := by decide +kernel
theorem dX5_booksIn_2 : decode cX5_booksIn 2 = .ok (.iconst 0, 1) := by decide +kernel
theorem dX5_booksIn_3 : decode cX5_booksIn 3 = .ok (.istore_n 3, 1) := by decide +kernel
theorem dX5_booksIn_4 : decode cX5_booksIn 4 = .ok (.iload_n 3, 1) := by decide +kernel
theorem dX5_booksIn_5 : decode cX5_booksIn 5 = .ok (.aload_n 0, 1) := by decide +kernel
theorem dX5_booksIn_6 : decode cX5_booksIn 6 = .ok (.getfield 7, 3) := by decide +kernel
theorem dX5_booksIn_9 : decode cX5_booksIn 9 = .ok (.iconst 1, 1) := by decide +kernel
theorem dX5_booksIn_10 : decode cX5_booksIn 10 = .ok (.iaload, 1) := by decide +kernel
theorem dX5_booksIn_11 : decode cX5_booksIn 11 = .ok (.if_icmp .ge 32, 3) := by decide +kernel
theorem dX5_booksIn_14 : decode cX5_booksIn 14 = .ok (.iload_n 2, 1) := by decide +kernel
theorem dX5_booksIn_15 : decode cX5_booksIn 15 = .ok (.aload_n 0, 1) := by decide +kernel
theorem dX5_booksIn_16 : decode cX5_booksIn 16 = .ok (.iload_n 3, 1) := by decide +kernel
theorem dX5_booksIn_17 : decode cX5_booksIn 17 = .ok (.iconst 1, 1) := by decide +kernel
theorem dX5_booksIn_18 : decode cX5_booksIn 18 = .ok (.invokevirtual 83, 3) := by decide +kernel
theorem dX5_booksIn_21 : decode cX5_booksIn 21 = .ok (.iload_n 1, 1) := by decide +kernel
theorem dX5_booksIn_22 : decode cX5_booksIn 22 = .ok (.if_icmp .ne 12, 3) := by decide +kernel
theorem dX5_booksIn_25 : decode cX5_booksIn 25 = .ok (.aload_n 0, 1) := by decide +kernel
theorem dX5_booksIn_26 : decode cX5_booksIn 26 = .ok (.iload_n 3, 1) := by decide +kernel
theorem dX5_booksIn_27 : decode cX5_booksIn 27 = .ok (.iconst 2, 1) := by decide +kernel
theorem dX5_booksIn_28 : decode cX5_booksIn 28 = .ok (.invokevirtual 83, 3) := by decide +kernel
theorem dX5_booksIn_31 : decode cX5_booksIn 31 = .ok (.goto 4, 3) := by decide +kernel
theorem dX5_booksIn_34 : decode cX5_booksIn 34 = .ok (.iconst 0, 1) := by decide +kernel
theorem dX5_booksIn_35 : decode cX5_booksIn 35 = .ok (.ior, 1) := by decide +kernel
theorem dX5_booksIn_36 : decode cX5_booksIn 36 = .ok (.istore_n 2, 1) := by decide +kernel
theorem dX5_booksIn_37 : decode cX5_booksIn 37 = .ok (.iinc 3 1, 3) := by decide +kernel
theorem dX5_booksIn_40 : decode cX5_booksIn 40 = .ok (.goto (-36), 3) := by decide +kernel
theorem dX5_booksIn_43 : decode cX5_booksIn 43 = .ok (.iload_n 2, 1) := by decide +kernel
theorem dX5_booksIn_44 : decode cX5_booksIn 44 = .ok (.ireturn, 1) := by decide +kernel
theorem dX5_cell_0 : decode cX5_cell 0 = .ok (.iload_n 1, 1) := by decide +kernel
theorem dX5_cell_1 : decode cX5_cell 1 = .ok (.invokestatic 62, 3) := by decide +kernel
theorem dX5_cell_4 : decode cX5_cell 4 = .ok (.ifCond .eq 15, 3) := by decide +kernel
theorem dX5_cell_7 : decode cX5_cell 7 = .ok (.iload_n 2, 1) := by decide +kernel
theorem dX5_cell_8 : decode cX5_cell 8 = .ok (.i2l, 1) := by decide +kernel
theorem dX5_cell_9 : decode cX5_cell 9 = .ok (.lconst 0, 1) := by decide +kernel
theorem dX5_cell_10 : decode cX5_cell 10 = .ok (.ldc2_w 76, 3) := by decide +kernel
theorem dX5_cell_13 : decode cX5_cell 13 = .ok (.invokestatic 44, 3) := by decide +kernel
theorem dX5_cell_16 : decode cX5_cell 16 = .ok (.ifCond .ne 10, 3) := by decide +kernel
theorem dX5_cell_19 : decode cX5_cell 19 = .ok (.aload_n 0, 1) := by decide +kernel
theorem dX5_cell_20 : decode cX5_cell 20 = .ok (.ldc 41, 2) := by decide +kernel
theorem dX5_cell_22 : decode cX5_cell 22 = .ok (.invokevirtual 65, 3) := by decide +kernel
theorem dX5_cell_25 : decode cX5_cell 25 = .ok (.ireturn, 1) := by decide +kernel
theorem dX5_cell_26 : decode cX5_cell 26 = .ok (.iload_n 2, 1) := by decide +kernel
theorem dX5_cell_27 : decode cX5_cell 27 = .ok (.ifCond .ne 19, 3) := by decide +kernel
theorem dX5_cell_30 : decode cX5_cell 30 = .ok (.aload_n 0, 1) := by decide +kernel
theorem dX5_cell_31 : decode cX5_cell 31 = .ok (.iload_n 1, 1) := by decide +kernel
theorem dX5_cell_32 : decode cX5_cell 32 = .ok (.invokevirtual 69, 3) := by decide +kernel
theorem dX5_cell_35 : decode cX5_cell 35 = .ok (.ifCond .eq 7, 3) := by decide +kernel
theorem dX5_cell_38 : decode cX5_cell 38 = .ok (.iconst 1, 1) := by decide +kernel
theorem dX5_cell_39 : decode cX5_cell 39 = .ok (.goto 25, 3) := by decide +kernel
theorem dX5_cell_42 : decode cX5_cell 42 = .ok (.iconst 0, 1) := by decide +kernel
theorem dX5_cell_43 : decode cX5_cell 43 = .ok (.goto 21, 3) := by decide +kernel
theorem dX5_cell_46 : decode cX5_cell 46 = .ok (.iload_n 2, 1) := by decide +kernel
theorem dX5_cell_47 : decode cX5_cell 47 = .ok (.iconst 1, 1) := by decide +kernel
theorem dX5_cell_48 : decode cX5_cell 48 = .ok (.if_icmp .ne 11, 3) := by decide +kernel
theorem dX5_cell_51 : decode cX5_cell 51 = .ok (.aload_n 0, 1) := by decide +kernel
theorem dX5_cell_52 : decode cX5_cell 52 = .ok (.iload_n 1, 1) := by decide +kernel
theorem dX5_cell_53 : decode cX5_cell 53 = .ok (.invokevirtual 86, 3) := by decide +kernel
theorem dX5_cell_56 : decode cX5_cell 56 = .ok (.goto 8, 3) := by decide +kernel
theorem dX5_cell_59 : decode cX5_cell 59 = .ok (.aload_n 0, 1) := by decide +kernel
theorem dX5_cell_60 : decode cX5_cell 60 = .ok (.iload_n 1, 1) := by decide +kernel
theorem dX5_cell_61 : decode cX5_cell 61 = .ok (.invokevirtual 89, 3) := by decide +kernel
theorem dX5_cell_64 : decode cX5_cell 64 = .ok (.ireturn, 1) := by decide +kernel
theorem dX5_clock_0 : decode cX5_clock 0 = .ok (.aload_n 0, 1) := by decide +kernel
theorem dX5_clock_1 : decode cX5_clock 1 = .ok (.getfield 7, 3) := by decide +kernel
theorem dX5_clock_4 : decode cX5_clock 4 = .ok (.iconst 0, 1) := by decide +kernel
theorem dX5_clock_5 : decode cX5_clock 5 = .ok (.iaload, 1) := by decide +kernel
theorem dX5_clock_6 : decode cX5_clock 6 = .ok (.bipush 24, 2) := by decide +kernel
theorem dX5_clock_8 : decode cX5_clock 8 = .ok (.irem, 1) := by decide +kernel
theorem dX5_clock_9 : decode cX5_clock 9 = .ok (.ireturn, 1) := by decide +kernel
theorem dX5_rains_0 : decode cX5_rains 0 = .ok (.aload_n 0, 1) := by decide +kernel
theorem dX5_rains_1 : decode cX5_rains 1 = .ok (.getfield 7, 3) := by decide +kernel
theorem dX5_rains_4 : decode cX5_rains 4 = .ok (.bipush 6, 2) := by decide +kernel
theorem dX5_rains_6 : decode cX5_rains 6 = .ok (.iaload, 1) := by decide +kernel
theorem dX5_rains_7 : decode cX5_rains 7 = .ok (.aload_n 0, 1) := by decide +kernel
theorem dX5_rains_8 : decode cX5_rains 8 = .ok (.invokevirtual 92, 3) := by decide +kernel
theorem dX5_rains_11 : decode cX5_rains 11 = .ok (.ishr, 1) := by decide +kernel
theorem dX5_rains_12 : decode cX5_rains 12 = .ok (.iconst 1, 1) := by decide +kernel
theorem dX5_rains_13 : decode cX5_rains 13 = .ok (.iand, 1) := by decide +kernel
theorem dX5_rains_14 : decode cX5_rains 14 = .ok (.iconst 1, 1) := by decide +kernel
theorem dX5_rains_15 : decode cX5_rains 15 = .ok (.if_icmp .ne 7, 3) := by decide +kernel
theorem dX5_rains_18 : decode cX5_rains 18 = .ok (.iconst 1, 1) := by decide +kernel
theorem dX5_rains_19 : decode cX5_rains 19 = .ok (.goto 4, 3) := by decide +kernel
theorem dX5_rains_22 : decode cX5_rains 22 = .ok (.iconst 0, 1) := by decide +kernel
theorem dX5_rains_23 : decode cX5_rains 23 = .ok (.ireturn, 1) := by decide +kernel
theorem dX5_lawful_0 : decode cX5_lawful 0 = .ok (.aload_n 0, 1) := by decide +kernel
theorem dX5_lawful_1 : decode cX5_lawful 1 = .ok (.invokevirtual 92, 3) := by decide +kernel
theorem dX5_lawful_4 : decode cX5_lawful 4 = .ok (.i2l, 1) := by decide +kernel
theorem dX5_lawful_5 : decode cX5_lawful 5 = .ok (.ldc2_w 96, 3) := by decide +kernel
theorem dX5_lawful_8 : decode cX5_lawful 8 = .ok (.ldc2_w 98, 3) := by decide +kernel
theorem dX5_lawful_11 : decode cX5_lawful 11 = .ok (.invokestatic 44, 3) := by decide +kernel
theorem dX5_lawful_14 : decode cX5_lawful 14 = .ok (.ifCond .eq 12, 3) := by decide +kernel
theorem dX5_lawful_17 : decode cX5_lawful 17 = .ok (.aload_n 0, 1) := by decide +kernel
theorem dX5_lawful_18 : decode cX5_lawful 18 = .ok (.getfield 7, 3) := by decide +kernel
theorem dX5_lawful_21 : decode cX5_lawful 21 = .ok (.iconst 4, 1) := by decide +kernel
theorem dX5_lawful_22 : decode cX5_lawful 22 = .ok (.iaload, 1) := by decide +kernel
theorem dX5_lawful_23 : decode cX5_lawful 23 = .ok (.goto 9, 3) := by decide +kernel
theorem dX5_lawful_26 : decode cX5_lawful 26 = .ok (.aload_n 0, 1) := by decide +kernel
theorem dX5_lawful_27 : decode cX5_lawful 27 = .ok (.getfield 7, 3) := by decide +kernel
theorem dX5_lawful_30 : decode cX5_lawful 30 = .ok (.iconst 3, 1) := by decide +kernel
theorem dX5_lawful_31 : decode cX5_lawful 31 = .ok (.iaload, 1) := by decide +kernel
theorem dX5_lawful_32 : decode cX5_lawful 32 = .ok (.ireturn, 1) := by decide +kernel
theorem dX5_aimOf_0 : decode cX5_aimOf 0 = .ok (.aload_n 0, 1) := by decide +kernel
theorem dX5_aimOf_1 : decode cX5_aimOf 1 = .ok (.iload_n 1, 1) := by decide +kernel
theorem dX5_aimOf_2 : decode cX5_aimOf 2 = .ok (.iconst 0, 1) := by decide +kernel
theorem dX5_aimOf_3 : decode cX5_aimOf 3 = .ok (.invokevirtual 83, 3) := by decide +kernel
theorem dX5_aimOf_6 : decode cX5_aimOf 6 = .ok (.tableswitch 104 2 5 #[30, 81, 56, 35], 30) := by decide +kernel
theorem dX5_aimOf_36 : decode cX5_aimOf 36 = .ok (.aload_n 0, 1) := by decide +kernel
theorem dX5_aimOf_37 : decode cX5_aimOf 37 = .ok (.invokevirtual 100, 3) := by decide +kernel
theorem dX5_aimOf_40 : decode cX5_aimOf 40 = .ok (.ireturn, 1) := by decide +kernel
theorem dX5_aimOf_41 : decode cX5_aimOf 41 = .ok (.aload_n 0, 1) := by decide +kernel
theorem dX5_aimOf_42 : decode cX5_aimOf 42 = .ok (.invokevirtual 103, 3) := by decide +kernel
theorem dX5_aimOf_45 : decode cX5_aimOf 45 = .ok (.ifCond .eq 12, 3) := by decide +kernel
theorem dX5_aimOf_48 : decode cX5_aimOf 48 = .ok (.aload_n 0, 1) := by decide +kernel
theorem dX5_aimOf_49 : decode cX5_aimOf 49 = .ok (.getfield 7, 3) := by decide +kernel
theorem dX5_aimOf_52 : decode cX5_aimOf 52 = .ok (.iconst 5, 1) := by decide +kernel
theorem dX5_aimOf_53 : decode cX5_aimOf 53 = .ok (.iaload, 1) := by decide +kernel
theorem dX5_aimOf_54 : decode cX5_aimOf 54 = .ok (.goto 7, 3) := by decide +kernel
theorem dX5_aimOf_57 : decode cX5_aimOf 57 = .ok (.aload_n 0, 1) := by decide +kernel
theorem dX5_aimOf_58 : decode cX5_aimOf 58 = .ok (.invokevirtual 100, 3) := by decide +kernel
theorem dX5_aimOf_61 : decode cX5_aimOf 61 = .ok (.ireturn, 1) := by decide +kernel
theorem dX5_aimOf_62 : decode cX5_aimOf 62 = .ok (.aload_n 0, 1) := by decide +kernel
theorem dX5_aimOf_63 : decode cX5_aimOf 63 = .ok (.invokevirtual 92, 3) := by decide +kernel
theorem dX5_aimOf_66 : decode cX5_aimOf 66 = .ok (.bipush 20, 2) := by decide +kernel
theorem dX5_aimOf_68 : decode cX5_aimOf 68 = .ok (.if_icmp .lt 12, 3) := by decide +kernel
theorem dX5_aimOf_71 : decode cX5_aimOf 71 = .ok (.aload_n 0, 1) := by decide +kernel
theorem dX5_aimOf_72 : decode cX5_aimOf 72 = .ok (.getfield 7, 3) := by decide +kernel
theorem dX5_aimOf_75 : decode cX5_aimOf 75 = .ok (.iconst 5, 1) := by decide +kernel
theorem dX5_aimOf_76 : decode cX5_aimOf 76 = .ok (.iaload, 1) := by decide +kernel
theorem dX5_aimOf_77 : decode cX5_aimOf 77 = .ok (.goto 9, 3) := by decide +kernel
theorem dX5_aimOf_80 : decode cX5_aimOf 80 = .ok (.aload_n 0, 1) := by decide +kernel
theorem dX5_aimOf_81 : decode cX5_aimOf 81 = .ok (.getfield 7, 3) := by decide +kernel
theorem dX5_aimOf_84 : decode cX5_aimOf 84 = .ok (.iconst 3, 1) := by decide +kernel
theorem dX5_aimOf_85 : decode cX5_aimOf 85 = .ok (.iaload, 1) := by decide +kernel
theorem dX5_aimOf_86 : decode cX5_aimOf 86 = .ok (.ireturn, 1) := by decide +kernel
theorem dX5_aimOf_87 : decode cX5_aimOf 87 = .ok (.aload_n 0, 1) := by decide +kernel
theorem dX5_aimOf_88 : decode cX5_aimOf 88 = .ok (.invokevirtual 103, 3) := by decide +kernel
theorem dX5_aimOf_91 : decode cX5_aimOf 91 = .ok (.ifCond .eq 12, 3) := by decide +kernel
theorem dX5_aimOf_94 : decode cX5_aimOf 94 = .ok (.aload_n 0, 1) := by decide +kernel
theorem dX5_aimOf_95 : decode cX5_aimOf 95 = .ok (.getfield 7, 3) := by decide +kernel
theorem dX5_aimOf_98 : decode cX5_aimOf 98 = .ok (.iconst 3, 1) := by decide +kernel
theorem dX5_aimOf_99 : decode cX5_aimOf 99 = .ok (.iaload, 1) := by decide +kernel
theorem dX5_aimOf_100 : decode cX5_aimOf 100 = .ok (.goto 9, 3) := by decide +kernel
theorem dX5_aimOf_103 : decode cX5_aimOf 103 = .ok (.aload_n 0, 1) := by decide +kernel
theorem dX5_aimOf_104 : decode cX5_aimOf 104 = .ok (.iload_n 1, 1) := by decide +kernel
theorem dX5_aimOf_105 : decode cX5_aimOf 105 = .ok (.iconst 1, 1) := by decide +kernel
theorem dX5_aimOf_106 : decode cX5_aimOf 106 = .ok (.invokevirtual 83, 3) := by decide +kernel
theorem dX5_aimOf_109 : decode cX5_aimOf 109 = .ok (.ireturn, 1) := by decide +kernel
theorem dX5_aimOf_110 : decode cX5_aimOf 110 = .ok (.aload_n 0, 1) := by decide +kernel
theorem dX5_aimOf_111 : decode cX5_aimOf 111 = .ok (.getfield 7, 3) := by decide +kernel
theorem dX5_aimOf_114 : decode cX5_aimOf 114 = .ok (.iconst 3, 1) := by decide +kernel
theorem dX5_aimOf_115 : decode cX5_aimOf 115 = .ok (.iaload, 1) := by decide +kernel
theorem dX5_aimOf_116 : decode cX5_aimOf 116 = .ok (.ireturn, 1) := by decide +kernel
theorem dX5_paceOf_0 : decode cX5_paceOf 0 = .ok (.aload_n 0, 1) := by decide +kernel
theorem dX5_paceOf_1 : decode cX5_paceOf 1 = .ok (.iload_n 1, 1) := by decide +kernel
theorem dX5_paceOf_2 : decode cX5_paceOf 2 = .ok (.iconst 0, 1) := by decide +kernel
theorem dX5_paceOf_3 : decode cX5_paceOf 3 = .ok (.invokevirtual 83, 3) := by decide +kernel
theorem dX5_paceOf_6 : decode cX5_paceOf 6 = .ok (.tableswitch 49 1 4 #[30, 49, 34, 32], 30) := by decide +kernel
theorem dX5_paceOf_36 : decode cX5_paceOf 36 = .ok (.iconst 2, 1) := by decide +kernel
theorem dX5_paceOf_37 : decode cX5_paceOf 37 = .ok (.ireturn, 1) := by decide +kernel
theorem dX5_paceOf_38 : decode cX5_paceOf 38 = .ok (.iconst 3, 1) := by decide +kernel
theorem dX5_paceOf_39 : decode cX5_paceOf 39 = .ok (.ireturn, 1) := by decide +kernel
theorem dX5_paceOf_40 : decode cX5_paceOf 40 = .ok (.aload_n 0, 1) := by decide +kernel
theorem dX5_paceOf_41 : decode cX5_paceOf 41 = .ok (.invokevirtual 92, 3) := by decide +kernel
theorem dX5_paceOf_44 : decode cX5_paceOf 44 = .ok (.iconst 2, 1) := by decide +kernel
theorem dX5_paceOf_45 : decode cX5_paceOf 45 = .ok (.irem, 1) := by decide +kernel
theorem dX5_paceOf_46 : decode cX5_paceOf 46 = .ok (.ifCond .ne 7, 3) := by decide +kernel
theorem dX5_paceOf_49 : decode cX5_paceOf 49 = .ok (.iconst 1, 1) := by decide +kernel
theorem dX5_paceOf_50 : decode cX5_paceOf 50 = .ok (.goto 4, 3) := by decide +kernel
theorem dX5_paceOf_53 : decode cX5_paceOf 53 = .ok (.iconst 0, 1) := by decide +kernel
theorem dX5_paceOf_54 : decode cX5_paceOf 54 = .ok (.ireturn, 1) := by decide +kernel
theorem dX5_paceOf_55 : decode cX5_paceOf 55 = .ok (.iconst 1, 1) := by decide +kernel
theorem dX5_paceOf_56 : decode cX5_paceOf 56 = .ok (.ireturn, 1) := by decide +kernel
theorem dX5_adds_0 : decode cX5_adds 0 = .ok (.aload_n 0, 1) := by decide +kernel
theorem dX5_adds_1 : decode cX5_adds 1 = .ok (.getfield 7, 3) := by decide +kernel
theorem dX5_adds_4 : decode cX5_adds 4 = .ok (.iconst 1, 1) := by decide +kernel
theorem dX5_adds_5 : decode cX5_adds 5 = .ok (.iaload, 1) := by decide +kernel
theorem dX5_adds_6 : decode cX5_adds 6 = .ok (.istore 4, 2) := by decide +kernel
theorem dX5_adds_8 : decode cX5_adds 8 = .ok (.aload_n 0, 1) := by decide +kernel
theorem dX5_adds_9 : decode cX5_adds 9 = .ok (.getfield 7, 3) := by decide +kernel
theorem dX5_adds_12 : decode cX5_adds 12 = .ok (.iload 4, 2) := by decide +kernel
theorem dX5_adds_14 : decode cX5_adds 14 = .ok (.iconst 0, 1) := by decide +kernel
theorem dX5_adds_15 : decode cX5_adds 15 = .ok (.invokestatic 58, 3) := by decide +kernel
theorem dX5_adds_18 : decode cX5_adds 18 = .ok (.iload_n 1, 1) := by decide +kernel
theorem dX5_adds_19 : decode cX5_adds 19 = .ok (.iastore, 1) := by decide +kernel
theorem dX5_adds_20 : decode cX5_adds 20 = .ok (.aload_n 0, 1) := by decide +kernel
theorem dX5_adds_21 : decode cX5_adds 21 = .ok (.getfield 7, 3) := by decide +kernel
theorem dX5_adds_24 : decode cX5_adds 24 = .ok (.iload 4, 2) := by decide +kernel
theorem dX5_adds_26 : decode cX5_adds 26 = .ok (.iconst 1, 1) := by decide +kernel
theorem dX5_adds_27 : decode cX5_adds 27 = .ok (.invokestatic 58, 3) := by decide +kernel
theorem dX5_adds_30 : decode cX5_adds 30 = .ok (.iload_n 2, 1) := by decide +kernel
theorem dX5_adds_31 : decode cX5_adds 31 = .ok (.iastore, 1) := by decide +kernel
theorem dX5_adds_32 : decode cX5_adds 32 = .ok (.aload_n 0, 1) := by decide +kernel
theorem dX5_adds_33 : decode cX5_adds 33 = .ok (.getfield 7, 3) := by decide +kernel
theorem dX5_adds_36 : decode cX5_adds 36 = .ok (.iload 4, 2) := by decide +kernel
theorem dX5_adds_38 : decode cX5_adds 38 = .ok (.iconst 2, 1) := by decide +kernel
theorem dX5_adds_39 : decode cX5_adds 39 = .ok (.invokestatic 58, 3) := by decide +kernel
theorem dX5_adds_42 : decode cX5_adds 42 = .ok (.iload_n 3, 1) := by decide +kernel
theorem dX5_adds_43 : decode cX5_adds 43 = .ok (.iastore, 1) := by decide +kernel
theorem dX5_adds_44 : decode cX5_adds 44 = .ok (.aload_n 0, 1) := by decide +kernel
theorem dX5_adds_45 : decode cX5_adds 45 = .ok (.getfield 7, 3) := by decide +kernel
theorem dX5_adds_48 : decode cX5_adds 48 = .ok (.iload 4, 2) := by decide +kernel
theorem dX5_adds_50 : decode cX5_adds 50 = .ok (.iconst 3, 1) := by decide +kernel
theorem dX5_adds_51 : decode cX5_adds 51 = .ok (.invokestatic 58, 3) := by decide +kernel
theorem dX5_adds_54 : decode cX5_adds 54 = .ok (.iconst 0, 1) := by decide +kernel
theorem dX5_adds_55 : decode cX5_adds 55 = .ok (.iastore, 1) := by decide +kernel
theorem dX5_adds_56 : decode cX5_adds 56 = .ok (.aload_n 0, 1) := by decide +kernel
theorem dX5_adds_57 : decode cX5_adds 57 = .ok (.getfield 7, 3) := by decide +kernel
theorem dX5_adds_60 : decode cX5_adds 60 = .ok (.iconst 1, 1) := by decide +kernel
theorem dX5_adds_61 : decode cX5_adds 61 = .ok (.dup2, 1) := by decide +kernel
theorem dX5_adds_62 : decode cX5_adds 62 = .ok (.iaload, 1) := by decide +kernel
theorem dX5_adds_63 : decode cX5_adds 63 = .ok (.iconst 1, 1) := by decide +kernel
theorem dX5_adds_64 : decode cX5_adds 64 = .ok (.iadd, 1) := by decide +kernel
theorem dX5_adds_65 : decode cX5_adds 65 = .ok (.iastore, 1) := by decide +kernel
theorem dX5_adds_66 : decode cX5_adds 66 = .ok (.iload 4, 2) := by decide +kernel
theorem dX5_adds_68 : decode cX5_adds 68 = .ok (.ireturn, 1) := by decide +kernel
theorem dX5_tortoise_0 : decode cX5_tortoise 0 = .ok (.iload_n 1, 1) := by decide +kernel
theorem dX5_tortoise_1 : decode cX5_tortoise 1 = .ok (.invokestatic 107, 3) := by decide +kernel
theorem dX5_tortoise_4 : decode cX5_tortoise 4 = .ok (.ifCond .eq 18, 3) := by decide +kernel
theorem dX5_tortoise_7 : decode cX5_tortoise 7 = .ok (.iload_n 2, 1) := by decide +kernel
theorem dX5_tortoise_8 : decode cX5_tortoise 8 = .ok (.invokestatic 62, 3) := by decide +kernel
theorem dX5_tortoise_11 : decode cX5_tortoise 11 = .ok (.ifCond .eq 11, 3) := by decide +kernel
theorem dX5_tortoise_14 : decode cX5_tortoise 14 = .ok (.iload_n 3, 1) := by decide +kernel
theorem dX5_tortoise_15 : decode cX5_tortoise 15 = .ok (.i2l, 1) := by decide +kernel
theorem dX5_tortoise_16 : decode cX5_tortoise 16 = .ok (.invokestatic 110, 3) := by decide +kernel
theorem dX5_tortoise_19 : decode cX5_tortoise 19 = .ok (.ifCond .ne 10, 3) := by decide +kernel
theorem dX5_tortoise_22 : decode cX5_tortoise 22 = .ok (.aload_n 0, 1) := by decide +kernel
theorem dX5_tortoise_23 : decode cX5_tortoise 23 = .ok (.ldc 41, 2) := by decide +kernel
theorem dX5_tortoise_25 : decode cX5_tortoise 25 = .ok (.invokevirtual 65, 3) := by decide +kernel
theorem dX5_tortoise_28 : decode cX5_tortoise 28 = .ok (.ireturn, 1) := by decide +kernel
theorem dX5_tortoise_29 : decode cX5_tortoise 29 = .ok (.aload_n 0, 1) := by decide +kernel
theorem dX5_tortoise_30 : decode cX5_tortoise 30 = .ok (.getfield 7, 3) := by decide +kernel
theorem dX5_tortoise_33 : decode cX5_tortoise 33 = .ok (.iconst 1, 1) := by decide +kernel
theorem dX5_tortoise_34 : decode cX5_tortoise 34 = .ok (.iaload, 1) := by decide +kernel
theorem dX5_tortoise_35 : decode cX5_tortoise 35 = .ok (.bipush 8, 2) := by decide +kernel
theorem dX5_tortoise_37 : decode cX5_tortoise 37 = .ok (.if_icmp .ne 12, 3) := by decide +kernel
theorem dX5_tortoise_40 : decode cX5_tortoise 40 = .ok (.aload_n 0, 1) := by decide +kernel
theorem dX5_tortoise_41 : decode cX5_tortoise 41 = .ok (.ldc 114, 2) := by decide +kernel
theorem dX5_tortoise_43 : decode cX5_tortoise 43 = .ok (.invokevirtual 65, 3) := by decide +kernel
theorem dX5_tortoise_46 : decode cX5_tortoise 46 = .ok (.goto 10, 3) := by decide +kernel
theorem dX5_tortoise_49 : decode cX5_tortoise 49 = .ok (.aload_n 0, 1) := by decide +kernel
theorem dX5_tortoise_50 : decode cX5_tortoise 50 = .ok (.iload_n 1, 1) := by decide +kernel
theorem dX5_tortoise_51 : decode cX5_tortoise 51 = .ok (.iload_n 2, 1) := by decide +kernel
theorem dX5_tortoise_52 : decode cX5_tortoise 52 = .ok (.iload_n 3, 1) := by decide +kernel
theorem dX5_tortoise_53 : decode cX5_tortoise 53 = .ok (.invokevirtual 115, 3) := by decide +kernel
theorem dX5_tortoise_56 : decode cX5_tortoise 56 = .ok (.ireturn, 1) := by decide +kernel
theorem dX5_of_0 : decode cX5_of 0 = .ok (.aload_n 0, 1) := by decide +kernel
theorem dX5_of_1 : decode cX5_of 1 = .ok (.iload_n 1, 1) := by decide +kernel
theorem dX5_of_2 : decode cX5_of 2 = .ok (.invokevirtual 54, 3) := by decide +kernel
theorem dX5_of_5 : decode cX5_of 5 = .ok (.ifCond .eq 15, 3) := by decide +kernel
theorem dX5_of_8 : decode cX5_of 8 = .ok (.iload_n 2, 1) := by decide +kernel
theorem dX5_of_9 : decode cX5_of 9 = .ok (.i2l, 1) := by decide +kernel
theorem dX5_of_10 : decode cX5_of 10 = .ok (.lconst 0, 1) := by decide +kernel
theorem dX5_of_11 : decode cX5_of 11 = .ok (.ldc2_w 48, 3) := by decide +kernel
theorem dX5_of_14 : decode cX5_of 14 = .ok (.invokestatic 44, 3) := by decide +kernel
theorem dX5_of_17 : decode cX5_of 17 = .ok (.ifCond .ne 10, 3) := by decide +kernel
theorem dX5_of_20 : decode cX5_of 20 = .ok (.aload_n 0, 1) := by decide +kernel
theorem dX5_of_21 : decode cX5_of 21 = .ok (.ldc 41, 2) := by decide +kernel
theorem dX5_of_23 : decode cX5_of 23 = .ok (.invokevirtual 65, 3) := by decide +kernel
theorem dX5_of_26 : decode cX5_of 26 = .ok (.ireturn, 1) := by decide +kernel
theorem dX5_of_27 : decode cX5_of 27 = .ok (.iload_n 2, 1) := by decide +kernel
theorem dX5_of_28 : decode cX5_of 28 = .ok (.iconst 4, 1) := by decide +kernel
theorem dX5_of_29 : decode cX5_of 29 = .ok (.if_icmp .ge 12, 3) := by decide +kernel
theorem dX5_of_32 : decode cX5_of 32 = .ok (.aload_n 0, 1) := by decide +kernel
theorem dX5_of_33 : decode cX5_of 33 = .ok (.iload_n 1, 1) := by decide +kernel
theorem dX5_of_34 : decode cX5_of 34 = .ok (.iload_n 2, 1) := by decide +kernel
theorem dX5_of_35 : decode cX5_of 35 = .ok (.invokevirtual 83, 3) := by decide +kernel
theorem dX5_of_38 : decode cX5_of 38 = .ok (.goto 21, 3) := by decide +kernel
theorem dX5_of_41 : decode cX5_of 41 = .ok (.iload_n 2, 1) := by decide +kernel
theorem dX5_of_42 : decode cX5_of 42 = .ok (.iconst 4, 1) := by decide +kernel
theorem dX5_of_43 : decode cX5_of 43 = .ok (.if_icmp .ne 11, 3) := by decide +kernel
theorem dX5_of_46 : decode cX5_of 46 = .ok (.aload_n 0, 1) := by decide +kernel
theorem dX5_of_47 : decode cX5_of 47 = .ok (.iload_n 1, 1) := by decide +kernel
theorem dX5_of_48 : decode cX5_of 48 = .ok (.invokevirtual 119, 3) := by decide +kernel
theorem dX5_of_51 : decode cX5_of 51 = .ok (.goto 8, 3) := by decide +kernel
theorem dX5_of_54 : decode cX5_of 54 = .ok (.aload_n 0, 1) := by decide +kernel
theorem dX5_of_55 : decode cX5_of 55 = .ok (.iload_n 1, 1) := by decide +kernel
theorem dX5_of_56 : decode cX5_of 56 = .ok (.invokevirtual 122, 3) := by decide +kernel
theorem dX5_of_59 : decode cX5_of 59 = .ok (.ireturn, 1) := by decide +kernel
theorem dX5_set_0 : decode cX5_set 0 = .ok (.iload_n 2, 1) := by decide +kernel
theorem dX5_set_1 : decode cX5_set 1 = .ok (.iconst 1, 1) := by decide +kernel
theorem dX5_set_2 : decode cX5_set 2 = .ok (.if_icmp .ne 10, 3) := by decide +kernel
theorem dX5_set_5 : decode cX5_set 5 = .ok (.iload_n 3, 1) := by decide +kernel
theorem dX5_set_6 : decode cX5_set 6 = .ok (.invokestatic 62, 3) := by decide +kernel
theorem dX5_set_9 : decode cX5_set 9 = .ok (.goto 36, 3) := by decide +kernel
theorem dX5_set_12 : decode cX5_set 12 = .ok (.iload_n 2, 1) := by decide +kernel
theorem dX5_set_13 : decode cX5_set 13 = .ok (.iconst 2, 1) := by decide +kernel
theorem dX5_set_14 : decode cX5_set 14 = .ok (.if_icmp .ne 11, 3) := by decide +kernel
theorem dX5_set_17 : decode cX5_set 17 = .ok (.iload_n 3, 1) := by decide +kernel
theorem dX5_set_18 : decode cX5_set 18 = .ok (.i2l, 1) := by decide +kernel
theorem dX5_set_19 : decode cX5_set 19 = .ok (.invokestatic 110, 3) := by decide +kernel
theorem dX5_set_22 : decode cX5_set 22 = .ok (.goto 23, 3) := by decide +kernel
theorem dX5_set_25 : decode cX5_set 25 = .ok (.iload_n 2, 1) := by decide +kernel
theorem dX5_set_26 : decode cX5_set 26 = .ok (.iconst 3, 1) := by decide +kernel
theorem dX5_set_27 : decode cX5_set 27 = .ok (.if_icmp .ne 17, 3) := by decide +kernel
theorem dX5_set_30 : decode cX5_set 30 = .ok (.iload_n 3, 1) := by decide +kernel
theorem dX5_set_31 : decode cX5_set 31 = .ok (.i2l, 1) := by decide +kernel
theorem dX5_set_32 : decode cX5_set 32 = .ok (.lconst 0, 1) := by decide +kernel
theorem dX5_set_33 : decode cX5_set 33 = .ok (.lconst 1, 1) := by decide +kernel
theorem dX5_set_34 : decode cX5_set 34 = .ok (.invokestatic 44, 3) := by decide +kernel
theorem dX5_set_37 : decode cX5_set 37 = .ok (.ifCond .eq 7, 3) := by decide +kernel
theorem dX5_set_40 : decode cX5_set 40 = .ok (.iconst 1, 1) := by decide +kernel
theorem dX5_set_41 : decode cX5_set 41 = .ok (.goto 4, 3) := by decide +kernel
theorem dX5_set_44 : decode cX5_set 44 = .ok (.iconst 0, 1) := by decide +kernel
theorem dX5_set_45 : decode cX5_set 45 = .ok (.istore 4, 2) := by decide +kernel
theorem dX5_set_47 : decode cX5_set 47 = .ok (.aload_n 0, 1) := by decide +kernel
theorem dX5_set_48 : decode cX5_set 48 = .ok (.iload_n 1, 1) := by decide +kernel
theorem dX5_set_49 : decode cX5_set 49 = .ok (.invokevirtual 54, 3) := by decide +kernel
theorem dX5_set_52 : decode cX5_set 52 = .ok (.ifCond .eq 21, 3) := by decide +kernel
theorem dX5_set_55 : decode cX5_set 55 = .ok (.iload 4, 2) := by decide +kernel
theorem dX5_set_57 : decode cX5_set 57 = .ok (.ifCond .eq 16, 3) := by decide +kernel
theorem dX5_set_60 : decode cX5_set 60 = .ok (.aload_n 0, 1) := by decide +kernel
theorem dX5_set_61 : decode cX5_set 61 = .ok (.iload_n 1, 1) := by decide +kernel
theorem dX5_set_62 : decode cX5_set 62 = .ok (.iload_n 2, 1) := by decide +kernel
theorem dX5_set_63 : decode cX5_set 63 = .ok (.invokestatic 58, 3) := by decide +kernel
theorem dX5_set_66 : decode cX5_set 66 = .ok (.iload_n 3, 1) := by decide +kernel
theorem dX5_set_67 : decode cX5_set 67 = .ok (.invokevirtual 78, 3) := by decide +kernel
theorem dX5_set_70 : decode cX5_set 70 = .ok (.goto 9, 3) := by decide +kernel
theorem dX5_set_73 : decode cX5_set 73 = .ok (.aload_n 0, 1) := by decide +kernel
theorem dX5_set_74 : decode cX5_set 74 = .ok (.ldc 41, 2) := by decide +kernel
theorem dX5_set_76 : decode cX5_set 76 = .ok (.invokevirtual 65, 3) := by decide +kernel
theorem dX5_set_79 : decode cX5_set 79 = .ok (.ireturn, 1) := by decide +kernel
theorem dX5_turn_0 : decode cX5_turn 0 = .ok (.aload_n 0, 1) := by decide +kernel
theorem dX5_turn_1 : decode cX5_turn 1 = .ok (.iload_n 1, 1) := by decide +kernel
theorem dX5_turn_2 : decode cX5_turn 2 = .ok (.invokevirtual 54, 3) := by decide +kernel
theorem dX5_turn_5 : decode cX5_turn 5 = .ok (.ifCond .eq 23, 3) := by decide +kernel
theorem dX5_turn_8 : decode cX5_turn 8 = .ok (.iload_n 2, 1) := by decide +kernel
theorem dX5_turn_9 : decode cX5_turn 9 = .ok (.invokestatic 107, 3) := by decide +kernel
theorem dX5_turn_12 : decode cX5_turn 12 = .ok (.ifCond .eq 16, 3) := by decide +kernel
theorem dX5_turn_15 : decode cX5_turn 15 = .ok (.aload_n 0, 1) := by decide +kernel
theorem dX5_turn_16 : decode cX5_turn 16 = .ok (.iload_n 1, 1) := by decide +kernel
theorem dX5_turn_17 : decode cX5_turn 17 = .ok (.iconst 0, 1) := by decide +kernel
theorem dX5_turn_18 : decode cX5_turn 18 = .ok (.invokestatic 58, 3) := by decide +kernel
theorem dX5_turn_21 : decode cX5_turn 21 = .ok (.iload_n 2, 1) := by decide +kernel
theorem dX5_turn_22 : decode cX5_turn 22 = .ok (.invokevirtual 78, 3) := by decide +kernel
theorem dX5_turn_25 : decode cX5_turn 25 = .ok (.goto 9, 3) := by decide +kernel
theorem dX5_turn_28 : decode cX5_turn 28 = .ok (.aload_n 0, 1) := by decide +kernel
