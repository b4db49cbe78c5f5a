theorem dX5_turn_29 : decode cX5_turn 29 = .ok (.ldc 41, 2) := by decide +kernel
theorem dX5_turn_31 : decode cX5_turn 31 = .ok (.invokevirtual 65, 3) := by decide +kernel
theorem dX5_turn_34 : decode cX5_turn 34 = .ok (.ireturn, 1) := by decide +kernel
theorem dX5_above_0 : decode cX5_above 0 = .ok (.iload_n 0, 1) := by decide +kernel
theorem dX5_above_1 : decode cX5_above 1 = .ok (.iconst 4, 1) := by decide +kernel
theorem dX5_above_2 : decode cX5_above 2 = .ok (.if_icmp .ne 7, 3) := by decide +kernel
theorem dX5_above_5 : decode cX5_above 5 = .ok (.iconst 1, 1) := by decide +kernel
theorem dX5_above_6 : decode cX5_above 6 = .ok (.goto 13, 3) := by decide +kernel
theorem dX5_above_9 : decode cX5_above 9 = .ok (.iload_n 0, 1) := by decide +kernel
theorem dX5_above_10 : decode cX5_above 10 = .ok (.iconst 5, 1) := by decide +kernel
theorem dX5_above_11 : decode cX5_above 11 = .ok (.if_icmp .ne 7, 3) := by decide +kernel
theorem dX5_above_14 : decode cX5_above 14 = .ok (.iconst 2, 1) := by decide +kernel
theorem dX5_above_15 : decode cX5_above 15 = .ok (.goto 4, 3) := by decide +kernel
theorem dX5_above_18 : decode cX5_above 18 = .ok (.iconst 0, 1) := by decide +kernel
theorem dX5_above_19 : decode cX5_above 19 = .ok (.ireturn, 1) := by decide +kernel
theorem dX5_as_0 : decode cX5_as 0 = .ok (.aload_n 0, 1) := by decide +kernel
theorem dX5_as_1 : decode cX5_as 1 = .ok (.iload_n 1, 1) := by decide +kernel
theorem dX5_as_2 : decode cX5_as 2 = .ok (.invokevirtual 54, 3) := by decide +kernel
theorem dX5_as_5 : decode cX5_as 5 = .ok (.ifCond .eq 10, 3) := by decide +kernel
theorem dX5_as_8 : decode cX5_as 8 = .ok (.iload_n 2, 1) := by decide +kernel
theorem dX5_as_9 : decode cX5_as 9 = .ok (.invokestatic 107, 3) := by decide +kernel
theorem dX5_as_12 : decode cX5_as 12 = .ok (.ifCond .ne 10, 3) := by decide +kernel
theorem dX5_as_15 : decode cX5_as 15 = .ok (.aload_n 0, 1) := by decide +kernel
theorem dX5_as_16 : decode cX5_as 16 = .ok (.ldc 41, 2) := by decide +kernel
theorem dX5_as_18 : decode cX5_as 18 = .ok (.invokevirtual 65, 3) := by decide +kernel
theorem dX5_as_21 : decode cX5_as 21 = .ok (.ireturn, 1) := by decide +kernel
theorem dX5_as_22 : decode cX5_as 22 = .ok (.aload_n 0, 1) := by decide +kernel
theorem dX5_as_23 : decode cX5_as 23 = .ok (.iload_n 1, 1) := by decide +kernel
theorem dX5_as_24 : decode cX5_as 24 = .ok (.iconst 0, 1) := by decide +kernel
theorem dX5_as_25 : decode cX5_as 25 = .ok (.invokevirtual 83, 3) := by decide +kernel
theorem dX5_as_28 : decode cX5_as 28 = .ok (.istore_n 3, 1) := by decide +kernel
theorem dX5_as_29 : decode cX5_as 29 = .ok (.iload_n 3, 1) := by decide +kernel
theorem dX5_as_30 : decode cX5_as 30 = .ok (.iload_n 2, 1) := by decide +kernel
theorem dX5_as_31 : decode cX5_as 31 = .ok (.if_icmp .eq 15, 3) := by decide +kernel
theorem dX5_as_34 : decode cX5_as 34 = .ok (.iload_n 3, 1) := by decide +kernel
theorem dX5_as_35 : decode cX5_as 35 = .ok (.ifCond .eq 11, 3) := by decide +kernel
theorem dX5_as_38 : decode cX5_as 38 = .ok (.iload_n 3, 1) := by decide +kernel
theorem dX5_as_39 : decode cX5_as 39 = .ok (.invokestatic 125, 3) := by decide +kernel
theorem dX5_as_42 : decode cX5_as 42 = .ok (.istore_n 3, 1) := by decide +kernel
theorem dX5_as_43 : decode cX5_as 43 = .ok (.goto (-14), 3) := by decide +kernel
theorem dX5_as_46 : decode cX5_as 46 = .ok (.iload_n 3, 1) := by decide +kernel
theorem dX5_as_47 : decode cX5_as 47 = .ok (.iload_n 2, 1) := by decide +kernel
theorem dX5_as_48 : decode cX5_as 48 = .ok (.if_icmp .ne 12, 3) := by decide +kernel
theorem dX5_as_51 : decode cX5_as 51 = .ok (.aload_n 0, 1) := by decide +kernel
theorem dX5_as_52 : decode cX5_as 52 = .ok (.iload_n 1, 1) := by decide +kernel
theorem dX5_as_53 : decode cX5_as 53 = .ok (.iconst 2, 1) := by decide +kernel
theorem dX5_as_54 : decode cX5_as 54 = .ok (.invokevirtual 83, 3) := by decide +kernel
theorem dX5_as_57 : decode cX5_as 57 = .ok (.goto 9, 3) := by decide +kernel
theorem dX5_as_60 : decode cX5_as 60 = .ok (.aload_n 0, 1) := by decide +kernel
theorem dX5_as_61 : decode cX5_as 61 = .ok (.ldc 128, 2) := by decide +kernel
theorem dX5_as_63 : decode cX5_as 63 = .ok (.invokevirtual 65, 3) := by decide +kernel
theorem dX5_as_66 : decode cX5_as 66 = .ok (.ireturn, 1) := by decide +kernel
theorem dX5_lends_0 : decode cX5_lends 0 = .ok (.aload_n 0, 1) := by decide +kernel
theorem dX5_lends_1 : decode cX5_lends 1 = .ok (.getfield 7, 3) := by decide +kernel
theorem dX5_lends_4 : decode cX5_lends 4 = .ok (.iload_n 1, 1) := by decide +kernel
theorem dX5_lends_5 : decode cX5_lends 5 = .ok (.iconst 2, 1) := by decide +kernel
theorem dX5_lends_6 : decode cX5_lends 6 = .ok (.invokestatic 58, 3) := by decide +kernel
theorem dX5_lends_9 : decode cX5_lends 9 = .ok (.dup2, 1) := by decide +kernel
theorem dX5_lends_10 : decode cX5_lends 10 = .ok (.iaload, 1) := by decide +kernel
theorem dX5_lends_11 : decode cX5_lends 11 = .ok (.iconst 1, 1) := by decide +kernel
theorem dX5_lends_12 : decode cX5_lends 12 = .ok (.iload_n 3, 1) := by decide +kernel
theorem dX5_lends_13 : decode cX5_lends 13 = .ok (.ishl, 1) := by decide +kernel
theorem dX5_lends_14 : decode cX5_lends 14 = .ok (.iconst (-1), 1) := by decide +kernel
theorem dX5_lends_15 : decode cX5_lends 15 = .ok (.ixor, 1) := by decide +kernel
theorem dX5_lends_16 : decode cX5_lends 16 = .ok (.iand, 1) := by decide +kernel
theorem dX5_lends_17 : decode cX5_lends 17 = .ok (.iastore, 1) := by decide +kernel
theorem dX5_lends_18 : decode cX5_lends 18 = .ok (.aload_n 0, 1) := by decide +kernel
theorem dX5_lends_19 : decode cX5_lends 19 = .ok (.getfield 7, 3) := by decide +kernel
theorem dX5_lends_22 : decode cX5_lends 22 = .ok (.iload_n 2, 1) := by decide +kernel
theorem dX5_lends_23 : decode cX5_lends 23 = .ok (.iconst 2, 1) := by decide +kernel
theorem dX5_lends_24 : decode cX5_lends 24 = .ok (.invokestatic 58, 3) := by decide +kernel
theorem dX5_lends_27 : decode cX5_lends 27 = .ok (.dup2, 1) := by decide +kernel
theorem dX5_lends_28 : decode cX5_lends 28 = .ok (.iaload, 1) := by decide +kernel
theorem dX5_lends_29 : decode cX5_lends 29 = .ok (.iconst 1, 1) := by decide +kernel
theorem dX5_lends_30 : decode cX5_lends 30 = .ok (.iload_n 3, 1) := by decide +kernel
theorem dX5_lends_31 : decode cX5_lends 31 = .ok (.ishl, 1) := by decide +kernel
theorem dX5_lends_32 : decode cX5_lends 32 = .ok (.ior, 1) := by decide +kernel
theorem dX5_lends_33 : decode cX5_lends 33 = .ok (.iastore, 1) := by decide +kernel
theorem dX5_lends_34 : decode cX5_lends 34 = .ok (.return_, 1) := by decide +kernel
theorem dX5_lend_0 : decode cX5_lend 0 = .ok (.aload_n 0, 1) := by decide +kernel
theorem dX5_lend_1 : decode cX5_lend 1 = .ok (.iload_n 1, 1) := by decide +kernel
theorem dX5_lend_2 : decode cX5_lend 2 = .ok (.iload_n 2, 1) := by decide +kernel
theorem dX5_lend_3 : decode cX5_lend 3 = .ok (.invokevirtual 129, 3) := by decide +kernel
theorem dX5_lend_6 : decode cX5_lend 6 = .ok (.ifCond .eq 10, 3) := by decide +kernel
theorem dX5_lend_9 : decode cX5_lend 9 = .ok (.iload_n 3, 1) := by decide +kernel
theorem dX5_lend_10 : decode cX5_lend 10 = .ok (.invokestatic 133, 3) := by decide +kernel
theorem dX5_lend_13 : decode cX5_lend 13 = .ok (.ifCond .ne 10, 3) := by decide +kernel
theorem dX5_lend_16 : decode cX5_lend 16 = .ok (.aload_n 0, 1) := by decide +kernel
theorem dX5_lend_17 : decode cX5_lend 17 = .ok (.ldc 41, 2) := by decide +kernel
theorem dX5_lend_19 : decode cX5_lend 19 = .ok (.invokevirtual 65, 3) := by decide +kernel
theorem dX5_lend_22 : decode cX5_lend 22 = .ok (.ireturn, 1) := by decide +kernel
theorem dX5_lend_23 : decode cX5_lend 23 = .ok (.aload_n 0, 1) := by decide +kernel
theorem dX5_lend_24 : decode cX5_lend 24 = .ok (.iload_n 1, 1) := by decide +kernel
theorem dX5_lend_25 : decode cX5_lend 25 = .ok (.iconst 1, 1) := by decide +kernel
theorem dX5_lend_26 : decode cX5_lend 26 = .ok (.invokevirtual 83, 3) := by decide +kernel
theorem dX5_lend_29 : decode cX5_lend 29 = .ok (.aload_n 0, 1) := by decide +kernel
theorem dX5_lend_30 : decode cX5_lend 30 = .ok (.iload_n 2, 1) := by decide +kernel
theorem dX5_lend_31 : decode cX5_lend 31 = .ok (.iconst 1, 1) := by decide +kernel
theorem dX5_lend_32 : decode cX5_lend 32 = .ok (.invokevirtual 83, 3) := by decide +kernel
theorem dX5_lend_35 : decode cX5_lend 35 = .ok (.if_icmp .eq 10, 3) := by decide +kernel
theorem dX5_lend_38 : decode cX5_lend 38 = .ok (.aload_n 0, 1) := by decide +kernel
theorem dX5_lend_39 : decode cX5_lend 39 = .ok (.ldc 136, 2) := by decide +kernel
theorem dX5_lend_41 : decode cX5_lend 41 = .ok (.invokevirtual 65, 3) := by decide +kernel
theorem dX5_lend_44 : decode cX5_lend 44 = .ok (.ireturn, 1) := by decide +kernel
theorem dX5_lend_45 : decode cX5_lend 45 = .ok (.aload_n 0, 1) := by decide +kernel
theorem dX5_lend_46 : decode cX5_lend 46 = .ok (.iload_n 1, 1) := by decide +kernel
theorem dX5_lend_47 : decode cX5_lend 47 = .ok (.iconst 2, 1) := by decide +kernel
theorem dX5_lend_48 : decode cX5_lend 48 = .ok (.invokevirtual 83, 3) := by decide +kernel
theorem dX5_lend_51 : decode cX5_lend 51 = .ok (.iload_n 3, 1) := by decide +kernel
theorem dX5_lend_52 : decode cX5_lend 52 = .ok (.ishr, 1) := by decide +kernel
theorem dX5_lend_53 : decode cX5_lend 53 = .ok (.iconst 1, 1) := by decide +kernel
theorem dX5_lend_54 : decode cX5_lend 54 = .ok (.iand, 1) := by decide +kernel
theorem dX5_lend_55 : decode cX5_lend 55 = .ok (.ifCond .eq 17, 3) := by decide +kernel
theorem dX5_lend_58 : decode cX5_lend 58 = .ok (.aload_n 0, 1) := by decide +kernel
theorem dX5_lend_59 : decode cX5_lend 59 = .ok (.iload_n 2, 1) := by decide +kernel
theorem dX5_lend_60 : decode cX5_lend 60 = .ok (.iconst 2, 1) := by decide +kernel
theorem dX5_lend_61 : decode cX5_lend 61 = .ok (.invokevirtual 83, 3) := by decide +kernel
theorem dX5_lend_64 : decode cX5_lend 64 = .ok (.iload_n 3, 1) := by decide +kernel
theorem dX5_lend_65 : decode cX5_lend 65 = .ok (.ishr, 1) := by decide +kernel
theorem dX5_lend_66 : decode cX5_lend 66 = .ok (.iconst 1, 1) := by decide +kernel
theorem dX5_lend_67 : decode cX5_lend 67 = .ok (.iand, 1) := by decide +kernel
theorem dX5_lend_68 : decode cX5_lend 68 = .ok (.iconst 1, 1) := by decide +kernel
theorem dX5_lend_69 : decode cX5_lend 69 = .ok (.if_icmp .ne 10, 3) := by decide +kernel
theorem dX5_lend_72 : decode cX5_lend 72 = .ok (.aload_n 0, 1) := by decide +kernel
theorem dX5_lend_73 : decode cX5_lend 73 = .ok (.ldc 137, 2) := by decide +kernel
theorem dX5_lend_75 : decode cX5_lend 75 = .ok (.invokevirtual 65, 3) := by decide +kernel
theorem dX5_lend_78 : decode cX5_lend 78 = .ok (.ireturn, 1) := by decide +kernel
theorem dX5_lend_79 : decode cX5_lend 79 = .ok (.aload_n 0, 1) := by decide +kernel
theorem dX5_lend_80 : decode cX5_lend 80 = .ok (.iload_n 1, 1) := by decide +kernel
theorem dX5_lend_81 : decode cX5_lend 81 = .ok (.iload_n 2, 1) := by decide +kernel
theorem dX5_lend_82 : decode cX5_lend 82 = .ok (.iload_n 3, 1) := by decide +kernel
theorem dX5_lend_83 : decode cX5_lend 83 = .ok (.invokevirtual 138, 3) := by decide +kernel
theorem dX5_lend_86 : decode cX5_lend 86 = .ok (.iconst 1, 1) := by decide +kernel
theorem dX5_lend_87 : decode cX5_lend 87 = .ok (.ireturn, 1) := by decide +kernel
theorem dX5_nearer_0 : decode cX5_nearer 0 = .ok (.iload_n 1, 1) := by decide +kernel
theorem dX5_nearer_1 : decode cX5_nearer 1 = .ok (.bipush 6, 2) := by decide +kernel
theorem dX5_nearer_3 : decode cX5_nearer 3 = .ok (.idiv, 1) := by decide +kernel
theorem dX5_nearer_4 : decode cX5_nearer 4 = .ok (.iload_n 2, 1) := by decide +kernel
theorem dX5_nearer_5 : decode cX5_nearer 5 = .ok (.bipush 6, 2) := by decide +kernel
theorem dX5_nearer_7 : decode cX5_nearer 7 = .ok (.idiv, 1) := by decide +kernel
theorem dX5_nearer_8 : decode cX5_nearer 8 = .ok (.if_icmp .ge 10, 3) := by decide +kernel
theorem dX5_nearer_11 : decode cX5_nearer 11 = .ok (.iload_n 1, 1) := by decide +kernel
theorem dX5_nearer_12 : decode cX5_nearer 12 = .ok (.bipush 6, 2) := by decide +kernel
theorem dX5_nearer_14 : decode cX5_nearer 14 = .ok (.iadd, 1) := by decide +kernel
theorem dX5_nearer_15 : decode cX5_nearer 15 = .ok (.goto 7, 3) := by decide +kernel
theorem dX5_nearer_18 : decode cX5_nearer 18 = .ok (.iload_n 1, 1) := by decide +kernel
theorem dX5_nearer_19 : decode cX5_nearer 19 = .ok (.bipush 6, 2) := by decide +kernel
theorem dX5_nearer_21 : decode cX5_nearer 21 = .ok (.isub, 1) := by decide +kernel
theorem dX5_nearer_22 : decode cX5_nearer 22 = .ok (.istore_n 3, 1) := by decide +kernel
theorem dX5_nearer_23 : decode cX5_nearer 23 = .ok (.iload_n 1, 1) := by decide +kernel
theorem dX5_nearer_24 : decode cX5_nearer 24 = .ok (.bipush 6, 2) := by decide +kernel
theorem dX5_nearer_26 : decode cX5_nearer 26 = .ok (.idiv, 1) := by decide +kernel
theorem dX5_nearer_27 : decode cX5_nearer 27 = .ok (.iload_n 2, 1) := by decide +kernel
theorem dX5_nearer_28 : decode cX5_nearer 28 = .ok (.bipush 6, 2) := by decide +kernel
theorem dX5_nearer_30 : decode cX5_nearer 30 = .ok (.idiv, 1) := by decide +kernel
theorem dX5_nearer_31 : decode cX5_nearer 31 = .ok (.if_icmp .eq 13, 3) := by decide +kernel
theorem dX5_nearer_34 : decode cX5_nearer 34 = .ok (.aload_n 0, 1) := by decide +kernel
theorem dX5_nearer_35 : decode cX5_nearer 35 = .ok (.iload_n 3, 1) := by decide +kernel
theorem dX5_nearer_36 : decode cX5_nearer 36 = .ok (.invokevirtual 69, 3) := by decide +kernel
theorem dX5_nearer_39 : decode cX5_nearer 39 = .ok (.ifCond .ne 5, 3) := by decide +kernel
theorem dX5_nearer_42 : decode cX5_nearer 42 = .ok (.iload_n 3, 1) := by decide +kernel
theorem dX5_nearer_43 : decode cX5_nearer 43 = .ok (.ireturn, 1) := by decide +kernel
theorem dX5_nearer_44 : decode cX5_nearer 44 = .ok (.iload_n 1, 1) := by decide +kernel
theorem dX5_nearer_45 : decode cX5_nearer 45 = .ok (.bipush 6, 2) := by decide +kernel
theorem dX5_nearer_47 : decode cX5_nearer 47 = .ok (.irem, 1) := by decide +kernel
theorem dX5_nearer_48 : decode cX5_nearer 48 = .ok (.iload_n 2, 1) := by decide +kernel
theorem dX5_nearer_49 : decode cX5_nearer 49 = .ok (.bipush 6, 2) := by decide +kernel
theorem dX5_nearer_51 : decode cX5_nearer 51 = .ok (.irem, 1) := by decide +kernel
theorem dX5_nearer_52 : decode cX5_nearer 52 = .ok (.if_icmp .ge 9, 3) := by decide +kernel
theorem dX5_nearer_55 : decode cX5_nearer 55 = .ok (.iload_n 1, 1) := by decide +kernel
theorem dX5_nearer_56 : decode cX5_nearer 56 = .ok (.iconst 1, 1) := by decide +kernel
theorem dX5_nearer_57 : decode cX5_nearer 57 = .ok (.iadd, 1) := by decide +kernel
theorem dX5_nearer_58 : decode cX5_nearer 58 = .ok (.goto 6, 3) := by decide +kernel
theorem dX5_nearer_61 : decode cX5_nearer 61 = .ok (.iload_n 1, 1) := by decide +kernel
theorem dX5_nearer_62 : decode cX5_nearer 62 = .ok (.iconst 1, 1) := by decide +kernel
theorem dX5_nearer_63 : decode cX5_nearer 63 = .ok (.isub, 1) := by decide +kernel
theorem dX5_nearer_64 : decode cX5_nearer 64 = .ok (.istore 4, 2) := by decide +kernel
theorem dX5_nearer_66 : decode cX5_nearer 66 = .ok (.iload_n 1, 1) := by decide +kernel
theorem dX5_nearer_67 : decode cX5_nearer 67 = .ok (.bipush 6, 2) := by decide +kernel
theorem dX5_nearer_69 : decode cX5_nearer 69 = .ok (.irem, 1) := by decide +kernel
theorem dX5_nearer_70 : decode cX5_nearer 70 = .ok (.iload_n 2, 1) := by decide +kernel
theorem dX5_nearer_71 : decode cX5_nearer 71 = .ok (.bipush 6, 2) := by decide +kernel
theorem dX5_nearer_73 : decode cX5_nearer 73 = .ok (.irem, 1) := by decide +kernel
theorem dX5_nearer_74 : decode cX5_nearer 74 = .ok (.if_icmp .eq 17, 3) := by decide +kernel
theorem dX5_nearer_77 : decode cX5_nearer 77 = .ok (.aload_n 0, 1) := by decide +kernel
theorem dX5_nearer_78 : decode cX5_nearer 78 = .ok (.iload 4, 2) := by decide +kernel
theorem dX5_nearer_80 : decode cX5_nearer 80 = .ok (.invokevirtual 69, 3) := by decide +kernel
theorem dX5_nearer_83 : decode cX5_nearer 83 = .ok (.ifCond .ne 8, 3) := by decide +kernel
theorem dX5_nearer_86 : decode cX5_nearer 86 = .ok (.iload 4, 2) := by decide +kernel
theorem dX5_nearer_88 : decode cX5_nearer 88 = .ok (.goto 4, 3) := by decide +kernel
theorem dX5_nearer_91 : decode cX5_nearer 91 = .ok (.iload_n 1, 1) := by decide +kernel
theorem dX5_nearer_92 : decode cX5_nearer 92 = .ok (.ireturn, 1) := by decide +kernel
theorem dX5_goes_0 : decode cX5_goes 0 = .ok (.aload_n 0, 1) := by decide +kernel
theorem dX5_goes_1 : decode cX5_goes 1 = .ok (.iload_n 1, 1) := by decide +kernel
theorem dX5_goes_2 : decode cX5_goes 2 = .ok (.invokevirtual 119, 3) := by decide +kernel
theorem dX5_goes_5 : decode cX5_goes 5 = .ok (.istore_n 2, 1) := by decide +kernel
theorem dX5_goes_6 : decode cX5_goes 6 = .ok (.aload_n 0, 1) := by decide +kernel
theorem dX5_goes_7 : decode cX5_goes 7 = .ok (.iload_n 1, 1) := by decide +kernel
theorem dX5_goes_8 : decode cX5_goes 8 = .ok (.invokevirtual 122, 3) := by decide +kernel
theorem dX5_goes_11 : decode cX5_goes 11 = .ok (.istore_n 3, 1) := by decide +kernel
theorem dX5_goes_12 : decode cX5_goes 12 = .ok (.iload_n 3, 1) := by decide +kernel
theorem dX5_goes_13 : decode cX5_goes 13 = .ok (.ifCond .le 30, 3) := by decide +kernel
theorem dX5_goes_16 : decode cX5_goes 16 = .ok (.aload_n 0, 1) := by decide +kernel
theorem dX5_goes_17 : decode cX5_goes 17 = .ok (.getfield 7, 3) := by decide +kernel
theorem dX5_goes_20 : decode cX5_goes 20 = .ok (.iload_n 1, 1) := by decide +kernel
theorem dX5_goes_21 : decode cX5_goes 21 = .ok (.iconst 1, 1) := by decide +kernel
theorem dX5_goes_22 : decode cX5_goes 22 = .ok (.invokestatic 58, 3) := by decide +kernel
theorem dX5_goes_25 : decode cX5_goes 25 = .ok (.aload_n 0, 1) := by decide +kernel
theorem dX5_goes_26 : decode cX5_goes 26 = .ok (.aload_n 0, 1) := by decide +kernel
theorem dX5_goes_27 : decode cX5_goes 27 = .ok (.iload_n 1, 1) := by decide +kernel
theorem dX5_goes_28 : decode cX5_goes 28 = .ok (.iconst 1, 1) := by decide +kernel
theorem dX5_goes_29 : decode cX5_goes 29 = .ok (.invokevirtual 83, 3) := by decide +kernel
theorem dX5_goes_32 : decode cX5_goes 32 = .ok (.iload_n 2, 1) := by decide +kernel
theorem dX5_goes_33 : decode cX5_goes 33 = .ok (.invokevirtual 142, 3) := by decide +kernel
theorem dX5_goes_36 : decode cX5_goes 36 = .ok (.iastore, 1) := by decide +kernel
theorem dX5_goes_37 : decode cX5_goes 37 = .ok (.iinc 3 (-1), 3) := by decide +kernel
theorem dX5_goes_40 : decode cX5_goes 40 = .ok (.goto (-28), 3) := by decide +kernel
theorem dX5_goes_43 : decode cX5_goes 43 = .ok (.return_, 1) := by decide +kernel
theorem dX5_meets_0 : decode cX5_meets 0 = .ok (.aload_n 0, 1) := by decide +kernel
theorem dX5_meets_1 : decode cX5_meets 1 = .ok (.iload_n 2, 1) := by decide +kernel
theorem dX5_meets_2 : decode cX5_meets 2 = .ok (.iconst 2, 1) := by decide +kernel
theorem dX5_meets_3 : decode cX5_meets 3 = .ok (.invokevirtual 83, 3) := by decide +kernel
theorem dX5_meets_6 : decode cX5_meets 6 = .ok (.aload_n 0, 1) := by decide +kernel
theorem dX5_meets_7 : decode cX5_meets 7 = .ok (.iload_n 1, 1) := by decide +kernel
theorem dX5_meets_8 : decode cX5_meets 8 = .ok (.iconst 2, 1) := by decide +kernel
theorem dX5_meets_9 : decode cX5_meets 9 = .ok (.invokevirtual 83, 3) := by decide +kernel
theorem dX5_meets_12 : decode cX5_meets 12 = .ok (.iconst (-1), 1) := by decide +kernel
theorem dX5_meets_13 : decode cX5_meets 13 = .ok (.ixor, 1) := by decide +kernel
theorem dX5_meets_14 : decode cX5_meets 14 = .ok (.iand, 1) := by decide +kernel
theorem dX5_meets_15 : decode cX5_meets 15 = .ok (.istore_n 3, 1) := by decide +kernel
theorem dX5_meets_16 : decode cX5_meets 16 = .ok (.aload_n 0, 1) := by decide +kernel
theorem dX5_meets_17 : decode cX5_meets 17 = .ok (.iload_n 1, 1) := by decide +kernel
theorem dX5_meets_18 : decode cX5_meets 18 = .ok (.iconst 1, 1) := by decide +kernel
theorem dX5_meets_19 : decode cX5_meets 19 = .ok (.invokevirtual 83, 3) := by decide +kernel
theorem dX5_meets_22 : decode cX5_meets 22 = .ok (.aload_n 0, 1) := by decide +kernel
theorem dX5_meets_23 : decode cX5_meets 23 = .ok (.iload_n 2, 1) := by decide +kernel
theorem dX5_meets_24 : decode cX5_meets 24 = .ok (.iconst 1, 1) := by decide +kernel
theorem dX5_meets_25 : decode cX5_meets 25 = .ok (.invokevirtual 83, 3) := by decide +kernel
theorem dX5_meets_28 : decode cX5_meets 28 = .ok (.if_icmp .ne 50, 3) := by decide +kernel
theorem dX5_meets_31 : decode cX5_meets 31 = .ok (.aload_n 0, 1) := by decide +kernel
theorem dX5_meets_32 : decode cX5_meets 32 = .ok (.iload_n 2, 1) := by decide +kernel
theorem dX5_meets_33 : decode cX5_meets 33 = .ok (.iconst 2, 1) := by decide +kernel
theorem dX5_meets_34 : decode cX5_meets 34 = .ok (.invokevirtual 83, 3) := by decide +kernel
theorem dX5_meets_37 : decode cX5_meets 37 = .ok (.invokestatic 145, 3) := by decide +kernel
theorem dX5_meets_40 : decode cX5_meets 40 = .ok (.aload_n 0, 1) := by decide +kernel
theorem dX5_meets_41 : decode cX5_meets 41 = .ok (.iload_n 1, 1) := by decide +kernel
theorem dX5_meets_42 : decode cX5_meets 42 = .ok (.iconst 2, 1) := by decide +kernel
theorem dX5_meets_43 : decode cX5_meets 43 = .ok (.invokevirtual 83, 3) := by decide +kernel
theorem dX5_meets_46 : decode cX5_meets 46 = .ok (.invokestatic 145, 3) := by decide +kernel
theorem dX5_meets_49 : decode cX5_meets 49 = .ok (.if_icmp .le 29, 3) := by decide +kernel
theorem dX5_meets_52 : decode cX5_meets 52 = .ok (.iconst 0, 1) := by decide +kernel
theorem dX5_meets_53 : decode cX5_meets 53 = .ok (.istore 4, 2) := by decide +kernel
theorem dX5_meets_55 : decode cX5_meets 55 = .ok (.iload_n 3, 1) := by decide +kernel
theorem dX5_meets_56 : decode cX5_meets 56 = .ok (.iload 4, 2) := by decide +kernel
theorem dX5_meets_58 : decode cX5_meets 58 = .ok (.ishr, 1) := by decide +kernel
theorem dX5_meets_59 : decode cX5_meets 59 = .ok (.iconst 1, 1) := by decide +kernel
theorem dX5_meets_60 : decode cX5_meets 60 = .ok (.iand, 1) := by decide +kernel
theorem dX5_meets_61 : decode cX5_meets 61 = .ok (.ifCond .ne 9, 3) := by decide +kernel
theorem dX5_meets_64 : decode cX5_meets 64 = .ok (.iinc 4 1, 3) := by decide +kernel
theorem dX5_meets_67 : decode cX5_meets 67 = .ok (.goto (-12), 3) := by decide +kernel
theorem dX5_meets_70 : decode cX5_meets 70 = .ok (.aload_n 0, 1) := by decide +kernel
theorem dX5_meets_71 : decode cX5_meets 71 = .ok (.iload_n 2, 1) := by decide +kernel
theorem dX5_meets_72 : decode cX5_meets 72 = .ok (.iload_n 1, 1) := by decide +kernel
theorem dX5_meets_73 : decode cX5_meets 73 = .ok (.iload 4, 2) := by decide +kernel
theorem dX5_meets_75 : decode cX5_meets 75 = .ok (.invokevirtual 138, 3) := by decide +kernel
theorem dX5_meets_78 : decode cX5_meets 78 = .ok (.return_, 1) := by decide +kernel
theorem dX5_hour_0 : decode cX5_hour 0 = .ok (.iconst 0, 1) := by decide +kernel
theorem dX5_hour_1 : decode cX5_hour 1 = .ok (.istore_n 1, 1) := by decide +kernel
theorem dX5_hour_2 : decode cX5_hour 2 = .ok (.iload_n 1, 1) := by decide +kernel
theorem dX5_hour_3 : decode cX5_hour 3 = .ok (.aload_n 0, 1) := by decide +kernel
theorem dX5_hour_4 : decode cX5_hour 4 = .ok (.getfield 7, 3) := by decide +kernel
theorem dX5_hour_7 : decode cX5_hour 7 = .ok (.iconst 1, 1) := by decide +kernel
theorem dX5_hour_8 : decode cX5_hour 8 = .ok (.iaload, 1) := by decide +kernel
theorem dX5_hour_9 : decode cX5_hour 9 = .ok (.if_icmp .ge 23, 3) := by decide +kernel
theorem dX5_hour_12 : decode cX5_hour 12 = .ok (.aload_n 0, 1) := by decide +kernel
theorem dX5_hour_13 : decode cX5_hour 13 = .ok (.iload_n 1, 1) := by decide +kernel
theorem dX5_hour_14 : decode cX5_hour 14 = .ok (.iconst 3, 1) := by decide +kernel
theorem dX5_hour_15 : decode cX5_hour 15 = .ok (.invokevirtual 83, 3) := by decide +kernel
theorem dX5_hour_18 : decode cX5_hour 18 = .ok (.ifCond .ne 8, 3) := by decide +kernel
theorem dX5_hour_21 : decode cX5_hour 21 = .ok (.aload_n 0, 1) := by decide +kernel
theorem dX5_hour_22 : decode cX5_hour 22 = .ok (.iload_n 1, 1) := by decide +kernel
theorem dX5_hour_23 : decode cX5_hour 23 = .ok (.invokevirtual 148, 3) := by decide +kernel
theorem dX5_hour_26 : decode cX5_hour 26 = .ok (.iinc 1 1, 3) := by decide +kernel
theorem dX5_hour_29 : decode cX5_hour 29 = .ok (.goto (-27), 3) := by decide +kernel
theorem dX5_hour_32 : decode cX5_hour 32 = .ok (.iconst 0, 1) := by decide +kernel
theorem dX5_hour_33 : decode cX5_hour 33 = .ok (.istore_n 1, 1) := by decide +kernel
theorem dX5_hour_34 : decode cX5_hour 34 = .ok (.iload_n 1, 1) := by decide +kernel
theorem dX5_hour_35 : decode cX5_hour 35 = .ok (.aload_n 0, 1) := by decide +kernel
theorem dX5_hour_36 : decode cX5_hour 36 = .ok (.getfield 7, 3) := by decide +kernel
theorem dX5_hour_39 : decode cX5_hour 39 = .ok (.iconst 1, 1) := by decide +kernel
theorem dX5_hour_40 : decode cX5_hour 40 = .ok (.iaload, 1) := by decide +kernel
theorem dX5_hour_41 : decode cX5_hour 41 = .ok (.if_icmp .ge 35, 3) := by decide +kernel
theorem dX5_hour_44 : decode cX5_hour 44 = .ok (.iload_n 1, 1) := by decide +kernel
theorem dX5_hour_45 : decode cX5_hour 45 = .ok (.iconst 1, 1) := by decide +kernel
theorem dX5_hour_46 : decode cX5_hour 46 = .ok (.iadd, 1) := by decide +kernel
theorem dX5_hour_47 : decode cX5_hour 47 = .ok (.istore_n 2, 1) := by decide +kernel
theorem dX5_hour_48 : decode cX5_hour 48 = .ok (.iload_n 2, 1) := by decide +kernel
theorem dX5_hour_49 : decode cX5_hour 49 = .ok (.aload_n 0, 1) := by decide +kernel
theorem dX5_hour_50 : decode cX5_hour 50 = .ok (.getfield 7, 3) := by decide +kernel
theorem dX5_hour_53 : decode cX5_hour 53 = .ok (.iconst 1, 1) := by decide +kernel
theorem dX5_hour_54 : decode cX5_hour 54 = .ok (.iaload, 1) := by decide +kernel
theorem dX5_hour_55 : decode cX5_hour 55 = .ok (.if_icmp .ge 15, 3) := by decide +kernel
theorem dX5_hour_58 : decode cX5_hour 58 = .ok (.aload_n 0, 1) := by decide +kernel
theorem dX5_hour_59 : decode cX5_hour 59 = .ok (.iload_n 1, 1) := by decide +kernel
theorem dX5_hour_60 : decode cX5_hour 60 = .ok (.iload_n 2, 1) := by decide +kernel
theorem dX5_hour_61 : decode cX5_hour 61 = .ok (.invokevirtual 152, 3) := by decide +kernel
theorem dX5_hour_64 : decode cX5_hour 64 = .ok (.iinc 2 1, 3) := by decide +kernel
theorem dX5_hour_67 : decode cX5_hour 67 = .ok (.goto (-19), 3) := by decide +kernel
theorem dX5_hour_70 : decode cX5_hour 70 = .ok (.iinc 1 1, 3) := by decide +kernel
theorem dX5_hour_73 : decode cX5_hour 73 = .ok (.goto (-39), 3) := by decide +kernel
theorem dX5_hour_76 : decode cX5_hour 76 = .ok (.aload_n 0, 1) := by decide +kernel
theorem dX5_hour_77 : decode cX5_hour 77 = .ok (.getfield 7, 3) := by decide +kernel
theorem dX5_hour_80 : decode cX5_hour 80 = .ok (.iconst 0, 1) := by decide +kernel
theorem dX5_hour_81 : decode cX5_hour 81 = .ok (.dup2, 1) := by decide +kernel
theorem dX5_hour_82 : decode cX5_hour 82 = .ok (.iaload, 1) := by decide +kernel
theorem dX5_hour_83 : decode cX5_hour 83 = .ok (.iconst 1, 1) := by decide +kernel
theorem dX5_hour_84 : decode cX5_hour 84 = .ok (.iadd, 1) := by decide +kernel
theorem dX5_hour_85 : decode cX5_hour 85 = .ok (.iastore, 1) := by decide +kernel
theorem dX5_hour_86 : decode cX5_hour 86 = .ok (.return_, 1) := by decide +kernel
theorem dX5_go_0 : decode cX5_go 0 = .ok (.iconst 0, 1) := by decide +kernel
theorem dX5_go_1 : decode cX5_go 1 = .ok (.istore_n 2, 1) := by decide +kernel
theorem dX5_go_2 : decode cX5_go 2 = .ok (.iload_n 2, 1) := by decide +kernel
theorem dX5_go_3 : decode cX5_go 3 = .ok (.iload_n 1, 1) := by decide +kernel
theorem dX5_go_4 : decode cX5_go 4 = .ok (.if_icmp .ge 13, 3) := by decide +kernel
theorem dX5_go_7 : decode cX5_go 7 = .ok (.aload_n 0, 1) := by decide +kernel
theorem dX5_go_8 : decode cX5_go 8 = .ok (.invokevirtual 155, 3) := by decide +kernel
theorem dX5_go_11 : decode cX5_go 11 = .ok (.iinc 2 1, 3) := by decide +kernel
theorem dX5_go_14 : decode cX5_go 14 = .ok (.goto (-12), 3) := by decide +kernel
theorem dX5_go_17 : decode cX5_go 17 = .ok (.return_, 1) := by decide +kernel
theorem dX5_allBooks_0 : decode cX5_allBooks 0 = .ok (.iconst 0, 1) := by decide +kernel
theorem dX5_allBooks_1 : decode cX5_allBooks 1 = .ok (.istore_n 1, 1) := by decide +kernel
theorem dX5_allBooks_2 : decode cX5_allBooks 2 = .ok (.iconst 0, 1) := by decide +kernel
theorem dX5_allBooks_3 : decode cX5_allBooks 3 = .ok (.istore_n 2, 1) := by decide +kernel
theorem dX5_allBooks_4 : decode cX5_allBooks 4 = .ok (.iload_n 2, 1) := by decide +kernel
theorem dX5_allBooks_5 : decode cX5_allBooks 5 = .ok (.aload_n 0, 1) := by decide +kernel
theorem dX5_allBooks_6 : decode cX5_allBooks 6 = .ok (.getfield 7, 3) := by decide +kernel
theorem dX5_allBooks_9 : decode cX5_allBooks 9 = .ok (.iconst 1, 1) := by decide +kernel
theorem dX5_allBooks_10 : decode cX5_allBooks 10 = .ok (.iaload, 1) := by decide +kernel
theorem dX5_allBooks_11 : decode cX5_allBooks 11 = .ok (.if_icmp .ge 21, 3) := by decide +kernel
theorem dX5_allBooks_14 : decode cX5_allBooks 14 = .ok (.iload_n 1, 1) := by decide +kernel
theorem dX5_allBooks_15 : decode cX5_allBooks 15 = .ok (.aload_n 0, 1) := by decide +kernel
theorem dX5_allBooks_16 : decode cX5_allBooks 16 = .ok (.iload_n 2, 1) := by decide +kernel
theorem dX5_allBooks_17 : decode cX5_allBooks 17 = .ok (.iconst 2, 1) := by decide +kernel
theorem dX5_allBooks_18 : decode cX5_allBooks 18 = .ok (.invokevirtual 83, 3) := by decide +kernel
theorem dX5_allBooks_21 : decode cX5_allBooks 21 = .ok (.invokestatic 145, 3) := by decide +kernel
theorem dX5_allBooks_24 : decode cX5_allBooks 24 = .ok (.iadd, 1) := by decide +kernel
theorem dX5_allBooks_25 : decode cX5_allBooks 25 = .ok (.istore_n 1, 1) := by decide +kernel
theorem dX5_allBooks_26 : decode cX5_allBooks 26 = .ok (.iinc 2 1, 3) := by decide +kernel
theorem dX5_allBooks_29 : decode cX5_allBooks 29 = .ok (.goto (-25), 3) := by decide +kernel
theorem dX5_allBooks_32 : decode cX5_allBooks 32 = .ok (.iload_n 1, 1) := by decide +kernel
theorem dX5_allBooks_33 : decode cX5_allBooks 33 = .ok (.ireturn, 1) := by decide +kernel
theorem dX5_hours_0 : decode cX5_hours 0 = .ok (.iload_n 1, 1) := by decide +kernel
theorem dX5_hours_1 : decode cX5_hours 1 = .ok (.i2l, 1) := by decide +kernel
theorem dX5_hours_2 : decode cX5_hours 2 = .ok (.lconst 1, 1) := by decide +kernel
theorem dX5_hours_3 : decode cX5_hours 3 = .ok (.ldc2_w 158, 3) := by decide +kernel
theorem dX5_hours_6 : decode cX5_hours 6 = .ok (.invokestatic 44, 3) := by decide +kernel
theorem dX5_hours_9 : decode cX5_hours 9 = .ok (.ifCond .ne 10, 3) := by decide +kernel
theorem dX5_hours_12 : decode cX5_hours 12 = .ok (.aload_n 0, 1) := by decide +kernel
theorem dX5_hours_13 : decode cX5_hours 13 = .ok (.ldc 41, 2) := by decide +kernel
theorem dX5_hours_15 : decode cX5_hours 15 = .ok (.invokevirtual 65, 3) := by decide +kernel
theorem dX5_hours_18 : decode cX5_hours 18 = .ok (.ireturn, 1) := by decide +kernel
theorem dX5_hours_19 : decode cX5_hours 19 = .ok (.aload_n 0, 1) := by decide +kernel
theorem dX5_hours_20 : decode cX5_hours 20 = .ok (.getfield 7, 3) := by decide +kernel
theorem dX5_hours_23 : decode cX5_hours 23 = .ok (.iconst 0, 1) := by decide +kernel
theorem dX5_hours_24 : decode cX5_hours 24 = .ok (.iaload, 1) := by decide +kernel
theorem dX5_hours_25 : decode cX5_hours 25 = .ok (.iload_n 1, 1) := by decide +kernel
theorem dX5_hours_26 : decode cX5_hours 26 = .ok (.iadd, 1) := by decide +kernel
theorem dX5_hours_27 : decode cX5_hours 27 = .ok (.sipush 9999, 3) := by decide +kernel
theorem dX5_hours_30 : decode cX5_hours 30 = .ok (.if_icmp .le 10, 3) := by decide +kernel
theorem dX5_hours_33 : decode cX5_hours 33 = .ok (.aload_n 0, 1) := by decide +kernel
theorem dX5_hours_34 : decode cX5_hours 34 = .ok (.ldc 136, 2) := by decide +kernel
theorem dX5_hours_36 : decode cX5_hours 36 = .ok (.invokevirtual 65, 3) := by decide +kernel
theorem dX5_hours_39 : decode cX5_hours 39 = .ok (.ireturn, 1) := by decide +kernel
theorem dX5_hours_40 : decode cX5_hours 40 = .ok (.aload_n 0, 1) := by decide +kernel
theorem dX5_hours_41 : decode cX5_hours 41 = .ok (.iload_n 1, 1) := by decide +kernel
theorem dX5_hours_42 : decode cX5_hours 42 = .ok (.invokevirtual 160, 3) := by decide +kernel
theorem dX5_hours_45 : decode cX5_hours 45 = .ok (.aload_n 0, 1) := by decide +kernel
theorem dX5_hours_46 : decode cX5_hours 46 = .ok (.invokevirtual 163, 3) := by decide +kernel
theorem dX5_hours_49 : decode cX5_hours 49 = .ok (.ireturn, 1) := by decide +kernel
theorem dX5_allSubjects_0 : decode cX5_allSubjects 0 = .ok (.iconst 0, 1) := by decide +kernel
theorem dX5_allSubjects_1 : decode cX5_allSubjects 1 = .ok (.istore_n 1, 1) := by decide +kernel
theorem dX5_allSubjects_2 : decode cX5_allSubjects 2 = .ok (.iconst 0, 1) := by decide +kernel
theorem dX5_allSubjects_3 : decode cX5_allSubjects 3 = .ok (.istore_n 2, 1) := by decide +kernel
theorem dX5_allSubjects_4 : decode cX5_allSubjects 4 = .ok (.iload_n 2, 1) := by decide +kernel
theorem dX5_allSubjects_5 : decode cX5_allSubjects 5 = .ok (.aload_n 0, 1) := by decide +kernel
theorem dX5_allSubjects_6 : decode cX5_allSubjects 6 = .ok (.getfield 7, 3) := by decide +kernel
theorem dX5_allSubjects_9 : decode cX5_allSubjects 9 = .ok (.iconst 1, 1) := by decide +kernel
theorem dX5_allSubjects_10 : decode cX5_allSubjects 10 = .ok (.iaload, 1) := by decide +kernel
theorem dX5_allSubjects_11 : decode cX5_allSubjects 11 = .ok (.if_icmp .ge 18, 3) := by decide +kernel
theorem dX5_allSubjects_14 : decode cX5_allSubjects 14 = .ok (.iload_n 1, 1) := by decide +kernel
theorem dX5_allSubjects_15 : decode cX5_allSubjects 15 = .ok (.aload_n 0, 1) := by decide +kernel
theorem dX5_allSubjects_16 : decode cX5_allSubjects 16 = .ok (.iload_n 2, 1) := by decide +kernel
theorem dX5_allSubjects_17 : decode cX5_allSubjects 17 = .ok (.iconst 2, 1) := by decide +kernel
theorem dX5_allSubjects_18 : decode cX5_allSubjects 18 = .ok (.invokevirtual 83, 3) := by decide +kernel
theorem dX5_allSubjects_21 : decode cX5_allSubjects 21 = .ok (.ior, 1) := by decide +kernel
theorem dX5_allSubjects_22 : decode cX5_allSubjects 22 = .ok (.istore_n 1, 1) := by decide +kernel
theorem dX5_allSubjects_23 : decode cX5_allSubjects 23 = .ok (.iinc 2 1, 3) := by decide +kernel
theorem dX5_allSubjects_26 : decode cX5_allSubjects 26 = .ok (.goto (-22), 3) := by decide +kernel
theorem dX5_allSubjects_29 : decode cX5_allSubjects 29 = .ok (.iload_n 1, 1) := by decide +kernel
theorem dX5_allSubjects_30 : decode cX5_allSubjects 30 = .ok (.ireturn, 1) := by decide +kernel
theorem dX5_allCells_0 : decode cX5_allCells 0 = .ok (.iconst 0, 1) := by decide +kernel
theorem dX5_allCells_1 : decode cX5_allCells 1 = .ok (.istore_n 1, 1) := by decide +kernel
theorem dX5_allCells_2 : decode cX5_allCells 2 = .ok (.iconst 0, 1) := by decide +kernel
theorem dX5_allCells_3 : decode cX5_allCells 3 = .ok (.istore_n 2, 1) := by decide +kernel
theorem dX5_allCells_4 : decode cX5_allCells 4 = .ok (.iload_n 2, 1) := by decide +kernel
theorem dX5_allCells_5 : decode cX5_allCells 5 = .ok (.aload_n 0, 1) := by decide +kernel
theorem dX5_allCells_6 : decode cX5_allCells 6 = .ok (.getfield 7, 3) := by decide +kernel
theorem dX5_allCells_9 : decode cX5_allCells 9 = .ok (.iconst 1, 1) := by decide +kernel
theorem dX5_allCells_10 : decode cX5_allCells 10 = .ok (.iaload, 1) := by decide +kernel
theorem dX5_allCells_11 : decode cX5_allCells 11 = .ok (.if_icmp .ge 20, 3) := by decide +kernel
theorem dX5_allCells_14 : decode cX5_allCells 14 = .ok (.iload_n 1, 1) := by decide +kernel
theorem dX5_allCells_15 : decode cX5_allCells 15 = .ok (.iconst 1, 1) := by decide +kernel
theorem dX5_allCells_16 : decode cX5_allCells 16 = .ok (.aload_n 0, 1) := by decide +kernel
theorem dX5_allCells_17 : decode cX5_allCells 17 = .ok (.iload_n 2, 1) := by decide +kernel
theorem dX5_allCells_18 : decode cX5_allCells 18 = .ok (.iconst 1, 1) := by decide +kernel
theorem dX5_allCells_19 : decode cX5_allCells 19 = .ok (.invokevirtual 83, 3) := by decide +kernel
theorem dX5_allCells_22 : decode cX5_allCells 22 = .ok (.ishl, 1) := by decide +kernel
theorem dX5_allCells_23 : decode cX5_allCells 23 = .ok (.ior, 1) := by decide +kernel
theorem dX5_allCells_24 : decode cX5_allCells 24 = .ok (.istore_n 1, 1) := by decide +kernel
theorem dX5_allCells_25 : decode cX5_allCells 25 = .ok (.iinc 2 1, 3) := by decide +kernel
theorem dX5_allCells_28 : decode cX5_allCells 28 = .ok (.goto (-24), 3) := by decide +kernel
theorem dX5_allCells_31 : decode cX5_allCells 31 = .ok (.iload_n 1, 1) := by decide +kernel
theorem dX5_allCells_32 : decode cX5_allCells 32 = .ok (.ireturn, 1) := by decide +kernel
theorem dX5_now_0 : decode cX5_now 0 = .ok (.iload_n 1, 1) := by decide +kernel
theorem dX5_now_1 : decode cX5_now 1 = .ok (.tableswitch 79 0 5 #[39, 46, 51, 64, 69, 74], 39) := by decide +kernel
theorem dX5_now_40 : decode cX5_now 40 = .ok (.aload_n 0, 1) := by decide +kernel
theorem dX5_now_41 : decode cX5_now 41 = .ok (.getfield 7, 3) := by decide +kernel
theorem dX5_now_44 : decode cX5_now 44 = .ok (.iconst 0, 1) := by decide +kernel
theorem dX5_now_45 : decode cX5_now 45 = .ok (.iaload, 1) := by decide +kernel
theorem dX5_now_46 : decode cX5_now 46 = .ok (.ireturn, 1) := by decide +kernel
theorem dX5_now_47 : decode cX5_now 47 = .ok (.aload_n 0, 1) := by decide +kernel
theorem dX5_now_48 : decode cX5_now 48 = .ok (.invokevirtual 92, 3) := by decide +kernel
theorem dX5_now_51 : decode cX5_now 51 = .ok (.ireturn, 1) := by decide +kernel
theorem dX5_now_52 : decode cX5_now 52 = .ok (.aload_n 0, 1) := by decide +kernel
theorem dX5_now_53 : decode cX5_now 53 = .ok (.invokevirtual 103, 3) := by decide +kernel
theorem dX5_now_56 : decode cX5_now 56 = .ok (.ifCond .eq 7, 3) := by decide +kernel
theorem dX5_now_59 : decode cX5_now 59 = .ok (.iconst 1, 1) := by decide +kernel
theorem dX5_now_60 : decode cX5_now 60 = .ok (.goto 4, 3) := by decide +kernel
theorem dX5_now_63 : decode cX5_now 63 = .ok (.iconst 0, 1) := by decide +kernel
theorem dX5_now_64 : decode cX5_now 64 = .ok (.ireturn, 1) := by decide +kernel
theorem dX5_now_65 : decode cX5_now 65 = .ok (.aload_n 0, 1) := by decide +kernel
theorem dX5_now_66 : decode cX5_now 66 = .ok (.invokevirtual 163, 3) := by decide +kernel
theorem dX5_now_69 : decode cX5_now 69 = .ok (.ireturn, 1) := by decide +kernel
theorem dX5_now_70 : decode cX5_now 70 = .ok (.aload_n 0, 1) := by decide +kernel
theorem dX5_now_71 : decode cX5_now 71 = .ok (.invokevirtual 166, 3) := by decide +kernel
theorem dX5_now_74 : decode cX5_now 74 = .ok (.ireturn, 1) := by decide +kernel
theorem dX5_now_75 : decode cX5_now 75 = .ok (.aload_n 0, 1) := by decide +kernel
theorem dX5_now_76 : decode cX5_now 76 = .ok (.invokevirtual 169, 3) := by decide +kernel
theorem dX5_now_79 : decode cX5_now 79 = .ok (.ireturn, 1) := by decide +kernel
theorem dX5_now_80 : decode cX5_now 80 = .ok (.aload_n 0, 1) := by decide +kernel
theorem dX5_now_81 : decode cX5_now 81 = .ok (.ldc 41, 2) := by decide +kernel
theorem dX5_now_83 : decode cX5_now 83 = .ok (.invokevirtual 65, 3) := by decide +kernel
theorem dX5_now_86 : decode cX5_now 86 = .ok (.ireturn, 1) := by decide +kernel
theorem dX5_on_0 : decode cX5_on 0 = .ok (.aload_n 0, 1) := by decide +kernel
theorem dX5_on_1 : decode cX5_on 1 = .ok (.iload_n 1, 1) := by decide +kernel
theorem dX5_on_2 : decode cX5_on 2 = .ok (.invokevirtual 54, 3) := by decide +kernel
theorem dX5_on_5 : decode cX5_on 5 = .ok (.ifCond .eq 25, 3) := by decide +kernel
theorem dX5_on_8 : decode cX5_on 8 = .ok (.iload_n 2, 1) := by decide +kernel
theorem dX5_on_9 : decode cX5_on 9 = .ok (.i2l, 1) := by decide +kernel
theorem dX5_on_10 : decode cX5_on 10 = .ok (.lconst 0, 1) := by decide +kernel
theorem dX5_on_11 : decode cX5_on 11 = .ok (.ldc2_w 158, 3) := by decide +kernel
theorem dX5_on_14 : decode cX5_on 14 = .ok (.invokestatic 44, 3) := by decide +kernel
theorem dX5_on_17 : decode cX5_on 17 = .ok (.ifCond .eq 13, 3) := by decide +kernel
theorem dX5_on_20 : decode cX5_on 20 = .ok (.iload_n 3, 1) := by decide +kernel
theorem dX5_on_21 : decode cX5_on 21 = .ok (.i2l, 1) := by decide +kernel
theorem dX5_on_22 : decode cX5_on 22 = .ok (.lconst 0, 1) := by decide +kernel
theorem dX5_on_23 : decode cX5_on 23 = .ok (.lconst 1, 1) := by decide +kernel
theorem dX5_on_24 : decode cX5_on 24 = .ok (.invokestatic 44, 3) := by decide +kernel
theorem dX5_on_27 : decode cX5_on 27 = .ok (.ifCond .ne 10, 3) := by decide +kernel
theorem dX5_on_30 : decode cX5_on 30 = .ok (.aload_n 0, 1) := by decide +kernel
theorem dX5_on_31 : decode cX5_on 31 = .ok (.ldc 41, 2) := by decide +kernel
theorem dX5_on_33 : decode cX5_on 33 = .ok (.invokevirtual 65, 3) := by decide +kernel
theorem dX5_on_36 : decode cX5_on 36 = .ok (.ireturn, 1) := by decide +kernel
theorem dX5_on_37 : decode cX5_on 37 = .ok (.aload_n 0, 1) := by decide +kernel
theorem dX5_on_38 : decode cX5_on 38 = .ok (.invokevirtual 172, 3) := by decide +kernel
theorem dX5_on_41 : decode cX5_on 41 = .ok (.aload_n 0, 1) := by decide +kernel
theorem dX5_on_42 : decode cX5_on 42 = .ok (.iload_n 2, 1) := by decide +kernel
theorem dX5_on_43 : decode cX5_on 43 = .ok (.invokevirtual 160, 3) := by decide +kernel
theorem dX5_on_46 : decode cX5_on 46 = .ok (.aload_n 0, 1) := by decide +kernel
theorem dX5_on_47 : decode cX5_on 47 = .ok (.aload_n 0, 1) := by decide +kernel
theorem dX5_on_48 : decode cX5_on 48 = .ok (.iload_n 1, 1) := by decide +kernel
theorem dX5_on_49 : decode cX5_on 49 = .ok (.iload_n 3, 1) := by decide +kernel
theorem dX5_on_50 : decode cX5_on 50 = .ok (.ifCond .ne 7, 3) := by decide +kernel
theorem dX5_on_53 : decode cX5_on 53 = .ok (.iconst 1, 1) := by decide +kernel
theorem dX5_on_54 : decode cX5_on 54 = .ok (.goto 4, 3) := by decide +kernel
theorem dX5_on_57 : decode cX5_on 57 = .ok (.iconst 2, 1) := by decide +kernel
theorem dX5_on_58 : decode cX5_on 58 = .ok (.invokevirtual 83, 3) := by decide +kernel
theorem dX5_on_61 : decode cX5_on 61 = .ok (.invokevirtual 175, 3) := by decide +kernel
theorem dX5_on_64 : decode cX5_on 64 = .ok (.ireturn, 1) := by decide +kernel
theorem dX5_whenOf_0 : decode cX5_whenOf 0 = .ok (.aload_n 0, 1) := by decide +kernel
theorem dX5_whenOf_1 : decode cX5_whenOf 1 = .ok (.invokevirtual 172, 3) := by decide +kernel
theorem dX5_whenOf_4 : decode cX5_whenOf 4 = .ok (.iconst 0, 1) := by decide +kernel
theorem dX5_whenOf_5 : decode cX5_whenOf 5 = .ok (.istore_n 3, 1) := by decide +kernel
theorem dX5_whenOf_6 : decode cX5_whenOf 6 = .ok (.iload_n 3, 1) := by decide +kernel
theorem dX5_whenOf_7 : decode cX5_whenOf 7 = .ok (.bipush 72, 2) := by decide +kernel
theorem dX5_whenOf_9 : decode cX5_whenOf 9 = .ok (.if_icmp .gt 23, 3) := by decide +kernel
theorem dX5_whenOf_12 : decode cX5_whenOf 12 = .ok (.aload_n 0, 1) := by decide +kernel
theorem dX5_whenOf_13 : decode cX5_whenOf 13 = .ok (.iload_n 1, 1) := by decide +kernel
theorem dX5_whenOf_14 : decode cX5_whenOf 14 = .ok (.iconst 1, 1) := by decide +kernel
theorem dX5_whenOf_15 : decode cX5_whenOf 15 = .ok (.invokevirtual 83, 3) := by decide +kernel
theorem dX5_whenOf_18 : decode cX5_whenOf 18 = .ok (.iload_n 2, 1) := by decide +kernel
theorem dX5_whenOf_19 : decode cX5_whenOf 19 = .ok (.if_icmp .eq 13, 3) := by decide +kernel
theorem dX5_whenOf_22 : decode cX5_whenOf 22 = .ok (.aload_n 0, 1) := by decide +kernel
theorem dX5_whenOf_23 : decode cX5_whenOf 23 = .ok (.invokevirtual 155, 3) := by decide +kernel
theorem dX5_whenOf_26 : decode cX5_whenOf 26 = .ok (.iinc 3 1, 3) := by decide +kernel
theorem dX5_whenOf_29 : decode cX5_whenOf 29 = .ok (.goto (-23), 3) := by decide +kernel
theorem dX5_whenOf_32 : decode cX5_whenOf 32 = .ok (.aload_n 0, 1) := by decide +kernel
theorem dX5_whenOf_33 : decode cX5_whenOf 33 = .ok (.iload_n 3, 1) := by decide +kernel
theorem dX5_whenOf_34 : decode cX5_whenOf 34 = .ok (.invokevirtual 175, 3) := by decide +kernel
theorem dX5_whenOf_37 : decode cX5_whenOf 37 = .ok (.ireturn, 1) := by decide +kernel
theorem dX5_orNone_0 : decode cX5_orNone 0 = .ok (.iload_n 1, 1) := by decide +kernel
theorem dX5_orNone_1 : decode cX5_orNone 1 = .ok (.i2l, 1) := by decide +kernel
theorem dX5_orNone_2 : decode cX5_orNone 2 = .ok (.lconst 0, 1) := by decide +kernel
theorem dX5_orNone_3 : decode cX5_orNone 3 = .ok (.iload_n 2, 1) := by decide +kernel
theorem dX5_orNone_4 : decode cX5_orNone 4 = .ok (.i2l, 1) := by decide +kernel
theorem dX5_orNone_5 : decode cX5_orNone 5 = .ok (.invokestatic 44, 3) := by decide +kernel
theorem dX5_orNone_8 : decode cX5_orNone 8 = .ok (.ifCond .eq 7, 3) := by decide +kernel
theorem dX5_orNone_11 : decode cX5_orNone 11 = .ok (.iload_n 1, 1) := by decide +kernel
theorem dX5_orNone_12 : decode cX5_orNone 12 = .ok (.goto 9, 3) := by decide +kernel
theorem dX5_orNone_15 : decode cX5_orNone 15 = .ok (.aload_n 0, 1) := by decide +kernel
theorem dX5_orNone_16 : decode cX5_orNone 16 = .ok (.ldc 137, 2) := by decide +kernel
theorem dX5_orNone_18 : decode cX5_orNone 18 = .ok (.invokevirtual 65, 3) := by decide +kernel
theorem dX5_orNone_21 : decode cX5_orNone 21 = .ok (.ireturn, 1) := by decide +kernel
theorem dX5_when_0 : decode cX5_when 0 = .ok (.aload_n 0, 1) := by decide +kernel
theorem dX5_when_1 : decode cX5_when 1 = .ok (.iload_n 1, 1) := by decide +kernel
theorem dX5_when_2 : decode cX5_when 2 = .ok (.invokevirtual 54, 3) := by decide +kernel
theorem dX5_when_5 : decode cX5_when 5 = .ok (.ifCond .eq 25, 3) := by decide +kernel
theorem dX5_when_8 : decode cX5_when 8 = .ok (.iload_n 2, 1) := by decide +kernel
theorem dX5_when_9 : decode cX5_when 9 = .ok (.invokestatic 62, 3) := by decide +kernel
theorem dX5_when_12 : decode cX5_when 12 = .ok (.ifCond .eq 18, 3) := by decide +kernel
theorem dX5_when_15 : decode cX5_when 15 = .ok (.aload_n 0, 1) := by decide +kernel
theorem dX5_when_16 : decode cX5_when 16 = .ok (.aload_n 0, 1) := by decide +kernel
theorem dX5_when_17 : decode cX5_when 17 = .ok (.iload_n 1, 1) := by decide +kernel
theorem dX5_when_18 : decode cX5_when 18 = .ok (.iload_n 2, 1) := by decide +kernel
theorem dX5_when_19 : decode cX5_when 19 = .ok (.invokevirtual 178, 3) := by decide +kernel
theorem dX5_when_22 : decode cX5_when 22 = .ok (.bipush 72, 2) := by decide +kernel
theorem dX5_when_24 : decode cX5_when 24 = .ok (.invokevirtual 181, 3) := by decide +kernel
theorem dX5_when_27 : decode cX5_when 27 = .ok (.goto 9, 3) := by decide +kernel
theorem dX5_when_30 : decode cX5_when 30 = .ok (.aload_n 0, 1) := by decide +kernel
theorem dX5_when_31 : decode cX5_when 31 = .ok (.ldc 41, 2) := by decide +kernel
theorem dX5_when_33 : decode cX5_when 33 = .ok (.invokevirtual 65, 3) := by decide +kernel
theorem dX5_when_36 : decode cX5_when 36 = .ok (.ireturn, 1) := by decide +kernel
theorem dX5_meet_0 : decode cX5_meet 0 = .ok (.aload_n 0, 1) := by decide +kernel
theorem dX5_meet_1 : decode cX5_meet 1 = .ok (.iload_n 1, 1) := by decide +kernel
theorem dX5_meet_2 : decode cX5_meet 2 = .ok (.iload_n 2, 1) := by decide +kernel
theorem dX5_meet_3 : decode cX5_meet 3 = .ok (.invokevirtual 129, 3) := by decide +kernel
theorem dX5_meet_6 : decode cX5_meet 6 = .ok (.ifCond .ne 10, 3) := by decide +kernel
theorem dX5_meet_9 : decode cX5_meet 9 = .ok (.aload_n 0, 1) := by decide +kernel
theorem dX5_meet_10 : decode cX5_meet 10 = .ok (.ldc 41, 2) := by decide +kernel
theorem dX5_meet_12 : decode cX5_meet 12 = .ok (.invokevirtual 65, 3) := by decide +kernel
theorem dX5_meet_15 : decode cX5_meet 15 = .ok (.ireturn, 1) := by decide +kernel
theorem dX5_meet_16 : decode cX5_meet 16 = .ok (.aload_n 0, 1) := by decide +kernel
theorem dX5_meet_17 : decode cX5_meet 17 = .ok (.invokevirtual 172, 3) := by decide +kernel
theorem dX5_meet_20 : decode cX5_meet 20 = .ok (.iconst 0, 1) := by decide +kernel
theorem dX5_meet_21 : decode cX5_meet 21 = .ok (.istore_n 3, 1) := by decide +kernel
theorem dX5_meet_22 : decode cX5_meet 22 = .ok (.iload_n 3, 1) := by decide +kernel
theorem dX5_meet_23 : decode cX5_meet 23 = .ok (.bipush 72, 2) := by decide +kernel
theorem dX5_meet_25 : decode cX5_meet 25 = .ok (.if_icmp .gt 28, 3) := by decide +kernel
theorem dX5_meet_28 : decode cX5_meet 28 = .ok (.aload_n 0, 1) := by decide +kernel
theorem dX5_meet_29 : decode cX5_meet 29 = .ok (.iload_n 1, 1) := by decide +kernel
theorem dX5_meet_30 : decode cX5_meet 30 = .ok (.iconst 1, 1) := by decide +kernel
theorem dX5_meet_31 : decode cX5_meet 31 = .ok (.invokevirtual 83, 3) := by decide +kernel
theorem dX5_meet_34 : decode cX5_meet 34 = .ok (.aload_n 0, 1) := by decide +kernel
theorem dX5_meet_35 : decode cX5_meet 35 = .ok (.iload_n 2, 1) := by decide +kernel
theorem dX5_meet_36 : decode cX5_meet 36 = .ok (.iconst 1, 1) := by decide +kernel
theorem dX5_meet_37 : decode cX5_meet 37 = .ok (.invokevirtual 83, 3) := by decide +kernel
theorem dX5_meet_40 : decode cX5_meet 40 = .ok (.if_icmp .eq 13, 3) := by decide +kernel
theorem dX5_meet_43 : decode cX5_meet 43 = .ok (.aload_n 0, 1) := by decide +kernel
theorem dX5_meet_44 : decode cX5_meet 44 = .ok (.invokevirtual 155, 3) := by decide +kernel
theorem dX5_meet_47 : decode cX5_meet 47 = .ok (.iinc 3 1, 3) := by decide +kernel
theorem dX5_meet_50 : decode cX5_meet 50 = .ok (.goto (-28), 3) := by decide +kernel
theorem dX5_meet_53 : decode cX5_meet 53 = .ok (.aload_n 0, 1) := by decide +kernel
theorem dX5_meet_54 : decode cX5_meet 54 = .ok (.aload_n 0, 1) := by decide +kernel
theorem dX5_meet_55 : decode cX5_meet 55 = .ok (.iload_n 3, 1) := by decide +kernel
theorem dX5_meet_56 : decode cX5_meet 56 = .ok (.invokevirtual 175, 3) := by decide +kernel
theorem dX5_meet_59 : decode cX5_meet 59 = .ok (.bipush 72, 2) := by decide +kernel
theorem dX5_meet_61 : decode cX5_meet 61 = .ok (.invokevirtual 181, 3) := by decide +kernel
theorem dX5_meet_64 : decode cX5_meet 64 = .ok (.ireturn, 1) := by decide +kernel
theorem dX5_carriers_0 : decode cX5_carriers 0 = .ok (.iconst 0, 1) := by decide +kernel
theorem dX5_carriers_1 : decode cX5_carriers 1 = .ok (.istore_n 2, 1) := by decide +kernel
theorem dX5_carriers_2 : decode cX5_carriers 2 = .ok (.iconst 0, 1) := by decide +kernel
theorem dX5_carriers_3 : decode cX5_carriers 3 = .ok (.istore_n 3, 1) := by decide +kernel
theorem dX5_carriers_4 : decode cX5_carriers 4 = .ok (.iload_n 3, 1) := by decide +kernel
theorem dX5_carriers_5 : decode cX5_carriers 5 = .ok (.aload_n 0, 1) := by decide +kernel
theorem dX5_carriers_6 : decode cX5_carriers 6 = .ok (.getfield 7, 3) := by decide +kernel
theorem dX5_carriers_9 : decode cX5_carriers 9 = .ok (.iconst 1, 1) := by decide +kernel
theorem dX5_carriers_10 : decode cX5_carriers 10 = .ok (.iaload, 1) := by decide +kernel
theorem dX5_carriers_11 : decode cX5_carriers 11 = .ok (.if_icmp .ge 24, 3) := by decide +kernel
theorem dX5_carriers_14 : decode cX5_carriers 14 = .ok (.iload_n 2, 1) := by decide +kernel
theorem dX5_carriers_15 : decode cX5_carriers 15 = .ok (.aload_n 0, 1) := by decide +kernel
theorem dX5_carriers_16 : decode cX5_carriers 16 = .ok (.iload_n 3, 1) := by decide +kernel
theorem dX5_carriers_17 : decode cX5_carriers 17 = .ok (.iconst 2, 1) := by decide +kernel
theorem dX5_carriers_18 : decode cX5_carriers 18 = .ok (.invokevirtual 83, 3) := by decide +kernel
theorem dX5_carriers_21 : decode cX5_carriers 21 = .ok (.iload_n 1, 1) := by decide +kernel
theorem dX5_carriers_22 : decode cX5_carriers 22 = .ok (.ishr, 1) := by decide +kernel
theorem dX5_carriers_23 : decode cX5_carriers 23 = .ok (.iconst 1, 1) := by decide +kernel
theorem dX5_carriers_24 : decode cX5_carriers 24 = .ok (.iand, 1) := by decide +kernel
theorem dX5_carriers_25 : decode cX5_carriers 25 = .ok (.iload_n 3, 1) := by decide +kernel
theorem dX5_carriers_26 : decode cX5_carriers 26 = .ok (.ishl, 1) := by decide +kernel
theorem dX5_carriers_27 : decode cX5_carriers 27 = .ok (.ior, 1) := by decide +kernel
theorem dX5_carriers_28 : decode cX5_carriers 28 = .ok (.istore_n 2, 1) := by decide +kernel
theorem dX5_carriers_29 : decode cX5_carriers 29 = .ok (.iinc 3 1, 3) := by decide +kernel
theorem dX5_carriers_32 : decode cX5_carriers 32 = .ok (.goto (-28), 3) := by decide +kernel
theorem dX5_carriers_35 : decode cX5_carriers 35 = .ok (.iload_n 2, 1) := by decide +kernel
theorem dX5_carriers_36 : decode cX5_carriers 36 = .ok (.ireturn, 1) := by decide +kernel
theorem dX5_carries_0 : decode cX5_carries 0 = .ok (.iload_n 1, 1) := by decide +kernel
theorem dX5_carries_1 : decode cX5_carries 1 = .ok (.invokestatic 133, 3) := by decide +kernel
theorem dX5_carries_4 : decode cX5_carries 4 = .ok (.ifCond .eq 15, 3) := by decide +kernel
theorem dX5_carries_7 : decode cX5_carries 7 = .ok (.iload_n 2, 1) := by decide +kernel
theorem dX5_carries_8 : decode cX5_carries 8 = .ok (.i2l, 1) := by decide +kernel
theorem dX5_carries_9 : decode cX5_carries 9 = .ok (.lconst 0, 1) := by decide +kernel
theorem dX5_carries_10 : decode cX5_carries 10 = .ok (.ldc2_w 158, 3) := by decide +kernel
theorem dX5_carries_13 : decode cX5_carries 13 = .ok (.invokestatic 44, 3) := by decide +kernel
theorem dX5_carries_16 : decode cX5_carries 16 = .ok (.ifCond .ne 10, 3) := by decide +kernel
theorem dX5_carries_19 : decode cX5_carries 19 = .ok (.aload_n 0, 1) := by decide +kernel
theorem dX5_carries_20 : decode cX5_carries 20 = .ok (.ldc 41, 2) := by decide +kernel
theorem dX5_carries_22 : decode cX5_carries 22 = .ok (.invokevirtual 65, 3) := by decide +kernel
theorem dX5_carries_25 : decode cX5_carries 25 = .ok (.ireturn, 1) := by decide +kernel
theorem dX5_carries_26 : decode cX5_carries 26 = .ok (.aload_n 0, 1) := by decide +kernel
theorem dX5_carries_27 : decode cX5_carries 27 = .ok (.invokevirtual 172, 3) := by decide +kernel
theorem dX5_carries_30 : decode cX5_carries 30 = .ok (.aload_n 0, 1) := by decide +kernel
theorem dX5_carries_31 : decode cX5_carries 31 = .ok (.iload_n 2, 1) := by decide +kernel
theorem dX5_carries_32 : decode cX5_carries 32 = .ok (.invokevirtual 160, 3) := by decide +kernel
theorem dX5_carries_35 : decode cX5_carries 35 = .ok (.aload_n 0, 1) := by decide +kernel
theorem dX5_carries_36 : decode cX5_carries 36 = .ok (.aload_n 0, 1) := by decide +kernel
theorem dX5_carries_37 : decode cX5_carries 37 = .ok (.iload_n 1, 1) := by decide +kernel
theorem dX5_carries_38 : decode cX5_carries 38 = .ok (.invokevirtual 184, 3) := by decide +kernel
theorem dX5_carries_41 : decode cX5_carries 41 = .ok (.invokevirtual 175, 3) := by decide +kernel
theorem dX5_carries_44 : decode cX5_carries 44 = .ok (.ireturn, 1) := by decide +kernel
theorem dX5_open_0 : decode cX5_open 0 = .ok (.ldc 187, 2) := by decide +kernel
theorem dX5_open_2 : decode cX5_open 2 = .ok (.aload_n 0, 1) := by decide +kernel
theorem dX5_open_3 : decode cX5_open 3 = .ok (.getfield 7, 3) := by decide +kernel
theorem dX5_open_6 : decode cX5_open 6 = .ok (.iconst 2, 1) := by decide +kernel
theorem dX5_open_7 : decode cX5_open 7 = .ok (.iaload, 1) := by decide +kernel
theorem dX5_open_8 : decode cX5_open 8 = .ok (.iconst (-1), 1) := by decide +kernel
theorem dX5_open_9 : decode cX5_open 9 = .ok (.ixor, 1) := by decide +kernel
theorem dX5_open_10 : decode cX5_open 10 = .ok (.iand, 1) := by decide +kernel
theorem dX5_open_11 : decode cX5_open 11 = .ok (.ireturn, 1) := by decide +kernel
theorem dX5_spread_0 : decode cX5_spread 0 = .ok (.iload_n 1, 1) := by decide +kernel
theorem dX5_spread_1 : decode cX5_spread 1 = .ok (.istore_n 2, 1) := by decide +kernel
theorem dX5_spread_2 : decode cX5_spread 2 = .ok (.iconst 0, 1) := by decide +kernel
theorem dX5_spread_3 : decode cX5_spread 3 = .ok (.istore_n 3, 1) := by decide +kernel
theorem dX5_spread_4 : decode cX5_spread 4 = .ok (.iload_n 3, 1) := by decide +kernel
theorem dX5_spread_5 : decode cX5_spread 5 = .ok (.bipush 30, 2) := by decide +kernel
theorem dX5_spread_7 : decode cX5_spread 7 = .ok (.if_icmp .ge 95, 3) := by decide +kernel
theorem dX5_spread_10 : decode cX5_spread 10 = .ok (.iload_n 1, 1) := by decide +kernel
theorem dX5_spread_11 : decode cX5_spread 11 = .ok (.iload_n 3, 1) := by decide +kernel
theorem dX5_spread_12 : decode cX5_spread 12 = .ok (.ishr, 1) := by decide +kernel
theorem dX5_spread_13 : decode cX5_spread 13 = .ok (.iconst 1, 1) := by decide +kernel
theorem dX5_spread_14 : decode cX5_spread 14 = .ok (.iand, 1) := by decide +kernel
theorem dX5_spread_15 : decode cX5_spread 15 = .ok (.iconst 1, 1) := by decide +kernel
theorem dX5_spread_16 : decode cX5_spread 16 = .ok (.if_icmp .ne 80, 3) := by decide +kernel
theorem dX5_spread_19 : decode cX5_spread 19 = .ok (.iload_n 2, 1) := by decide +kernel
theorem dX5_spread_20 : decode cX5_spread 20 = .ok (.iload_n 3, 1) := by decide +kernel
theorem dX5_spread_21 : decode cX5_spread 21 = .ok (.bipush 6, 2) := by decide +kernel
theorem dX5_spread_23 : decode cX5_spread 23 = .ok (.irem, 1) := by decide +kernel
theorem dX5_spread_24 : decode cX5_spread 24 = .ok (.ifCond .le 11, 3) := by decide +kernel
theorem dX5_spread_27 : decode cX5_spread 27 = .ok (.iconst 1, 1) := by decide +kernel
theorem dX5_spread_28 : decode cX5_spread 28 = .ok (.iload_n 3, 1) := by decide +kernel
theorem dX5_spread_29 : decode cX5_spread 29 = .ok (.iconst 1, 1) := by decide +kernel
theorem dX5_spread_30 : decode cX5_spread 30 = .ok (.isub, 1) := by decide +kernel
theorem dX5_spread_31 : decode cX5_spread 31 = .ok (.ishl, 1) := by decide +kernel
theorem dX5_spread_32 : decode cX5_spread 32 = .ok (.goto 4, 3) := by decide +kernel
theorem dX5_spread_35 : decode cX5_spread 35 = .ok (.iconst 0, 1) := by decide +kernel
theorem dX5_spread_36 : decode cX5_spread 36 = .ok (.ior, 1) := by decide +kernel
theorem dX5_spread_37 : decode cX5_spread 37 = .ok (.istore_n 2, 1) := by decide +kernel
theorem dX5_spread_38 : decode cX5_spread 38 = .ok (.iload_n 2, 1) := by decide +kernel
theorem dX5_spread_39 : decode cX5_spread 39 = .ok (.iload_n 3, 1) := by decide +kernel
theorem dX5_spread_40 : decode cX5_spread 40 = .ok (.bipush 6, 2) := by decide +kernel
theorem dX5_spread_42 : decode cX5_spread 42 = .ok (.irem, 1) := by decide +kernel
theorem dX5_spread_43 : decode cX5_spread 43 = .ok (.iconst 5, 1) := by decide +kernel
theorem dX5_spread_44 : decode cX5_spread 44 = .ok (.if_icmp .ge 11, 3) := by decide +kernel
theorem dX5_spread_47 : decode cX5_spread 47 = .ok (.iconst 1, 1) := by decide +kernel
theorem dX5_spread_48 : decode cX5_spread 48 = .ok (.iload_n 3, 1) := by decide +kernel
theorem dX5_spread_49 : decode cX5_spread 49 = .ok (.iconst 1, 1) := by decide +kernel
theorem dX5_spread_50 : decode cX5_spread 50 = .ok (.iadd, 1) := by decide +kernel
theorem dX5_spread_51 : decode cX5_spread 51 = .ok (.ishl, 1) := by decide +kernel
theorem dX5_spread_52 : decode cX5_spread 52 = .ok (.goto 4, 3) := by decide +kernel
theorem dX5_spread_55 : decode cX5_spread 55 = .ok (.iconst 0, 1) := by decide +kernel
theorem dX5_spread_56 : decode cX5_spread 56 = .ok (.ior, 1) := by decide +kernel
theorem dX5_spread_57 : decode cX5_spread 57 = .ok (.istore_n 2, 1) := by decide +kernel
theorem dX5_spread_58 : decode cX5_spread 58 = .ok (.iload_n 2, 1) := by decide +kernel
theorem dX5_spread_59 : decode cX5_spread 59 = .ok (.iload_n 3, 1) := by decide +kernel
theorem dX5_spread_60 : decode cX5_spread 60 = .ok (.bipush 6, 2) := by decide +kernel
theorem dX5_spread_62 : decode cX5_spread 62 = .ok (.if_icmp .lt 12, 3) := by decide +kernel
theorem dX5_spread_65 : decode cX5_spread 65 = .ok (.iconst 1, 1) := by decide +kernel
theorem dX5_spread_66 : decode cX5_spread 66 = .ok (.iload_n 3, 1) := by decide +kernel
theorem dX5_spread_67 : decode cX5_spread 67 = .ok (.bipush 6, 2) := by decide +kernel
theorem dX5_spread_69 : decode cX5_spread 69 = .ok (.isub, 1) := by decide +kernel
theorem dX5_spread_70 : decode cX5_spread 70 = .ok (.ishl, 1) := by decide +kernel
theorem dX5_spread_71 : decode cX5_spread 71 = .ok (.goto 4, 3) := by decide +kernel
theorem dX5_spread_74 : decode cX5_spread 74 = .ok (.iconst 0, 1) := by decide +kernel
theorem dX5_spread_75 : decode cX5_spread 75 = .ok (.ior, 1) := by decide +kernel
theorem dX5_spread_76 : decode cX5_spread 76 = .ok (.istore_n 2, 1) := by decide +kernel
theorem dX5_spread_77 : decode cX5_spread 77 = .ok (.iload_n 2, 1) := by decide +kernel
theorem dX5_spread_78 : decode cX5_spread 78 = .ok (.iload_n 3, 1) := by decide +kernel
theorem dX5_spread_79 : decode cX5_spread 79 = .ok (.bipush 24, 2) := by decide +kernel
theorem dX5_spread_81 : decode cX5_spread 81 = .ok (.if_icmp .ge 12, 3) := by decide +kernel
theorem dX5_spread_84 : decode cX5_spread 84 = .ok (.iconst 1, 1) := by decide +kernel
theorem dX5_spread_85 : decode cX5_spread 85 = .ok (.iload_n 3, 1) := by decide +kernel
