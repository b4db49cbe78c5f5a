theorem dX1_init_0 : decode cX1_init 0 = .ok (.aload_n 0, 1) := by decide +kernel
theorem dX1_init_1 : decode cX1_init 1 = .ok (.invokespecial 3, 3) := by decide +kernel
theorem dX1_init_4 : decode cX1_init 4 = .ok (.aload_n 0, 1) := by decide +kernel
theorem dX1_init_5 : decode cX1_init 5 = .ok (.new 9, 3) := by decide +kernel
theorem dX1_init_8 : decode cX1_init 8 = .ok (.dup, 1) := by decide +kernel
theorem dX1_init_9 : decode cX1_init 9 = .ok (.invokespecial 11, 3) := by decide +kernel
theorem dX1_init_12 : decode cX1_init 12 = .ok (.putfield 12, 3) := by decide +kernel
theorem dX1_init_15 : decode cX1_init 15 = .ok (.return_, 1) := by decide +kernel
theorem dX1_goesFrom_0 : decode cX1_goesFrom 0 = .ok (.aload_n 0, 1) := by decide +kernel
theorem dX1_goesFrom_1 : decode cX1_goesFrom 1 = .ok (.getfield 12, 3) := by decide +kernel
theorem dX1_goesFrom_4 : decode cX1_goesFrom 4 = .ok (.aload_n 2, 1) := by decide +kernel
theorem dX1_goesFrom_5 : decode cX1_goesFrom 5 = .ok (.invokevirtual 18, 3) := by decide +kernel
theorem dX1_goesFrom_8 : decode cX1_goesFrom 8 = .ok (.aload_n 0, 1) := by decide +kernel
theorem dX1_goesFrom_9 : decode cX1_goesFrom 9 = .ok (.iconst 1, 1) := by decide +kernel
theorem dX1_goesFrom_10 : decode cX1_goesFrom 10 = .ok (.iload_n 1, 1) := by decide +kernel
theorem dX1_goesFrom_11 : decode cX1_goesFrom 11 = .ok (.ishl, 1) := by decide +kernel
theorem dX1_goesFrom_12 : decode cX1_goesFrom 12 = .ok (.putfield 22, 3) := by decide +kernel
theorem dX1_goesFrom_15 : decode cX1_goesFrom 15 = .ok (.aload_n 0, 1) := by decide +kernel
theorem dX1_goesFrom_16 : decode cX1_goesFrom 16 = .ok (.iconst 0, 1) := by decide +kernel
theorem dX1_goesFrom_17 : decode cX1_goesFrom 17 = .ok (.putfield 26, 3) := by decide +kernel
theorem dX1_goesFrom_20 : decode cX1_goesFrom 20 = .ok (.return_, 1) := by decide +kernel
theorem dX1_staysInOneOf_0 : decode cX1_staysInOneOf 0 = .ok (.aload_n 0, 1) := by decide +kernel
theorem dX1_staysInOneOf_1 : decode cX1_staysInOneOf 1 = .ok (.getfield 12, 3) := by decide +kernel
theorem dX1_staysInOneOf_4 : decode cX1_staysInOneOf 4 = .ok (.aload_n 2, 1) := by decide +kernel
theorem dX1_staysInOneOf_5 : decode cX1_staysInOneOf 5 = .ok (.invokevirtual 18, 3) := by decide +kernel
theorem dX1_staysInOneOf_8 : decode cX1_staysInOneOf 8 = .ok (.aload_n 0, 1) := by decide +kernel
theorem dX1_staysInOneOf_9 : decode cX1_staysInOneOf 9 = .ok (.iload_n 1, 1) := by decide +kernel
theorem dX1_staysInOneOf_10 : decode cX1_staysInOneOf 10 = .ok (.putfield 22, 3) := by decide +kernel
theorem dX1_staysInOneOf_13 : decode cX1_staysInOneOf 13 = .ok (.aload_n 0, 1) := by decide +kernel
theorem dX1_staysInOneOf_14 : decode cX1_staysInOneOf 14 = .ok (.iconst 1, 1) := by decide +kernel
theorem dX1_staysInOneOf_15 : decode cX1_staysInOneOf 15 = .ok (.putfield 26, 3) := by decide +kernel
theorem dX1_staysInOneOf_18 : decode cX1_staysInOneOf 18 = .ok (.return_, 1) := by decide +kernel
theorem dX1_seek_0 : decode cX1_seek 0 = .ok (.iconst 0, 1) := by decide +kernel
theorem dX1_seek_1 : decode cX1_seek 1 = .ok (.istore_n 3, 1) := by decide +kernel
theorem dX1_seek_2 : decode cX1_seek 2 = .ok (.iload_n 3, 1) := by decide +kernel
theorem dX1_seek_3 : decode cX1_seek 3 = .ok (.iload_n 2, 1) := by decide +kernel
theorem dX1_seek_4 : decode cX1_seek 4 = .ok (.if_icmp .gt 51, 3) := by decide +kernel
theorem dX1_seek_7 : decode cX1_seek 7 = .ok (.aload_n 0, 1) := by decide +kernel
theorem dX1_seek_8 : decode cX1_seek 8 = .ok (.aload_n 0, 1) := by decide +kernel
theorem dX1_seek_9 : decode cX1_seek 9 = .ok (.getfield 22, 3) := by decide +kernel
theorem dX1_seek_12 : decode cX1_seek 12 = .ok (.aload_n 0, 1) := by decide +kernel
theorem dX1_seek_13 : decode cX1_seek 13 = .ok (.iload_n 1, 1) := by decide +kernel
theorem dX1_seek_14 : decode cX1_seek 14 = .ok (.invokevirtual 30, 3) := by decide +kernel
theorem dX1_seek_17 : decode cX1_seek 17 = .ok (.iand, 1) := by decide +kernel
theorem dX1_seek_18 : decode cX1_seek 18 = .ok (.putfield 34, 3) := by decide +kernel
theorem dX1_seek_21 : decode cX1_seek 21 = .ok (.aload_n 0, 1) := by decide +kernel
theorem dX1_seek_22 : decode cX1_seek 22 = .ok (.getfield 34, 3) := by decide +kernel
theorem dX1_seek_25 : decode cX1_seek 25 = .ok (.ifCond .eq 5, 3) := by decide +kernel
theorem dX1_seek_28 : decode cX1_seek 28 = .ok (.iload_n 3, 1) := by decide +kernel
theorem dX1_seek_29 : decode cX1_seek 29 = .ok (.ireturn, 1) := by decide +kernel
theorem dX1_seek_30 : decode cX1_seek 30 = .ok (.aload_n 0, 1) := by decide +kernel
theorem dX1_seek_31 : decode cX1_seek 31 = .ok (.getfield 12, 3) := by decide +kernel
theorem dX1_seek_34 : decode cX1_seek 34 = .ok (.invokevirtual 37, 3) := by decide +kernel
theorem dX1_seek_37 : decode cX1_seek 37 = .ok (.aload_n 0, 1) := by decide +kernel
theorem dX1_seek_38 : decode cX1_seek 38 = .ok (.aload_n 0, 1) := by decide +kernel
theorem dX1_seek_39 : decode cX1_seek 39 = .ok (.aload_n 0, 1) := by decide +kernel
theorem dX1_seek_40 : decode cX1_seek 40 = .ok (.getfield 22, 3) := by decide +kernel
theorem dX1_seek_43 : decode cX1_seek 43 = .ok (.invokevirtual 40, 3) := by decide +kernel
theorem dX1_seek_46 : decode cX1_seek 46 = .ok (.putfield 22, 3) := by decide +kernel
theorem dX1_seek_49 : decode cX1_seek 49 = .ok (.iinc 3 1, 3) := by decide +kernel
theorem dX1_seek_52 : decode cX1_seek 52 = .ok (.goto (-50), 3) := by decide +kernel
theorem dX1_seek_55 : decode cX1_seek 55 = .ok (.iconst (-1), 1) := by decide +kernel
theorem dX1_seek_56 : decode cX1_seek 56 = .ok (.ireturn, 1) := by decide +kernel
theorem dX1_seekTwo_0 : decode cX1_seekTwo 0 = .ok (.iconst 0, 1) := by decide +kernel
theorem dX1_seekTwo_1 : decode cX1_seekTwo 1 = .ok (.istore 4, 2) := by decide +kernel
theorem dX1_seekTwo_3 : decode cX1_seekTwo 3 = .ok (.iconst 0, 1) := by decide +kernel
theorem dX1_seekTwo_4 : decode cX1_seekTwo 4 = .ok (.istore 5, 2) := by decide +kernel
theorem dX1_seekTwo_6 : decode cX1_seekTwo 6 = .ok (.iconst 0, 1) := by decide +kernel
theorem dX1_seekTwo_7 : decode cX1_seekTwo 7 = .ok (.istore 6, 2) := by decide +kernel
theorem dX1_seekTwo_9 : decode cX1_seekTwo 9 = .ok (.iload 6, 2) := by decide +kernel
theorem dX1_seekTwo_11 : decode cX1_seekTwo 11 = .ok (.iload_n 3, 1) := by decide +kernel
theorem dX1_seekTwo_12 : decode cX1_seekTwo 12 = .ok (.if_icmp .gt 101, 3) := by decide +kernel
theorem dX1_seekTwo_15 : decode cX1_seekTwo 15 = .ok (.aload_n 0, 1) := by decide +kernel
theorem dX1_seekTwo_16 : decode cX1_seekTwo 16 = .ok (.iload_n 1, 1) := by decide +kernel
theorem dX1_seekTwo_17 : decode cX1_seekTwo 17 = .ok (.invokevirtual 30, 3) := by decide +kernel
theorem dX1_seekTwo_20 : decode cX1_seekTwo 20 = .ok (.istore 7, 2) := by decide +kernel
theorem dX1_seekTwo_22 : decode cX1_seekTwo 22 = .ok (.aload_n 0, 1) := by decide +kernel
theorem dX1_seekTwo_23 : decode cX1_seekTwo 23 = .ok (.iload_n 2, 1) := by decide +kernel
theorem dX1_seekTwo_24 : decode cX1_seekTwo 24 = .ok (.invokevirtual 30, 3) := by decide +kernel
theorem dX1_seekTwo_27 : decode cX1_seekTwo 27 = .ok (.istore 8, 2) := by decide +kernel
theorem dX1_seekTwo_29 : decode cX1_seekTwo 29 = .ok (.iload 4, 2) := by decide +kernel
theorem dX1_seekTwo_31 : decode cX1_seekTwo 31 = .ok (.aload_n 0, 1) := by decide +kernel
theorem dX1_seekTwo_32 : decode cX1_seekTwo 32 = .ok (.getfield 22, 3) := by decide +kernel
theorem dX1_seekTwo_35 : decode cX1_seekTwo 35 = .ok (.iload 7, 2) := by decide +kernel
theorem dX1_seekTwo_37 : decode cX1_seekTwo 37 = .ok (.iand, 1) := by decide +kernel
theorem dX1_seekTwo_38 : decode cX1_seekTwo 38 = .ok (.ior, 1) := by decide +kernel
theorem dX1_seekTwo_39 : decode cX1_seekTwo 39 = .ok (.istore 4, 2) := by decide +kernel
theorem dX1_seekTwo_41 : decode cX1_seekTwo 41 = .ok (.iload 5, 2) := by decide +kernel
theorem dX1_seekTwo_43 : decode cX1_seekTwo 43 = .ok (.aload_n 0, 1) := by decide +kernel
theorem dX1_seekTwo_44 : decode cX1_seekTwo 44 = .ok (.getfield 22, 3) := by decide +kernel
theorem dX1_seekTwo_47 : decode cX1_seekTwo 47 = .ok (.iload 8, 2) := by decide +kernel
theorem dX1_seekTwo_49 : decode cX1_seekTwo 49 = .ok (.iand, 1) := by decide +kernel
theorem dX1_seekTwo_50 : decode cX1_seekTwo 50 = .ok (.ior, 1) := by decide +kernel
theorem dX1_seekTwo_51 : decode cX1_seekTwo 51 = .ok (.istore 5, 2) := by decide +kernel
theorem dX1_seekTwo_53 : decode cX1_seekTwo 53 = .ok (.iload 4, 2) := by decide +kernel
theorem dX1_seekTwo_55 : decode cX1_seekTwo 55 = .ok (.iload 8, 2) := by decide +kernel
theorem dX1_seekTwo_57 : decode cX1_seekTwo 57 = .ok (.iand, 1) := by decide +kernel
theorem dX1_seekTwo_58 : decode cX1_seekTwo 58 = .ok (.ifCond .ne 11, 3) := by decide +kernel
theorem dX1_seekTwo_61 : decode cX1_seekTwo 61 = .ok (.iload 5, 2) := by decide +kernel
theorem dX1_seekTwo_63 : decode cX1_seekTwo 63 = .ok (.iload 7, 2) := by decide +kernel
theorem dX1_seekTwo_65 : decode cX1_seekTwo 65 = .ok (.iand, 1) := by decide +kernel
theorem dX1_seekTwo_66 : decode cX1_seekTwo 66 = .ok (.ifCond .eq 6, 3) := by decide +kernel
theorem dX1_seekTwo_69 : decode cX1_seekTwo 69 = .ok (.iload 6, 2) := by decide +kernel
theorem dX1_seekTwo_71 : decode cX1_seekTwo 71 = .ok (.ireturn, 1) := by decide +kernel
theorem dX1_seekTwo_72 : decode cX1_seekTwo 72 = .ok (.aload_n 0, 1) := by decide +kernel
theorem dX1_seekTwo_73 : decode cX1_seekTwo 73 = .ok (.iload 4, 2) := by decide +kernel
theorem dX1_seekTwo_75 : decode cX1_seekTwo 75 = .ok (.invokevirtual 40, 3) := by decide +kernel
theorem dX1_seekTwo_78 : decode cX1_seekTwo 78 = .ok (.istore 4, 2) := by decide +kernel
theorem dX1_seekTwo_80 : decode cX1_seekTwo 80 = .ok (.aload_n 0, 1) := by decide +kernel
theorem dX1_seekTwo_81 : decode cX1_seekTwo 81 = .ok (.iload 5, 2) := by decide +kernel
theorem dX1_seekTwo_83 : decode cX1_seekTwo 83 = .ok (.invokevirtual 40, 3) := by decide +kernel
theorem dX1_seekTwo_86 : decode cX1_seekTwo 86 = .ok (.istore 5, 2) := by decide +kernel
theorem dX1_seekTwo_88 : decode cX1_seekTwo 88 = .ok (.aload_n 0, 1) := by decide +kernel
theorem dX1_seekTwo_89 : decode cX1_seekTwo 89 = .ok (.getfield 12, 3) := by decide +kernel
theorem dX1_seekTwo_92 : decode cX1_seekTwo 92 = .ok (.invokevirtual 37, 3) := by decide +kernel
theorem dX1_seekTwo_95 : decode cX1_seekTwo 95 = .ok (.aload_n 0, 1) := by decide +kernel
theorem dX1_seekTwo_96 : decode cX1_seekTwo 96 = .ok (.aload_n 0, 1) := by decide +kernel
theorem dX1_seekTwo_97 : decode cX1_seekTwo 97 = .ok (.aload_n 0, 1) := by decide +kernel
theorem dX1_seekTwo_98 : decode cX1_seekTwo 98 = .ok (.getfield 22, 3) := by decide +kernel
theorem dX1_seekTwo_101 : decode cX1_seekTwo 101 = .ok (.invokevirtual 40, 3) := by decide +kernel
theorem dX1_seekTwo_104 : decode cX1_seekTwo 104 = .ok (.putfield 22, 3) := by decide +kernel
theorem dX1_seekTwo_107 : decode cX1_seekTwo 107 = .ok (.iinc 6 1, 3) := by decide +kernel
theorem dX1_seekTwo_110 : decode cX1_seekTwo 110 = .ok (.goto (-101), 3) := by decide +kernel
theorem dX1_seekTwo_113 : decode cX1_seekTwo 113 = .ok (.iconst (-1), 1) := by decide +kernel
theorem dX1_seekTwo_114 : decode cX1_seekTwo 114 = .ok (.ireturn, 1) := by decide +kernel
theorem dX1_subjectsWithin_0 : decode cX1_subjectsWithin 0 = .ok (.iconst 0, 1) := by decide +kernel
theorem dX1_subjectsWithin_1 : decode cX1_subjectsWithin 1 = .ok (.istore_n 2, 1) := by decide +kernel
theorem dX1_subjectsWithin_2 : decode cX1_subjectsWithin 2 = .ok (.iconst 0, 1) := by decide +kernel
theorem dX1_subjectsWithin_3 : decode cX1_subjectsWithin 3 = .ok (.istore_n 3, 1) := by decide +kernel
theorem dX1_subjectsWithin_4 : decode cX1_subjectsWithin 4 = .ok (.iload_n 3, 1) := by decide +kernel
theorem dX1_subjectsWithin_5 : decode cX1_subjectsWithin 5 = .ok (.iload_n 1, 1) := by decide +kernel
theorem dX1_subjectsWithin_6 : decode cX1_subjectsWithin 6 = .ok (.if_icmp .gt 42, 3) := by decide +kernel
theorem dX1_subjectsWithin_9 : decode cX1_subjectsWithin 9 = .ok (.iload_n 2, 1) := by decide +kernel
theorem dX1_subjectsWithin_10 : decode cX1_subjectsWithin 10 = .ok (.aload_n 0, 1) := by decide +kernel
theorem dX1_subjectsWithin_11 : decode cX1_subjectsWithin 11 = .ok (.getfield 12, 3) := by decide +kernel
theorem dX1_subjectsWithin_14 : decode cX1_subjectsWithin 14 = .ok (.aload_n 0, 1) := by decide +kernel
theorem dX1_subjectsWithin_15 : decode cX1_subjectsWithin 15 = .ok (.getfield 22, 3) := by decide +kernel
theorem dX1_subjectsWithin_18 : decode cX1_subjectsWithin 18 = .ok (.invokevirtual 43, 3) := by decide +kernel
theorem dX1_subjectsWithin_21 : decode cX1_subjectsWithin 21 = .ok (.ior, 1) := by decide +kernel
theorem dX1_subjectsWithin_22 : decode cX1_subjectsWithin 22 = .ok (.istore_n 2, 1) := by decide +kernel
theorem dX1_subjectsWithin_23 : decode cX1_subjectsWithin 23 = .ok (.aload_n 0, 1) := by decide +kernel
theorem dX1_subjectsWithin_24 : decode cX1_subjectsWithin 24 = .ok (.getfield 12, 3) := by decide +kernel
theorem dX1_subjectsWithin_27 : decode cX1_subjectsWithin 27 = .ok (.invokevirtual 37, 3) := by decide +kernel
theorem dX1_subjectsWithin_30 : decode cX1_subjectsWithin 30 = .ok (.aload_n 0, 1) := by decide +kernel
theorem dX1_subjectsWithin_31 : decode cX1_subjectsWithin 31 = .ok (.aload_n 0, 1) := by decide +kernel
theorem dX1_subjectsWithin_32 : decode cX1_subjectsWithin 32 = .ok (.aload_n 0, 1) := by decide +kernel
theorem dX1_subjectsWithin_33 : decode cX1_subjectsWithin 33 = .ok (.getfield 22, 3) := by decide +kernel
theorem dX1_subjectsWithin_36 : decode cX1_subjectsWithin 36 = .ok (.invokevirtual 40, 3) := by decide +kernel
theorem dX1_subjectsWithin_39 : decode cX1_subjectsWithin 39 = .ok (.putfield 22, 3) := by decide +kernel
theorem dX1_subjectsWithin_42 : decode cX1_subjectsWithin 42 = .ok (.iinc 3 1, 3) := by decide +kernel
theorem dX1_subjectsWithin_45 : decode cX1_subjectsWithin 45 = .ok (.goto (-41), 3) := by decide +kernel
theorem dX1_subjectsWithin_48 : decode cX1_subjectsWithin 48 = .ok (.iload_n 2, 1) := by decide +kernel
theorem dX1_subjectsWithin_49 : decode cX1_subjectsWithin 49 = .ok (.ireturn, 1) := by decide +kernel
theorem dX1_cellsWith_0 : decode cX1_cellsWith 0 = .ok (.aload_n 0, 1) := by decide +kernel
theorem dX1_cellsWith_1 : decode cX1_cellsWith 1 = .ok (.getfield 12, 3) := by decide +kernel
theorem dX1_cellsWith_4 : decode cX1_cellsWith 4 = .ok (.aload_n 0, 1) := by decide +kernel
theorem dX1_cellsWith_5 : decode cX1_cellsWith 5 = .ok (.getfield 12, 3) := by decide +kernel
theorem dX1_cellsWith_8 : decode cX1_cellsWith 8 = .ok (.iload_n 1, 1) := by decide +kernel
theorem dX1_cellsWith_9 : decode cX1_cellsWith 9 = .ok (.invokevirtual 46, 3) := by decide +kernel
theorem dX1_cellsWith_12 : decode cX1_cellsWith 12 = .ok (.invokevirtual 49, 3) := by decide +kernel
theorem dX1_cellsWith_15 : decode cX1_cellsWith 15 = .ok (.ireturn, 1) := by decide +kernel
theorem dX1_onwards_0 : decode cX1_onwards 0 = .ok (.aload_n 0, 1) := by decide +kernel
theorem dX1_onwards_1 : decode cX1_onwards 1 = .ok (.getfield 26, 3) := by decide +kernel
theorem dX1_onwards_4 : decode cX1_onwards 4 = .ok (.ifCond .eq 5, 3) := by decide +kernel
theorem dX1_onwards_7 : decode cX1_onwards 7 = .ok (.iload_n 1, 1) := by decide +kernel
theorem dX1_onwards_8 : decode cX1_onwards 8 = .ok (.ireturn, 1) := by decide +kernel
theorem dX1_onwards_9 : decode cX1_onwards 9 = .ok (.iload_n 1, 1) := by decide +kernel
theorem dX1_onwards_10 : decode cX1_onwards 10 = .ok (.ldc 52, 2) := by decide +kernel
theorem dX1_onwards_12 : decode cX1_onwards 12 = .ok (.iand, 1) := by decide +kernel
theorem dX1_onwards_13 : decode cX1_onwards 13 = .ok (.iconst 1, 1) := by decide +kernel
theorem dX1_onwards_14 : decode cX1_onwards 14 = .ok (.ishr, 1) := by decide +kernel
theorem dX1_onwards_15 : decode cX1_onwards 15 = .ok (.istore_n 2, 1) := by decide +kernel
theorem dX1_onwards_16 : decode cX1_onwards 16 = .ok (.iload_n 1, 1) := by decide +kernel
theorem dX1_onwards_17 : decode cX1_onwards 17 = .ok (.ldc 53, 2) := by decide +kernel
theorem dX1_onwards_19 : decode cX1_onwards 19 = .ok (.iand, 1) := by decide +kernel
theorem dX1_onwards_20 : decode cX1_onwards 20 = .ok (.iconst 1, 1) := by decide +kernel
theorem dX1_onwards_21 : decode cX1_onwards 21 = .ok (.ishl, 1) := by decide +kernel
theorem dX1_onwards_22 : decode cX1_onwards 22 = .ok (.istore_n 3, 1) := by decide +kernel
theorem dX1_onwards_23 : decode cX1_onwards 23 = .ok (.iload_n 1, 1) := by decide +kernel
theorem dX1_onwards_24 : decode cX1_onwards 24 = .ok (.bipush 6, 2) := by decide +kernel
theorem dX1_onwards_26 : decode cX1_onwards 26 = .ok (.ishr, 1) := by decide +kernel
theorem dX1_onwards_27 : decode cX1_onwards 27 = .ok (.istore 4, 2) := by decide +kernel
theorem dX1_onwards_29 : decode cX1_onwards 29 = .ok (.iload_n 1, 1) := by decide +kernel
theorem dX1_onwards_30 : decode cX1_onwards 30 = .ok (.bipush 6, 2) := by decide +kernel
theorem dX1_onwards_32 : decode cX1_onwards 32 = .ok (.ishl, 1) := by decide +kernel
theorem dX1_onwards_33 : decode cX1_onwards 33 = .ok (.ldc 54, 2) := by decide +kernel
theorem dX1_onwards_35 : decode cX1_onwards 35 = .ok (.iand, 1) := by decide +kernel
theorem dX1_onwards_36 : decode cX1_onwards 36 = .ok (.istore 5, 2) := by decide +kernel
theorem dX1_onwards_38 : decode cX1_onwards 38 = .ok (.iload_n 1, 1) := by decide +kernel
theorem dX1_onwards_39 : decode cX1_onwards 39 = .ok (.iload_n 2, 1) := by decide +kernel
theorem dX1_onwards_40 : decode cX1_onwards 40 = .ok (.ior, 1) := by decide +kernel
theorem dX1_onwards_41 : decode cX1_onwards 41 = .ok (.iload_n 3, 1) := by decide +kernel
theorem dX1_onwards_42 : decode cX1_onwards 42 = .ok (.ior, 1) := by decide +kernel
theorem dX1_onwards_43 : decode cX1_onwards 43 = .ok (.iload 4, 2) := by decide +kernel
theorem dX1_onwards_45 : decode cX1_onwards 45 = .ok (.ior, 1) := by decide +kernel
theorem dX1_onwards_46 : decode cX1_onwards 46 = .ok (.iload 5, 2) := by decide +kernel
theorem dX1_onwards_48 : decode cX1_onwards 48 = .ok (.ior, 1) := by decide +kernel
theorem dX1_onwards_49 : decode cX1_onwards 49 = .ok (.aload_n 0, 1) := by decide +kernel
theorem dX1_onwards_50 : decode cX1_onwards 50 = .ok (.getfield 12, 3) := by decide +kernel
theorem dX1_onwards_53 : decode cX1_onwards 53 = .ok (.getfield 55, 3) := by decide +kernel
theorem dX1_onwards_56 : decode cX1_onwards 56 = .ok (.iconst (-1), 1) := by decide +kernel
theorem dX1_onwards_57 : decode cX1_onwards 57 = .ok (.ixor, 1) := by decide +kernel
theorem dX1_onwards_58 : decode cX1_onwards 58 = .ok (.iand, 1) := by decide +kernel
theorem dX1_onwards_59 : decode cX1_onwards 59 = .ok (.ireturn, 1) := by decide +kernel
