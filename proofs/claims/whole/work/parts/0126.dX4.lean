theorem dX4_book_83 : decode cX4_book 83 = .ok (.iload_n 2, 1) := by decide +kernel
theorem dX4_book_84 : decode cX4_book 84 = .ok (.invokevirtual 265, 3) := by decide +kernel
theorem dX4_book_87 : decode cX4_book 87 = .ok (.iinc 5 1, 3) := by decide +kernel
theorem dX4_book_90 : decode cX4_book 90 = .ok (.goto (-39), 3) := by decide +kernel
theorem dX4_book_93 : decode cX4_book 93 = .ok (.aload 4, 2) := by decide +kernel
theorem dX4_book_95 : decode cX4_book 95 = .ok (.getfield 234, 3) := by decide +kernel
theorem dX4_book_98 : decode cX4_book 98 = .ok (.ireturn, 1) := by decide +kernel
theorem dX4_read_0 : decode cX4_read 0 = .ok (.aload_n 0, 1) := by decide +kernel
theorem dX4_read_1 : decode cX4_read 1 = .ok (.iload_n 1, 1) := by decide +kernel
theorem dX4_read_2 : decode cX4_read 2 = .ok (.invokevirtual 235, 3) := by decide +kernel
theorem dX4_read_5 : decode cX4_read 5 = .ok (.istore_n 3, 1) := by decide +kernel
theorem dX4_read_6 : decode cX4_read 6 = .ok (.iload_n 3, 1) := by decide +kernel
theorem dX4_read_7 : decode cX4_read 7 = .ok (.ifCond .eq 5, 3) := by decide +kernel
theorem dX4_read_10 : decode cX4_read 10 = .ok (.iload_n 3, 1) := by decide +kernel
theorem dX4_read_11 : decode cX4_read 11 = .ok (.ireturn, 1) := by decide +kernel
theorem dX4_read_12 : decode cX4_read 12 = .ok (.aload_n 0, 1) := by decide +kernel
theorem dX4_read_13 : decode cX4_read 13 = .ok (.getfield 12, 3) := by decide +kernel
theorem dX4_read_16 : decode cX4_read 16 = .ok (.iload_n 2, 1) := by decide +kernel
theorem dX4_read_17 : decode cX4_read 17 = .ok (.invokevirtual 101, 3) := by decide +kernel
theorem dX4_read_20 : decode cX4_read 20 = .ok (.ifCond .ne 9, 3) := by decide +kernel
theorem dX4_read_23 : decode cX4_read 23 = .ok (.aload_n 0, 1) := by decide +kernel
theorem dX4_read_24 : decode cX4_read 24 = .ok (.iconst 0, 1) := by decide +kernel
theorem dX4_read_25 : decode cX4_read 25 = .ok (.invokevirtual 58, 3) := by decide +kernel
theorem dX4_read_28 : decode cX4_read 28 = .ok (.ireturn, 1) := by decide +kernel
theorem dX4_read_29 : decode cX4_read 29 = .ok (.iconst 0, 1) := by decide +kernel
theorem dX4_read_30 : decode cX4_read 30 = .ok (.istore 4, 2) := by decide +kernel
theorem dX4_read_32 : decode cX4_read 32 = .ok (.iconst 0, 1) := by decide +kernel
theorem dX4_read_33 : decode cX4_read 33 = .ok (.istore 5, 2) := by decide +kernel
theorem dX4_read_35 : decode cX4_read 35 = .ok (.iload 5, 2) := by decide +kernel
theorem dX4_read_37 : decode cX4_read 37 = .ok (.bipush 6, 2) := by decide +kernel
theorem dX4_read_39 : decode cX4_read 39 = .ok (.if_icmp .ge 85, 3) := by decide +kernel
theorem dX4_read_42 : decode cX4_read 42 = .ok (.iconst 0, 1) := by decide +kernel
theorem dX4_read_43 : decode cX4_read 43 = .ok (.istore 6, 2) := by decide +kernel
theorem dX4_read_45 : decode cX4_read 45 = .ok (.iload 6, 2) := by decide +kernel
theorem dX4_read_47 : decode cX4_read 47 = .ok (.bipush 30, 2) := by decide +kernel
theorem dX4_read_49 : decode cX4_read 49 = .ok (.if_icmp .ge 69, 3) := by decide +kernel
theorem dX4_read_52 : decode cX4_read 52 = .ok (.aload_n 0, 1) := by decide +kernel
theorem dX4_read_53 : decode cX4_read 53 = .ok (.getfield 16, 3) := by decide +kernel
theorem dX4_read_56 : decode cX4_read 56 = .ok (.aload_n 0, 1) := by decide +kernel
theorem dX4_read_57 : decode cX4_read 57 = .ok (.getfield 12, 3) := by decide +kernel
theorem dX4_read_60 : decode cX4_read 60 = .ok (.invokevirtual 163, 3) := by decide +kernel
theorem dX4_read_63 : decode cX4_read 63 = .ok (.aload_n 0, 1) := by decide +kernel
theorem dX4_read_64 : decode cX4_read 64 = .ok (.getfield 16, 3) := by decide +kernel
theorem dX4_read_67 : decode cX4_read 67 = .ok (.getfield 104, 3) := by decide +kernel
theorem dX4_read_70 : decode cX4_read 70 = .ok (.iload_n 2, 1) := by decide +kernel
theorem dX4_read_71 : decode cX4_read 71 = .ok (.iload 5, 2) := by decide +kernel
theorem dX4_read_73 : decode cX4_read 73 = .ok (.iastore, 1) := by decide +kernel
theorem dX4_read_74 : decode cX4_read 74 = .ok (.aload_n 0, 1) := by decide +kernel
theorem dX4_read_75 : decode cX4_read 75 = .ok (.getfield 16, 3) := by decide +kernel
theorem dX4_read_78 : decode cX4_read 78 = .ok (.getfield 73, 3) := by decide +kernel
theorem dX4_read_81 : decode cX4_read 81 = .ok (.iconst 0, 1) := by decide +kernel
theorem dX4_read_82 : decode cX4_read 82 = .ok (.iload 6, 2) := by decide +kernel
theorem dX4_read_84 : decode cX4_read 84 = .ok (.iastore, 1) := by decide +kernel
theorem dX4_read_85 : decode cX4_read 85 = .ok (.iload 4, 2) := by decide +kernel
theorem dX4_read_87 : decode cX4_read 87 = .ok (.aload_n 0, 1) := by decide +kernel
theorem dX4_read_88 : decode cX4_read 88 = .ok (.getfield 16, 3) := by decide +kernel
theorem dX4_read_91 : decode cX4_read 91 = .ok (.aload_n 0, 1) := by decide +kernel
theorem dX4_read_92 : decode cX4_read 92 = .ok (.getfield 38, 3) := by decide +kernel
theorem dX4_read_95 : decode cX4_read 95 = .ok (.iload_n 1, 1) := by decide +kernel
theorem dX4_read_96 : decode cX4_read 96 = .ok (.aaload, 1) := by decide +kernel
theorem dX4_read_97 : decode cX4_read 97 = .ok (.iload_n 2, 1) := by decide +kernel
theorem dX4_read_98 : decode cX4_read 98 = .ok (.invokevirtual 268, 3) := by decide +kernel
theorem dX4_read_101 : decode cX4_read 101 = .ok (.ifCond .eq 7, 3) := by decide +kernel
theorem dX4_read_104 : decode cX4_read 104 = .ok (.iconst 1, 1) := by decide +kernel
theorem dX4_read_105 : decode cX4_read 105 = .ok (.goto 4, 3) := by decide +kernel
theorem dX4_read_108 : decode cX4_read 108 = .ok (.iconst 0, 1) := by decide +kernel
theorem dX4_read_109 : decode cX4_read 109 = .ok (.iadd, 1) := by decide +kernel
theorem dX4_read_110 : decode cX4_read 110 = .ok (.istore 4, 2) := by decide +kernel
theorem dX4_read_112 : decode cX4_read 112 = .ok (.iinc 6 1, 3) := by decide +kernel
theorem dX4_read_115 : decode cX4_read 115 = .ok (.goto (-70), 3) := by decide +kernel
theorem dX4_read_118 : decode cX4_read 118 = .ok (.iinc 5 1, 3) := by decide +kernel
theorem dX4_read_121 : decode cX4_read 121 = .ok (.goto (-86), 3) := by decide +kernel
theorem dX4_read_124 : decode cX4_read 124 = .ok (.iload 4, 2) := by decide +kernel
theorem dX4_read_126 : decode cX4_read 126 = .ok (.ireturn, 1) := by decide +kernel
theorem dX4_image_0 : decode cX4_image 0 = .ok (.aload_n 0, 1) := by decide +kernel
theorem dX4_image_1 : decode cX4_image 1 = .ok (.getfield 19, 3) := by decide +kernel
theorem dX4_image_4 : decode cX4_image 4 = .ok (.aload_n 0, 1) := by decide +kernel
theorem dX4_image_5 : decode cX4_image 5 = .ok (.getfield 12, 3) := by decide +kernel
theorem dX4_image_8 : decode cX4_image 8 = .ok (.invokevirtual 163, 3) := by decide +kernel
theorem dX4_image_11 : decode cX4_image 11 = .ok (.aload_n 0, 1) := by decide +kernel
theorem dX4_image_12 : decode cX4_image 12 = .ok (.iconst 1, 1) := by decide +kernel
theorem dX4_image_13 : decode cX4_image 13 = .ok (.putfield 47, 3) := by decide +kernel
theorem dX4_image_16 : decode cX4_image 16 = .ok (.iconst 1, 1) := by decide +kernel
theorem dX4_image_17 : decode cX4_image 17 = .ok (.ireturn, 1) := by decide +kernel
theorem dX4_undo_0 : decode cX4_undo 0 = .ok (.aload_n 0, 1) := by decide +kernel
theorem dX4_undo_1 : decode cX4_undo 1 = .ok (.getfield 47, 3) := by decide +kernel
theorem dX4_undo_4 : decode cX4_undo 4 = .ok (.ifCond .ne 9, 3) := by decide +kernel
theorem dX4_undo_7 : decode cX4_undo 7 = .ok (.aload_n 0, 1) := by decide +kernel
theorem dX4_undo_8 : decode cX4_undo 8 = .ok (.iconst 3, 1) := by decide +kernel
theorem dX4_undo_9 : decode cX4_undo 9 = .ok (.invokevirtual 58, 3) := by decide +kernel
theorem dX4_undo_12 : decode cX4_undo 12 = .ok (.ireturn, 1) := by decide +kernel
theorem dX4_undo_13 : decode cX4_undo 13 = .ok (.aload_n 0, 1) := by decide +kernel
theorem dX4_undo_14 : decode cX4_undo 14 = .ok (.getfield 12, 3) := by decide +kernel
theorem dX4_undo_17 : decode cX4_undo 17 = .ok (.aload_n 0, 1) := by decide +kernel
theorem dX4_undo_18 : decode cX4_undo 18 = .ok (.getfield 19, 3) := by decide +kernel
theorem dX4_undo_21 : decode cX4_undo 21 = .ok (.invokevirtual 163, 3) := by decide +kernel
theorem dX4_undo_24 : decode cX4_undo 24 = .ok (.aload_n 0, 1) := by decide +kernel
theorem dX4_undo_25 : decode cX4_undo 25 = .ok (.getfield 12, 3) := by decide +kernel
theorem dX4_undo_28 : decode cX4_undo 28 = .ok (.getfield 272, 3) := by decide +kernel
theorem dX4_undo_31 : decode cX4_undo 31 = .ok (.ireturn, 1) := by decide +kernel
theorem dX4_tear_0 : decode cX4_tear 0 = .ok (.aload_n 0, 1) := by decide +kernel
theorem dX4_tear_1 : decode cX4_tear 1 = .ok (.getfield 47, 3) := by decide +kernel
theorem dX4_tear_4 : decode cX4_tear 4 = .ok (.ifCond .eq 7, 3) := by decide +kernel
theorem dX4_tear_7 : decode cX4_tear 7 = .ok (.iconst 1, 1) := by decide +kernel
theorem dX4_tear_8 : decode cX4_tear 8 = .ok (.goto 4, 3) := by decide +kernel
theorem dX4_tear_11 : decode cX4_tear 11 = .ok (.iconst 0, 1) := by decide +kernel
theorem dX4_tear_12 : decode cX4_tear 12 = .ok (.istore_n 1, 1) := by decide +kernel
theorem dX4_tear_13 : decode cX4_tear 13 = .ok (.aload_n 0, 1) := by decide +kernel
theorem dX4_tear_14 : decode cX4_tear 14 = .ok (.iconst 0, 1) := by decide +kernel
theorem dX4_tear_15 : decode cX4_tear 15 = .ok (.putfield 47, 3) := by decide +kernel
theorem dX4_tear_18 : decode cX4_tear 18 = .ok (.iload_n 1, 1) := by decide +kernel
theorem dX4_tear_19 : decode cX4_tear 19 = .ok (.ireturn, 1) := by decide +kernel
theorem dX4_count_0 : decode cX4_count 0 = .ok (.iload_n 1, 1) := by decide +kernel
theorem dX4_count_1 : decode cX4_count 1 = .ok (.tableswitch 66 0 3 #[31, 39, 47, 58], 31) := by decide +kernel
theorem dX4_count_32 : decode cX4_count 32 = .ok (.aload_n 0, 1) := by decide +kernel
theorem dX4_count_33 : decode cX4_count 33 = .ok (.getfield 12, 3) := by decide +kernel
theorem dX4_count_36 : decode cX4_count 36 = .ok (.getfield 272, 3) := by decide +kernel
theorem dX4_count_39 : decode cX4_count 39 = .ok (.ireturn, 1) := by decide +kernel
theorem dX4_count_40 : decode cX4_count 40 = .ok (.aload_n 0, 1) := by decide +kernel
theorem dX4_count_41 : decode cX4_count 41 = .ok (.getfield 32, 3) := by decide +kernel
theorem dX4_count_44 : decode cX4_count 44 = .ok (.getfield 220, 3) := by decide +kernel
theorem dX4_count_47 : decode cX4_count 47 = .ok (.ireturn, 1) := by decide +kernel
theorem dX4_count_48 : decode cX4_count 48 = .ok (.aload_n 0, 1) := by decide +kernel
theorem dX4_count_49 : decode cX4_count 49 = .ok (.getfield 12, 3) := by decide +kernel
theorem dX4_count_52 : decode cX4_count 52 = .ok (.getfield 196, 3) := by decide +kernel
theorem dX4_count_55 : decode cX4_count 55 = .ok (.invokestatic 202, 3) := by decide +kernel
theorem dX4_count_58 : decode cX4_count 58 = .ok (.ireturn, 1) := by decide +kernel
theorem dX4_count_59 : decode cX4_count 59 = .ok (.aload_n 0, 1) := by decide +kernel
theorem dX4_count_60 : decode cX4_count 60 = .ok (.getfield 12, 3) := by decide +kernel
theorem dX4_count_63 : decode cX4_count 63 = .ok (.invokevirtual 275, 3) := by decide +kernel
theorem dX4_count_66 : decode cX4_count 66 = .ok (.ireturn, 1) := by decide +kernel
theorem dX4_count_67 : decode cX4_count 67 = .ok (.aload_n 0, 1) := by decide +kernel
theorem dX4_count_68 : decode cX4_count 68 = .ok (.iconst 0, 1) := by decide +kernel
theorem dX4_count_69 : decode cX4_count 69 = .ok (.invokevirtual 58, 3) := by decide +kernel
theorem dX4_count_72 : decode cX4_count 72 = .ok (.ireturn, 1) := by decide +kernel
theorem dX4_status_0 : decode cX4_status 0 = .ok (.iload_n 1, 1) := by decide +kernel
theorem dX4_status_1 : decode cX4_status 1 = .ok (.iconst (-1), 1) := by decide +kernel
theorem dX4_status_2 : decode cX4_status 2 = .ok (.if_icmp .ne 30, 3) := by decide +kernel
theorem dX4_status_5 : decode cX4_status 5 = .ok (.iconst 0, 1) := by decide +kernel
theorem dX4_status_6 : decode cX4_status 6 = .ok (.istore_n 2, 1) := by decide +kernel
theorem dX4_status_7 : decode cX4_status 7 = .ok (.iconst 0, 1) := by decide +kernel
theorem dX4_status_8 : decode cX4_status 8 = .ok (.istore_n 3, 1) := by decide +kernel
theorem dX4_status_9 : decode cX4_status 9 = .ok (.iload_n 3, 1) := by decide +kernel
theorem dX4_status_10 : decode cX4_status 10 = .ok (.bipush 7, 2) := by decide +kernel
theorem dX4_status_12 : decode cX4_status 12 = .ok (.if_icmp .ge 18, 3) := by decide +kernel
theorem dX4_status_15 : decode cX4_status 15 = .ok (.iload_n 2, 1) := by decide +kernel
theorem dX4_status_16 : decode cX4_status 16 = .ok (.aload_n 0, 1) := by decide +kernel
theorem dX4_status_17 : decode cX4_status 17 = .ok (.getfield 43, 3) := by decide +kernel
theorem dX4_status_20 : decode cX4_status 20 = .ok (.iload_n 3, 1) := by decide +kernel
theorem dX4_status_21 : decode cX4_status 21 = .ok (.iaload, 1) := by decide +kernel
theorem dX4_status_22 : decode cX4_status 22 = .ok (.iadd, 1) := by decide +kernel
theorem dX4_status_23 : decode cX4_status 23 = .ok (.istore_n 2, 1) := by decide +kernel
theorem dX4_status_24 : decode cX4_status 24 = .ok (.iinc 3 1, 3) := by decide +kernel
theorem dX4_status_27 : decode cX4_status 27 = .ok (.goto (-18), 3) := by decide +kernel
theorem dX4_status_30 : decode cX4_status 30 = .ok (.iload_n 2, 1) := by decide +kernel
theorem dX4_status_31 : decode cX4_status 31 = .ok (.ireturn, 1) := by decide +kernel
theorem dX4_status_32 : decode cX4_status 32 = .ok (.iload_n 1, 1) := by decide +kernel
theorem dX4_status_33 : decode cX4_status 33 = .ok (.bipush 7, 2) := by decide +kernel
theorem dX4_status_35 : decode cX4_status 35 = .ok (.invokestatic 69, 3) := by decide +kernel
theorem dX4_status_38 : decode cX4_status 38 = .ok (.ifCond .eq 12, 3) := by decide +kernel
theorem dX4_status_41 : decode cX4_status 41 = .ok (.aload_n 0, 1) := by decide +kernel
theorem dX4_status_42 : decode cX4_status 42 = .ok (.getfield 43, 3) := by decide +kernel
theorem dX4_status_45 : decode cX4_status 45 = .ok (.iload_n 1, 1) := by decide +kernel
theorem dX4_status_46 : decode cX4_status 46 = .ok (.iaload, 1) := by decide +kernel
theorem dX4_status_47 : decode cX4_status 47 = .ok (.goto 8, 3) := by decide +kernel
theorem dX4_status_50 : decode cX4_status 50 = .ok (.aload_n 0, 1) := by decide +kernel
theorem dX4_status_51 : decode cX4_status 51 = .ok (.iconst 0, 1) := by decide +kernel
theorem dX4_status_52 : decode cX4_status 52 = .ok (.invokevirtual 58, 3) := by decide +kernel
theorem dX4_status_55 : decode cX4_status 55 = .ok (.ireturn, 1) := by decide +kernel
theorem dX4_finding_0 : decode cX4_finding 0 = .ok (.aload_n 0, 1) := by decide +kernel
theorem dX4_finding_1 : decode cX4_finding 1 = .ok (.getfield 43, 3) := by decide +kernel
theorem dX4_finding_4 : decode cX4_finding 4 = .ok (.iload_n 1, 1) := by decide +kernel
theorem dX4_finding_5 : decode cX4_finding 5 = .ok (.dup2, 1) := by decide +kernel
theorem dX4_finding_6 : decode cX4_finding 6 = .ok (.iaload, 1) := by decide +kernel
theorem dX4_finding_7 : decode cX4_finding 7 = .ok (.iconst 1, 1) := by decide +kernel
theorem dX4_finding_8 : decode cX4_finding 8 = .ok (.iadd, 1) := by decide +kernel
theorem dX4_finding_9 : decode cX4_finding 9 = .ok (.iastore, 1) := by decide +kernel
theorem dX4_finding_10 : decode cX4_finding 10 = .ok (.ldc_w 278, 3) := by decide +kernel
theorem dX4_finding_13 : decode cX4_finding 13 = .ok (.iload_n 1, 1) := by decide +kernel
theorem dX4_finding_14 : decode cX4_finding 14 = .ok (.isub, 1) := by decide +kernel
theorem dX4_finding_15 : decode cX4_finding 15 = .ok (.ireturn, 1) := by decide +kernel
theorem dX4_askOfReader_0 : decode cX4_askOfReader 0 = .ok (.iload_n 1, 1) := by decide +kernel
theorem dX4_askOfReader_1 : decode cX4_askOfReader 1 = .ok (.invokestatic 51, 3) := by decide +kernel
theorem dX4_askOfReader_4 : decode cX4_askOfReader 4 = .ok (.ifCond .eq 10, 3) := by decide +kernel
theorem dX4_askOfReader_7 : decode cX4_askOfReader 7 = .ok (.iload_n 2, 1) := by decide +kernel
theorem dX4_askOfReader_8 : decode cX4_askOfReader 8 = .ok (.invokestatic 129, 3) := by decide +kernel
theorem dX4_askOfReader_11 : decode cX4_askOfReader 11 = .ok (.ifCond .ne 9, 3) := by decide +kernel
theorem dX4_askOfReader_14 : decode cX4_askOfReader 14 = .ok (.aload_n 0, 1) := by decide +kernel
theorem dX4_askOfReader_15 : decode cX4_askOfReader 15 = .ok (.iconst 0, 1) := by decide +kernel
theorem dX4_askOfReader_16 : decode cX4_askOfReader 16 = .ok (.invokevirtual 58, 3) := by decide +kernel
theorem dX4_askOfReader_19 : decode cX4_askOfReader 19 = .ok (.ireturn, 1) := by decide +kernel
theorem dX4_askOfReader_20 : decode cX4_askOfReader 20 = .ok (.aload_n 0, 1) := by decide +kernel
theorem dX4_askOfReader_21 : decode cX4_askOfReader 21 = .ok (.getfield 12, 3) := by decide +kernel
theorem dX4_askOfReader_24 : decode cX4_askOfReader 24 = .ok (.iload_n 1, 1) := by decide +kernel
theorem dX4_askOfReader_25 : decode cX4_askOfReader 25 = .ok (.invokevirtual 62, 3) := by decide +kernel
theorem dX4_askOfReader_28 : decode cX4_askOfReader 28 = .ok (.ifCond .eq 11, 3) := by decide +kernel
theorem dX4_askOfReader_31 : decode cX4_askOfReader 31 = .ok (.aload_n 0, 1) := by decide +kernel
theorem dX4_askOfReader_32 : decode cX4_askOfReader 32 = .ok (.iconst 4, 1) := by decide +kernel
theorem dX4_askOfReader_33 : decode cX4_askOfReader 33 = .ok (.invokevirtual 58, 3) := by decide +kernel
theorem dX4_askOfReader_36 : decode cX4_askOfReader 36 = .ok (.goto 4, 3) := by decide +kernel
theorem dX4_askOfReader_39 : decode cX4_askOfReader 39 = .ok (.iconst 0, 1) := by decide +kernel
theorem dX4_askOfReader_40 : decode cX4_askOfReader 40 = .ok (.ireturn, 1) := by decide +kernel
theorem dX4_askOfSheet_0 : decode cX4_askOfSheet 0 = .ok (.iload_n 1, 1) := by decide +kernel
theorem dX4_askOfSheet_1 : decode cX4_askOfSheet 1 = .ok (.iconst 4, 1) := by decide +kernel
theorem dX4_askOfSheet_2 : decode cX4_askOfSheet 2 = .ok (.invokestatic 69, 3) := by decide +kernel
theorem dX4_askOfSheet_5 : decode cX4_askOfSheet 5 = .ok (.ifCond .ne 9, 3) := by decide +kernel
theorem dX4_askOfSheet_8 : decode cX4_askOfSheet 8 = .ok (.aload_n 0, 1) := by decide +kernel
theorem dX4_askOfSheet_9 : decode cX4_askOfSheet 9 = .ok (.iconst 0, 1) := by decide +kernel
theorem dX4_askOfSheet_10 : decode cX4_askOfSheet 10 = .ok (.invokevirtual 58, 3) := by decide +kernel
theorem dX4_askOfSheet_13 : decode cX4_askOfSheet 13 = .ok (.ireturn, 1) := by decide +kernel
theorem dX4_askOfSheet_14 : decode cX4_askOfSheet 14 = .ok (.aload_n 0, 1) := by decide +kernel
theorem dX4_askOfSheet_15 : decode cX4_askOfSheet 15 = .ok (.getfield 38, 3) := by decide +kernel
theorem dX4_askOfSheet_18 : decode cX4_askOfSheet 18 = .ok (.iload_n 1, 1) := by decide +kernel
theorem dX4_askOfSheet_19 : decode cX4_askOfSheet 19 = .ok (.aaload, 1) := by decide +kernel
theorem dX4_askOfSheet_20 : decode cX4_askOfSheet 20 = .ok (.invokevirtual 246, 3) := by decide +kernel
theorem dX4_askOfSheet_23 : decode cX4_askOfSheet 23 = .ok (.ifCond .eq 11, 3) := by decide +kernel
theorem dX4_askOfSheet_26 : decode cX4_askOfSheet 26 = .ok (.aload_n 0, 1) := by decide +kernel
theorem dX4_askOfSheet_27 : decode cX4_askOfSheet 27 = .ok (.iconst 5, 1) := by decide +kernel
theorem dX4_askOfSheet_28 : decode cX4_askOfSheet 28 = .ok (.invokevirtual 58, 3) := by decide +kernel
theorem dX4_askOfSheet_31 : decode cX4_askOfSheet 31 = .ok (.goto 4, 3) := by decide +kernel
theorem dX4_askOfSheet_34 : decode cX4_askOfSheet 34 = .ok (.iconst 0, 1) := by decide +kernel
theorem dX4_askOfSheet_35 : decode cX4_askOfSheet 35 = .ok (.ireturn, 1) := by decide +kernel
theorem dX4_hoursOrNone_0 : decode cX4_hoursOrNone 0 = .ok (.iload_n 1, 1) := by decide +kernel
theorem dX4_hoursOrNone_1 : decode cX4_hoursOrNone 1 = .ok (.iconst (-1), 1) := by decide +kernel
theorem dX4_hoursOrNone_2 : decode cX4_hoursOrNone 2 = .ok (.if_icmp .ne 11, 3) := by decide +kernel
theorem dX4_hoursOrNone_5 : decode cX4_hoursOrNone 5 = .ok (.aload_n 0, 1) := by decide +kernel
theorem dX4_hoursOrNone_6 : decode cX4_hoursOrNone 6 = .ok (.iconst 3, 1) := by decide +kernel
theorem dX4_hoursOrNone_7 : decode cX4_hoursOrNone 7 = .ok (.invokevirtual 58, 3) := by decide +kernel
theorem dX4_hoursOrNone_10 : decode cX4_hoursOrNone 10 = .ok (.goto 4, 3) := by decide +kernel
theorem dX4_hoursOrNone_13 : decode cX4_hoursOrNone 13 = .ok (.iload_n 1, 1) := by decide +kernel
theorem dX4_hoursOrNone_14 : decode cX4_hoursOrNone 14 = .ok (.ireturn, 1) := by decide +kernel
theorem dX4_placeOrNone_0 : decode cX4_placeOrNone 0 = .ok (.iload_n 1, 1) := by decide +kernel
theorem dX4_placeOrNone_1 : decode cX4_placeOrNone 1 = .ok (.iconst (-1), 1) := by decide +kernel
theorem dX4_placeOrNone_2 : decode cX4_placeOrNone 2 = .ok (.if_icmp .ne 11, 3) := by decide +kernel
theorem dX4_placeOrNone_5 : decode cX4_placeOrNone 5 = .ok (.aload_n 0, 1) := by decide +kernel
theorem dX4_placeOrNone_6 : decode cX4_placeOrNone 6 = .ok (.iconst 3, 1) := by decide +kernel
theorem dX4_placeOrNone_7 : decode cX4_placeOrNone 7 = .ok (.invokevirtual 58, 3) := by decide +kernel
theorem dX4_placeOrNone_10 : decode cX4_placeOrNone 10 = .ok (.goto 13, 3) := by decide +kernel
theorem dX4_placeOrNone_13 : decode cX4_placeOrNone 13 = .ok (.aload_n 0, 1) := by decide +kernel
theorem dX4_placeOrNone_14 : decode cX4_placeOrNone 14 = .ok (.getfield 25, 3) := by decide +kernel
theorem dX4_placeOrNone_17 : decode cX4_placeOrNone 17 = .ok (.getfield 279, 3) := by decide +kernel
theorem dX4_placeOrNone_20 : decode cX4_placeOrNone 20 = .ok (.invokestatic 282, 3) := by decide +kernel
theorem dX4_placeOrNone_23 : decode cX4_placeOrNone 23 = .ok (.ireturn, 1) := by decide +kernel
theorem dX4_areTwo_0 : decode cX4_areTwo 0 = .ok (.aload_n 0, 1) := by decide +kernel
theorem dX4_areTwo_1 : decode cX4_areTwo 1 = .ok (.getfield 12, 3) := by decide +kernel
theorem dX4_areTwo_4 : decode cX4_areTwo 4 = .ok (.iload_n 1, 1) := by decide +kernel
theorem dX4_areTwo_5 : decode cX4_areTwo 5 = .ok (.invokevirtual 101, 3) := by decide +kernel
theorem dX4_areTwo_8 : decode cX4_areTwo 8 = .ok (.ifCond .eq 23, 3) := by decide +kernel
theorem dX4_areTwo_11 : decode cX4_areTwo 11 = .ok (.aload_n 0, 1) := by decide +kernel
theorem dX4_areTwo_12 : decode cX4_areTwo 12 = .ok (.getfield 12, 3) := by decide +kernel
theorem dX4_areTwo_15 : decode cX4_areTwo 15 = .ok (.iload_n 2, 1) := by decide +kernel
theorem dX4_areTwo_16 : decode cX4_areTwo 16 = .ok (.invokevirtual 101, 3) := by decide +kernel
theorem dX4_areTwo_19 : decode cX4_areTwo 19 = .ok (.ifCond .eq 12, 3) := by decide +kernel
theorem dX4_areTwo_22 : decode cX4_areTwo 22 = .ok (.iload_n 1, 1) := by decide +kernel
theorem dX4_areTwo_23 : decode cX4_areTwo 23 = .ok (.iload_n 2, 1) := by decide +kernel
theorem dX4_areTwo_24 : decode cX4_areTwo 24 = .ok (.if_icmp .eq 7, 3) := by decide +kernel
theorem dX4_areTwo_27 : decode cX4_areTwo 27 = .ok (.iconst 1, 1) := by decide +kernel
theorem dX4_areTwo_28 : decode cX4_areTwo 28 = .ok (.goto 4, 3) := by decide +kernel
theorem dX4_areTwo_31 : decode cX4_areTwo 31 = .ok (.iconst 0, 1) := by decide +kernel
theorem dX4_areTwo_32 : decode cX4_areTwo 32 = .ok (.ireturn, 1) := by decide +kernel
theorem dX4_bestTipped_0 : decode cX4_bestTipped 0 = .ok (.aload_n 0, 1) := by decide +kernel
theorem dX4_bestTipped_1 : decode cX4_bestTipped 1 = .ok (.getfield 25, 3) := by decide +kernel
theorem dX4_bestTipped_4 : decode cX4_bestTipped 4 = .ok (.iload_n 1, 1) := by decide +kernel
theorem dX4_bestTipped_5 : decode cX4_bestTipped 5 = .ok (.aload_n 0, 1) := by decide +kernel
theorem dX4_bestTipped_6 : decode cX4_bestTipped 6 = .ok (.getfield 12, 3) := by decide +kernel
theorem dX4_bestTipped_9 : decode cX4_bestTipped 9 = .ok (.invokevirtual 183, 3) := by decide +kernel
theorem dX4_bestTipped_12 : decode cX4_bestTipped 12 = .ok (.aload_n 0, 1) := by decide +kernel
theorem dX4_bestTipped_13 : decode cX4_bestTipped 13 = .ok (.getfield 25, 3) := by decide +kernel
theorem dX4_bestTipped_16 : decode cX4_bestTipped 16 = .ok (.iload_n 2, 1) := by decide +kernel
theorem dX4_bestTipped_17 : decode cX4_bestTipped 17 = .ok (.bipush 48, 2) := by decide +kernel
theorem dX4_bestTipped_19 : decode cX4_bestTipped 19 = .ok (.invokevirtual 187, 3) := by decide +kernel
theorem dX4_bestTipped_22 : decode cX4_bestTipped 22 = .ok (.istore_n 3, 1) := by decide +kernel
theorem dX4_bestTipped_23 : decode cX4_bestTipped 23 = .ok (.iload_n 3, 1) := by decide +kernel
theorem dX4_bestTipped_24 : decode cX4_bestTipped 24 = .ok (.iconst (-1), 1) := by decide +kernel
theorem dX4_bestTipped_25 : decode cX4_bestTipped 25 = .ok (.if_icmp .ne 6, 3) := by decide +kernel
theorem dX4_bestTipped_28 : decode cX4_bestTipped 28 = .ok (.bipush 49, 2) := by decide +kernel
theorem dX4_bestTipped_30 : decode cX4_bestTipped 30 = .ok (.istore_n 3, 1) := by decide +kernel
theorem dX4_bestTipped_31 : decode cX4_bestTipped 31 = .ok (.iconst (-1), 1) := by decide +kernel
theorem dX4_bestTipped_32 : decode cX4_bestTipped 32 = .ok (.istore 4, 2) := by decide +kernel
theorem dX4_bestTipped_34 : decode cX4_bestTipped 34 = .ok (.iconst 0, 1) := by decide +kernel
theorem dX4_bestTipped_35 : decode cX4_bestTipped 35 = .ok (.istore 5, 2) := by decide +kernel
theorem dX4_bestTipped_37 : decode cX4_bestTipped 37 = .ok (.iload 5, 2) := by decide +kernel
theorem dX4_bestTipped_39 : decode cX4_bestTipped 39 = .ok (.aload_n 0, 1) := by decide +kernel
theorem dX4_bestTipped_40 : decode cX4_bestTipped 40 = .ok (.getfield 12, 3) := by decide +kernel
theorem dX4_bestTipped_43 : decode cX4_bestTipped 43 = .ok (.getfield 272, 3) := by decide +kernel
theorem dX4_bestTipped_46 : decode cX4_bestTipped 46 = .ok (.if_icmp .ge 77, 3) := by decide +kernel
theorem dX4_bestTipped_49 : decode cX4_bestTipped 49 = .ok (.aload_n 0, 1) := by decide +kernel
theorem dX4_bestTipped_50 : decode cX4_bestTipped 50 = .ok (.getfield 12, 3) := by decide +kernel
theorem dX4_bestTipped_53 : decode cX4_bestTipped 53 = .ok (.getfield 113, 3) := by decide +kernel
theorem dX4_bestTipped_56 : decode cX4_bestTipped 56 = .ok (.iload 5, 2) := by decide +kernel
theorem dX4_bestTipped_58 : decode cX4_bestTipped 58 = .ok (.baload, 1) := by decide +kernel
theorem dX4_bestTipped_59 : decode cX4_bestTipped 59 = .ok (.ifCond .eq 6, 3) := by decide +kernel
theorem dX4_bestTipped_62 : decode cX4_bestTipped 62 = .ok (.goto 55, 3) := by decide +kernel
theorem dX4_bestTipped_65 : decode cX4_bestTipped 65 = .ok (.aload_n 0, 1) := by decide +kernel
theorem dX4_bestTipped_66 : decode cX4_bestTipped 66 = .ok (.getfield 25, 3) := by decide +kernel
theorem dX4_bestTipped_69 : decode cX4_bestTipped 69 = .ok (.iload_n 1, 1) := by decide +kernel
theorem dX4_bestTipped_70 : decode cX4_bestTipped 70 = .ok (.aload_n 0, 1) := by decide +kernel
theorem dX4_bestTipped_71 : decode cX4_bestTipped 71 = .ok (.getfield 12, 3) := by decide +kernel
theorem dX4_bestTipped_74 : decode cX4_bestTipped 74 = .ok (.invokevirtual 183, 3) := by decide +kernel
theorem dX4_bestTipped_77 : decode cX4_bestTipped 77 = .ok (.aload_n 0, 1) := by decide +kernel
theorem dX4_bestTipped_78 : decode cX4_bestTipped 78 = .ok (.getfield 25, 3) := by decide +kernel
theorem dX4_bestTipped_81 : decode cX4_bestTipped 81 = .ok (.getfield 210, 3) := by decide +kernel
theorem dX4_bestTipped_84 : decode cX4_bestTipped 84 = .ok (.getfield 113, 3) := by decide +kernel
theorem dX4_bestTipped_87 : decode cX4_bestTipped 87 = .ok (.iload 5, 2) := by decide +kernel
theorem dX4_bestTipped_89 : decode cX4_bestTipped 89 = .ok (.iconst 1, 1) := by decide +kernel
theorem dX4_bestTipped_90 : decode cX4_bestTipped 90 = .ok (.bastore, 1) := by decide +kernel
theorem dX4_bestTipped_91 : decode cX4_bestTipped 91 = .ok (.aload_n 0, 1) := by decide +kernel
theorem dX4_bestTipped_92 : decode cX4_bestTipped 92 = .ok (.getfield 25, 3) := by decide +kernel
theorem dX4_bestTipped_95 : decode cX4_bestTipped 95 = .ok (.iload_n 2, 1) := by decide +kernel
theorem dX4_bestTipped_96 : decode cX4_bestTipped 96 = .ok (.iload_n 3, 1) := by decide +kernel
theorem dX4_bestTipped_97 : decode cX4_bestTipped 97 = .ok (.iconst 1, 1) := by decide +kernel
theorem dX4_bestTipped_98 : decode cX4_bestTipped 98 = .ok (.isub, 1) := by decide +kernel
theorem dX4_bestTipped_99 : decode cX4_bestTipped 99 = .ok (.invokevirtual 187, 3) := by decide +kernel
theorem dX4_bestTipped_102 : decode cX4_bestTipped 102 = .ok (.istore 6, 2) := by decide +kernel
theorem dX4_bestTipped_104 : decode cX4_bestTipped 104 = .ok (.iload 6, 2) := by decide +kernel
theorem dX4_bestTipped_106 : decode cX4_bestTipped 106 = .ok (.iconst (-1), 1) := by decide +kernel
theorem dX4_bestTipped_107 : decode cX4_bestTipped 107 = .ok (.if_icmp .eq 10, 3) := by decide +kernel
theorem dX4_bestTipped_110 : decode cX4_bestTipped 110 = .ok (.iload 6, 2) := by decide +kernel
theorem dX4_bestTipped_112 : decode cX4_bestTipped 112 = .ok (.istore_n 3, 1) := by decide +kernel
theorem dX4_bestTipped_113 : decode cX4_bestTipped 113 = .ok (.iload 5, 2) := by decide +kernel
theorem dX4_bestTipped_115 : decode cX4_bestTipped 115 = .ok (.istore 4, 2) := by decide +kernel
theorem dX4_bestTipped_117 : decode cX4_bestTipped 117 = .ok (.iinc 5 1, 3) := by decide +kernel
theorem dX4_bestTipped_120 : decode cX4_bestTipped 120 = .ok (.goto (-83), 3) := by decide +kernel
theorem dX4_bestTipped_123 : decode cX4_bestTipped 123 = .ok (.iload 4, 2) := by decide +kernel
theorem dX4_bestTipped_125 : decode cX4_bestTipped 125 = .ok (.ireturn, 1) := by decide +kernel
theorem dX4_bestSpring_0 : decode cX4_bestSpring 0 = .ok (.bipush 49, 2) := by decide +kernel
theorem dX4_bestSpring_2 : decode cX4_bestSpring 2 = .ok (.istore_n 3, 1) := by decide +kernel
theorem dX4_bestSpring_3 : decode cX4_bestSpring 3 = .ok (.iconst (-1), 1) := by decide +kernel
theorem dX4_bestSpring_4 : decode cX4_bestSpring 4 = .ok (.istore 4, 2) := by decide +kernel
theorem dX4_bestSpring_6 : decode cX4_bestSpring 6 = .ok (.iconst 0, 1) := by decide +kernel
theorem dX4_bestSpring_7 : decode cX4_bestSpring 7 = .ok (.istore 5, 2) := by decide +kernel
theorem dX4_bestSpring_9 : decode cX4_bestSpring 9 = .ok (.iload 5, 2) := by decide +kernel
theorem dX4_bestSpring_11 : decode cX4_bestSpring 11 = .ok (.bipush 30, 2) := by decide +kernel
theorem dX4_bestSpring_13 : decode cX4_bestSpring 13 = .ok (.if_icmp .ge 76, 3) := by decide +kernel
theorem dX4_bestSpring_16 : decode cX4_bestSpring 16 = .ok (.aload_n 0, 1) := by decide +kernel
theorem dX4_bestSpring_17 : decode cX4_bestSpring 17 = .ok (.getfield 12, 3) := by decide +kernel
theorem dX4_bestSpring_20 : decode cX4_bestSpring 20 = .ok (.iload 5, 2) := by decide +kernel
theorem dX4_bestSpring_22 : decode cX4_bestSpring 22 = .ok (.invokevirtual 62, 3) := by decide +kernel
theorem dX4_bestSpring_25 : decode cX4_bestSpring 25 = .ok (.ifCond .eq 6, 3) := by decide +kernel
theorem dX4_bestSpring_28 : decode cX4_bestSpring 28 = .ok (.goto 55, 3) := by decide +kernel
theorem dX4_bestSpring_31 : decode cX4_bestSpring 31 = .ok (.aload_n 0, 1) := by decide +kernel
theorem dX4_bestSpring_32 : decode cX4_bestSpring 32 = .ok (.getfield 25, 3) := by decide +kernel
theorem dX4_bestSpring_35 : decode cX4_bestSpring 35 = .ok (.iload_n 1, 1) := by decide +kernel
theorem dX4_bestSpring_36 : decode cX4_bestSpring 36 = .ok (.aload_n 0, 1) := by decide +kernel
theorem dX4_bestSpring_37 : decode cX4_bestSpring 37 = .ok (.getfield 12, 3) := by decide +kernel
theorem dX4_bestSpring_40 : decode cX4_bestSpring 40 = .ok (.invokevirtual 183, 3) := by decide +kernel
theorem dX4_bestSpring_43 : decode cX4_bestSpring 43 = .ok (.aload_n 0, 1) := by decide +kernel
theorem dX4_bestSpring_44 : decode cX4_bestSpring 44 = .ok (.getfield 25, 3) := by decide +kernel
theorem dX4_bestSpring_47 : decode cX4_bestSpring 47 = .ok (.getfield 210, 3) := by decide +kernel
theorem dX4_bestSpring_50 : decode cX4_bestSpring 50 = .ok (.getfield 73, 3) := by decide +kernel
theorem dX4_bestSpring_53 : decode cX4_bestSpring 53 = .ok (.iconst 0, 1) := by decide +kernel
theorem dX4_bestSpring_54 : decode cX4_bestSpring 54 = .ok (.iload 5, 2) := by decide +kernel
theorem dX4_bestSpring_56 : decode cX4_bestSpring 56 = .ok (.iastore, 1) := by decide +kernel
theorem dX4_bestSpring_57 : decode cX4_bestSpring 57 = .ok (.aload_n 0, 1) := by decide +kernel
theorem dX4_bestSpring_58 : decode cX4_bestSpring 58 = .ok (.getfield 25, 3) := by decide +kernel
theorem dX4_bestSpring_61 : decode cX4_bestSpring 61 = .ok (.iload_n 2, 1) := by decide +kernel
theorem dX4_bestSpring_62 : decode cX4_bestSpring 62 = .ok (.iload_n 3, 1) := by decide +kernel
theorem dX4_bestSpring_63 : decode cX4_bestSpring 63 = .ok (.iconst 1, 1) := by decide +kernel
theorem dX4_bestSpring_64 : decode cX4_bestSpring 64 = .ok (.isub, 1) := by decide +kernel
theorem dX4_bestSpring_65 : decode cX4_bestSpring 65 = .ok (.invokevirtual 187, 3) := by decide +kernel
theorem dX4_bestSpring_68 : decode cX4_bestSpring 68 = .ok (.istore 6, 2) := by decide +kernel
theorem dX4_bestSpring_70 : decode cX4_bestSpring 70 = .ok (.iload 6, 2) := by decide +kernel
theorem dX4_bestSpring_72 : decode cX4_bestSpring 72 = .ok (.iconst (-1), 1) := by decide +kernel
theorem dX4_bestSpring_73 : decode cX4_bestSpring 73 = .ok (.if_icmp .eq 10, 3) := by decide +kernel
theorem dX4_bestSpring_76 : decode cX4_bestSpring 76 = .ok (.iload 6, 2) := by decide +kernel
theorem dX4_bestSpring_78 : decode cX4_bestSpring 78 = .ok (.istore_n 3, 1) := by decide +kernel
theorem dX4_bestSpring_79 : decode cX4_bestSpring 79 = .ok (.iload 5, 2) := by decide +kernel
theorem dX4_bestSpring_81 : decode cX4_bestSpring 81 = .ok (.istore 4, 2) := by decide +kernel
theorem dX4_bestSpring_83 : decode cX4_bestSpring 83 = .ok (.iinc 5 1, 3) := by decide +kernel
theorem dX4_bestSpring_86 : decode cX4_bestSpring 86 = .ok (.goto (-77), 3) := by decide +kernel
theorem dX4_bestSpring_89 : decode cX4_bestSpring 89 = .ok (.iload 4, 2) := by decide +kernel
theorem dX4_bestSpring_91 : decode cX4_bestSpring 91 = .ok (.ireturn, 1) := by decide +kernel
theorem dX4_bestKind_0 : decode cX4_bestKind 0 = .ok (.bipush 73, 2) := by decide +kernel
theorem dX4_bestKind_2 : decode cX4_bestKind 2 = .ok (.istore_n 3, 1) := by decide +kernel
theorem dX4_bestKind_3 : decode cX4_bestKind 3 = .ok (.iconst (-1), 1) := by decide +kernel
theorem dX4_bestKind_4 : decode cX4_bestKind 4 = .ok (.istore 4, 2) := by decide +kernel
theorem dX4_bestKind_6 : decode cX4_bestKind 6 = .ok (.iconst 0, 1) := by decide +kernel
theorem dX4_bestKind_7 : decode cX4_bestKind 7 = .ok (.istore 5, 2) := by decide +kernel
theorem dX4_bestKind_9 : decode cX4_bestKind 9 = .ok (.iload 5, 2) := by decide +kernel
theorem dX4_bestKind_11 : decode cX4_bestKind 11 = .ok (.bipush 6, 2) := by decide +kernel
theorem dX4_bestKind_13 : decode cX4_bestKind 13 = .ok (.if_icmp .ge 58, 3) := by decide +kernel
theorem dX4_bestKind_16 : decode cX4_bestKind 16 = .ok (.aload_n 0, 1) := by decide +kernel
theorem dX4_bestKind_17 : decode cX4_bestKind 17 = .ok (.getfield 16, 3) := by decide +kernel
theorem dX4_bestKind_20 : decode cX4_bestKind 20 = .ok (.aload_n 0, 1) := by decide +kernel
theorem dX4_bestKind_21 : decode cX4_bestKind 21 = .ok (.getfield 12, 3) := by decide +kernel
theorem dX4_bestKind_24 : decode cX4_bestKind 24 = .ok (.invokevirtual 163, 3) := by decide +kernel
theorem dX4_bestKind_27 : decode cX4_bestKind 27 = .ok (.aload_n 0, 1) := by decide +kernel
theorem dX4_bestKind_28 : decode cX4_bestKind 28 = .ok (.getfield 16, 3) := by decide +kernel
theorem dX4_bestKind_31 : decode cX4_bestKind 31 = .ok (.getfield 104, 3) := by decide +kernel
theorem dX4_bestKind_34 : decode cX4_bestKind 34 = .ok (.iload_n 1, 1) := by decide +kernel
theorem dX4_bestKind_35 : decode cX4_bestKind 35 = .ok (.iload 5, 2) := by decide +kernel
theorem dX4_bestKind_37 : decode cX4_bestKind 37 = .ok (.iastore, 1) := by decide +kernel
theorem dX4_bestKind_38 : decode cX4_bestKind 38 = .ok (.aload_n 0, 1) := by decide +kernel
theorem dX4_bestKind_39 : decode cX4_bestKind 39 = .ok (.getfield 16, 3) := by decide +kernel
theorem dX4_bestKind_42 : decode cX4_bestKind 42 = .ok (.iload_n 1, 1) := by decide +kernel
theorem dX4_bestKind_43 : decode cX4_bestKind 43 = .ok (.iload_n 2, 1) := by decide +kernel
theorem dX4_bestKind_44 : decode cX4_bestKind 44 = .ok (.iload_n 3, 1) := by decide +kernel
theorem dX4_bestKind_45 : decode cX4_bestKind 45 = .ok (.iconst 1, 1) := by decide +kernel
theorem dX4_bestKind_46 : decode cX4_bestKind 46 = .ok (.isub, 1) := by decide +kernel
theorem dX4_bestKind_47 : decode cX4_bestKind 47 = .ok (.invokevirtual 167, 3) := by decide +kernel
theorem dX4_bestKind_50 : decode cX4_bestKind 50 = .ok (.istore 6, 2) := by decide +kernel
theorem dX4_bestKind_52 : decode cX4_bestKind 52 = .ok (.iload 6, 2) := by decide +kernel
theorem dX4_bestKind_54 : decode cX4_bestKind 54 = .ok (.iconst (-1), 1) := by decide +kernel
theorem dX4_bestKind_55 : decode cX4_bestKind 55 = .ok (.if_icmp .eq 10, 3) := by decide +kernel
theorem dX4_bestKind_58 : decode cX4_bestKind 58 = .ok (.iload 6, 2) := by decide +kernel
theorem dX4_bestKind_60 : decode cX4_bestKind 60 = .ok (.istore_n 3, 1) := by decide +kernel
theorem dX4_bestKind_61 : decode cX4_bestKind 61 = .ok (.iload 5, 2) := by decide +kernel
theorem dX4_bestKind_63 : decode cX4_bestKind 63 = .ok (.istore 4, 2) := by decide +kernel
theorem dX4_bestKind_65 : decode cX4_bestKind 65 = .ok (.iinc 5 1, 3) := by decide +kernel
theorem dX4_bestKind_68 : decode cX4_bestKind 68 = .ok (.goto (-59), 3) := by decide +kernel
theorem dX4_bestKind_71 : decode cX4_bestKind 71 = .ok (.iload 4, 2) := by decide +kernel
theorem dX4_bestKind_73 : decode cX4_bestKind 73 = .ok (.ireturn, 1) := by decide +kernel
theorem dX4_laysBooks_0 : decode cX4_laysBooks 0 = .ok (.iconst 0, 1) := by decide +kernel
theorem dX4_laysBooks_1 : decode cX4_laysBooks 1 = .ok (.istore_n 2, 1) := by decide +kernel
theorem dX4_laysBooks_2 : decode cX4_laysBooks 2 = .ok (.iconst 0, 1) := by decide +kernel
theorem dX4_laysBooks_3 : decode cX4_laysBooks 3 = .ok (.istore_n 3, 1) := by decide +kernel
theorem dX4_laysBooks_4 : decode cX4_laysBooks 4 = .ok (.iload_n 3, 1) := by decide +kernel
theorem dX4_laysBooks_5 : decode cX4_laysBooks 5 = .ok (.aload_n 1, 1) := by decide +kernel
theorem dX4_laysBooks_6 : decode cX4_laysBooks 6 = .ok (.getfield 234, 3) := by decide +kernel
theorem dX4_laysBooks_9 : decode cX4_laysBooks 9 = .ok (.if_icmp .ge 59, 3) := by decide +kernel
theorem dX4_laysBooks_12 : decode cX4_laysBooks 12 = .ok (.iload_n 3, 1) := by decide +kernel
theorem dX4_laysBooks_13 : decode cX4_laysBooks 13 = .ok (.aload_n 0, 1) := by decide +kernel
theorem dX4_laysBooks_14 : decode cX4_laysBooks 14 = .ok (.getfield 12, 3) := by decide +kernel
theorem dX4_laysBooks_17 : decode cX4_laysBooks 17 = .ok (.getfield 272, 3) := by decide +kernel
theorem dX4_laysBooks_20 : decode cX4_laysBooks 20 = .ok (.if_icmp .ge 48, 3) := by decide +kernel
theorem dX4_laysBooks_23 : decode cX4_laysBooks 23 = .ok (.aload_n 1, 1) := by decide +kernel
theorem dX4_laysBooks_24 : decode cX4_laysBooks 24 = .ok (.getfield 238, 3) := by decide +kernel
theorem dX4_laysBooks_27 : decode cX4_laysBooks 27 = .ok (.iload_n 3, 1) := by decide +kernel
theorem dX4_laysBooks_28 : decode cX4_laysBooks 28 = .ok (.laload, 1) := by decide +kernel
theorem dX4_laysBooks_29 : decode cX4_laysBooks 29 = .ok (.lstore 4, 2) := by decide +kernel
theorem dX4_laysBooks_31 : decode cX4_laysBooks 31 = .ok (.lload 4, 2) := by decide +kernel
theorem dX4_laysBooks_33 : decode cX4_laysBooks 33 = .ok (.lconst 0, 1) := by decide +kernel
theorem dX4_laysBooks_34 : decode cX4_laysBooks 34 = .ok (.lcmp, 1) := by decide +kernel
theorem dX4_laysBooks_35 : decode cX4_laysBooks 35 = .ok (.ifCond .lt 27, 3) := by decide +kernel
theorem dX4_laysBooks_38 : decode cX4_laysBooks 38 = .ok (.lload 4, 2) := by decide +kernel
theorem dX4_laysBooks_40 : decode cX4_laysBooks 40 = .ok (.ldc2_w 285, 3) := by decide +kernel
theorem dX4_laysBooks_43 : decode cX4_laysBooks 43 = .ok (.lcmp, 1) := by decide +kernel
theorem dX4_laysBooks_44 : decode cX4_laysBooks 44 = .ok (.ifCond .gt 18, 3) := by decide +kernel
theorem dX4_laysBooks_47 : decode cX4_laysBooks 47 = .ok (.aload_n 0, 1) := by decide +kernel
theorem dX4_laysBooks_48 : decode cX4_laysBooks 48 = .ok (.getfield 12, 3) := by decide +kernel
theorem dX4_laysBooks_51 : decode cX4_laysBooks 51 = .ok (.getfield 110, 3) := by decide +kernel
theorem dX4_laysBooks_54 : decode cX4_laysBooks 54 = .ok (.iload_n 3, 1) := by decide +kernel
theorem dX4_laysBooks_55 : decode cX4_laysBooks 55 = .ok (.lload 4, 2) := by decide +kernel
theorem dX4_laysBooks_57 : decode cX4_laysBooks 57 = .ok (.l2i, 1) := by decide +kernel
theorem dX4_laysBooks_58 : decode cX4_laysBooks 58 = .ok (.iastore, 1) := by decide +kernel
theorem dX4_laysBooks_59 : decode cX4_laysBooks 59 = .ok (.iinc 2 1, 3) := by decide +kernel
theorem dX4_laysBooks_62 : decode cX4_laysBooks 62 = .ok (.iinc 3 1, 3) := by decide +kernel
theorem dX4_laysBooks_65 : decode cX4_laysBooks 65 = .ok (.goto (-61), 3) := by decide +kernel
theorem dX4_laysBooks_68 : decode cX4_laysBooks 68 = .ok (.iload_n 2, 1) := by decide +kernel
theorem dX4_laysBooks_69 : decode cX4_laysBooks 69 = .ok (.ireturn, 1) := by decide +kernel
theorem dX4_isBelow_0 : decode cX4_isBelow 0 = .ok (.iload_n 0, 1) := by decide +kernel
theorem dX4_isBelow_1 : decode cX4_isBelow 1 = .ok (.ifCond .lt 12, 3) := by decide +kernel
theorem dX4_isBelow_4 : decode cX4_isBelow 4 = .ok (.iload_n 0, 1) := by decide +kernel
theorem dX4_isBelow_5 : decode cX4_isBelow 5 = .ok (.iload_n 1, 1) := by decide +kernel
theorem dX4_isBelow_6 : decode cX4_isBelow 6 = .ok (.if_icmp .ge 7, 3) := by decide +kernel
theorem dX4_isBelow_9 : decode cX4_isBelow 9 = .ok (.iconst 1, 1) := by decide +kernel
theorem dX4_isBelow_10 : decode cX4_isBelow 10 = .ok (.goto 4, 3) := by decide +kernel
theorem dX4_isBelow_13 : decode cX4_isBelow 13 = .ok (.iconst 0, 1) := by decide +kernel
theorem dX4_isBelow_14 : decode cX4_isBelow 14 = .ok (.ireturn, 1) := by decide +kernel
theorem dX4_isCell_0 : decode cX4_isCell 0 = .ok (.iload_n 0, 1) := by decide +kernel
theorem dX4_isCell_1 : decode cX4_isCell 1 = .ok (.bipush 30, 2) := by decide +kernel
theorem dX4_isCell_3 : decode cX4_isCell 3 = .ok (.invokestatic 69, 3) := by decide +kernel
theorem dX4_isCell_6 : decode cX4_isCell 6 = .ok (.ireturn, 1) := by decide +kernel
theorem dX4_isSubject_0 : decode cX4_isSubject 0 = .ok (.iload_n 0, 1) := by decide +kernel
theorem dX4_isSubject_1 : decode cX4_isSubject 1 = .ok (.bipush 12, 2) := by decide +kernel
theorem dX4_isSubject_3 : decode cX4_isSubject 3 = .ok (.invokestatic 69, 3) := by decide +kernel
theorem dX4_isSubject_6 : decode cX4_isSubject 6 = .ok (.ireturn, 1) := by decide +kernel
theorem dX4_isKind_0 : decode cX4_isKind 0 = .ok (.iload_n 0, 1) := by decide +kernel
theorem dX4_isKind_1 : decode cX4_isKind 1 = .ok (.bipush 6, 2) := by decide +kernel
theorem dX4_isKind_3 : decode cX4_isKind 3 = .ok (.invokestatic 69, 3) := by decide +kernel
theorem dX4_isKind_6 : decode cX4_isKind 6 = .ok (.ireturn, 1) := by decide +kernel
theorem dX4_isFlag_0 : decode cX4_isFlag 0 = .ok (.iload_n 0, 1) := by decide +kernel
theorem dX4_isFlag_1 : decode cX4_isFlag 1 = .ok (.ifCond .eq 8, 3) := by decide +kernel
theorem dX4_isFlag_4 : decode cX4_isFlag 4 = .ok (.iload_n 0, 1) := by decide +kernel
theorem dX4_isFlag_5 : decode cX4_isFlag 5 = .ok (.iconst 1, 1) := by decide +kernel
theorem dX4_isFlag_6 : decode cX4_isFlag 6 = .ok (.if_icmp .ne 7, 3) := by decide +kernel
theorem dX4_isFlag_9 : decode cX4_isFlag 9 = .ok (.iconst 1, 1) := by decide +kernel
theorem dX4_isFlag_10 : decode cX4_isFlag 10 = .ok (.goto 4, 3) := by decide +kernel
theorem dX4_isFlag_13 : decode cX4_isFlag 13 = .ok (.iconst 0, 1) := by decide +kernel
theorem dX4_isFlag_14 : decode cX4_isFlag 14 = .ok (.ireturn, 1) := by decide +kernel
theorem dX4_isForeseen_0 : decode cX4_isForeseen 0 = .ok (.iload_n 0, 1) := by decide +kernel
theorem dX4_isForeseen_1 : decode cX4_isForeseen 1 = .ok (.ifCond .lt 13, 3) := by decide +kernel
theorem dX4_isForeseen_4 : decode cX4_isForeseen 4 = .ok (.iload_n 0, 1) := by decide +kernel
theorem dX4_isForeseen_5 : decode cX4_isForeseen 5 = .ok (.bipush 72, 2) := by decide +kernel
theorem dX4_isForeseen_7 : decode cX4_isForeseen 7 = .ok (.if_icmp .gt 7, 3) := by decide +kernel
theorem dX4_isForeseen_10 : decode cX4_isForeseen 10 = .ok (.iconst 1, 1) := by decide +kernel
theorem dX4_isForeseen_11 : decode cX4_isForeseen 11 = .ok (.goto 4, 3) := by decide +kernel
theorem dX4_isForeseen_14 : decode cX4_isForeseen 14 = .ok (.iconst 0, 1) := by decide +kernel
theorem dX4_isForeseen_15 : decode cX4_isForeseen 15 = .ok (.ireturn, 1) := by decide +kernel
theorem dX4_isSetOf_0 : decode cX4_isSetOf 0 = .ok (.iload_n 0, 1) := by decide +kernel
theorem dX4_isSetOf_1 : decode cX4_isSetOf 1 = .ok (.iload_n 1, 1) := by decide +kernel
theorem dX4_isSetOf_2 : decode cX4_isSetOf 2 = .ok (.iconst (-1), 1) := by decide +kernel
theorem dX4_isSetOf_3 : decode cX4_isSetOf 3 = .ok (.ixor, 1) := by decide +kernel
theorem dX4_isSetOf_4 : decode cX4_isSetOf 4 = .ok (.iand, 1) := by decide +kernel
theorem dX4_isSetOf_5 : decode cX4_isSetOf 5 = .ok (.ifCond .ne 7, 3) := by decide +kernel
theorem dX4_isSetOf_8 : decode cX4_isSetOf 8 = .ok (.iconst 1, 1) := by decide +kernel
theorem dX4_isSetOf_9 : decode cX4_isSetOf 9 = .ok (.goto 4, 3) := by decide +kernel
theorem dX4_isSetOf_12 : decode cX4_isSetOf 12 = .ok (.iconst 0, 1) := by decide +kernel
theorem dX4_isSetOf_13 : decode cX4_isSetOf 13 = .ok (.ireturn, 1) := by decide +kernel
theorem dX4_isUnder_0 : decode cX4_isUnder 0 = .ok (.iload_n 0, 1) := by decide +kernel
theorem dX4_isUnder_1 : decode cX4_isUnder 1 = .ok (.istore_n 2, 1) := by decide +kernel
theorem dX4_isUnder_2 : decode cX4_isUnder 2 = .ok (.iconst 0, 1) := by decide +kernel
theorem dX4_isUnder_3 : decode cX4_isUnder 3 = .ok (.istore_n 3, 1) := by decide +kernel
theorem dX4_isUnder_4 : decode cX4_isUnder 4 = .ok (.iload_n 3, 1) := by decide +kernel
theorem dX4_isUnder_5 : decode cX4_isUnder 5 = .ok (.bipush 6, 2) := by decide +kernel
theorem dX4_isUnder_7 : decode cX4_isUnder 7 = .ok (.if_icmp .ge 27, 3) := by decide +kernel
theorem dX4_isUnder_10 : decode cX4_isUnder 10 = .ok (.iload_n 2, 1) := by decide +kernel
theorem dX4_isUnder_11 : decode cX4_isUnder 11 = .ok (.iconst (-1), 1) := by decide +kernel
theorem dX4_isUnder_12 : decode cX4_isUnder 12 = .ok (.if_icmp .eq 22, 3) := by decide +kernel
theorem dX4_isUnder_15 : decode cX4_isUnder 15 = .ok (.iload_n 2, 1) := by decide +kernel
theorem dX4_isUnder_16 : decode cX4_isUnder 16 = .ok (.iload_n 1, 1) := by decide +kernel
theorem dX4_isUnder_17 : decode cX4_isUnder 17 = .ok (.if_icmp .ne 5, 3) := by decide +kernel
theorem dX4_isUnder_20 : decode cX4_isUnder 20 = .ok (.iconst 1, 1) := by decide +kernel
theorem dX4_isUnder_21 : decode cX4_isUnder 21 = .ok (.ireturn, 1) := by decide +kernel
theorem dX4_isUnder_22 : decode cX4_isUnder 22 = .ok (.getstatic 287, 3) := by decide +kernel
theorem dX4_isUnder_25 : decode cX4_isUnder 25 = .ok (.iload_n 2, 1) := by decide +kernel
theorem dX4_isUnder_26 : decode cX4_isUnder 26 = .ok (.iaload, 1) := by decide +kernel
theorem dX4_isUnder_27 : decode cX4_isUnder 27 = .ok (.istore_n 2, 1) := by decide +kernel
theorem dX4_isUnder_28 : decode cX4_isUnder 28 = .ok (.iinc 3 1, 3) := by decide +kernel
theorem dX4_isUnder_31 : decode cX4_isUnder 31 = .ok (.goto (-27), 3) := by decide +kernel
theorem dX4_isUnder_34 : decode cX4_isUnder 34 = .ok (.iconst 0, 1) := by decide +kernel
theorem dX4_isUnder_35 : decode cX4_isUnder 35 = .ok (.ireturn, 1) := by decide +kernel
theorem dX4_least_0 : decode cX4_least 0 = .ok (.iload_n 0, 1) := by decide +kernel
theorem dX4_least_1 : decode cX4_least 1 = .ok (.iload_n 0, 1) := by decide +kernel
theorem dX4_least_2 : decode cX4_least 2 = .ok (.ineg, 1) := by decide +kernel
theorem dX4_least_3 : decode cX4_least 3 = .ok (.iand, 1) := by decide +kernel
theorem dX4_least_4 : decode cX4_least 4 = .ok (.iconst 1, 1) := by decide +kernel
theorem dX4_least_5 : decode cX4_least 5 = .ok (.isub, 1) := by decide +kernel
theorem dX4_least_6 : decode cX4_least 6 = .ok (.invokestatic 202, 3) := by decide +kernel
theorem dX4_least_9 : decode cX4_least 9 = .ok (.ireturn, 1) := by decide +kernel
