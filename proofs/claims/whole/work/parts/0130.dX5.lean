theorem dX5_feed_57 : decode cX5_feed 57 = .ok (.imul, 1) := by decide +kernel
theorem dX5_feed_58 : decode cX5_feed 58 = .ok (.ishr, 1) := by decide +kernel
theorem dX5_feed_59 : decode cX5_feed 59 = .ok (.sipush 255, 3) := by decide +kernel
theorem dX5_feed_62 : decode cX5_feed 62 = .ok (.iand, 1) := by decide +kernel
theorem dX5_feed_63 : decode cX5_feed 63 = .ok (.iastore, 1) := by decide +kernel
theorem dX5_feed_64 : decode cX5_feed 64 = .ok (.aload_n 0, 1) := by decide +kernel
theorem dX5_feed_65 : decode cX5_feed 65 = .ok (.dup, 1) := by decide +kernel
theorem dX5_feed_66 : decode cX5_feed 66 = .ok (.getfield 214, 3) := by decide +kernel
theorem dX5_feed_69 : decode cX5_feed 69 = .ok (.iconst 1, 1) := by decide +kernel
theorem dX5_feed_70 : decode cX5_feed 70 = .ok (.iadd, 1) := by decide +kernel
theorem dX5_feed_71 : decode cX5_feed 71 = .ok (.putfield 214, 3) := by decide +kernel
theorem dX5_feed_74 : decode cX5_feed 74 = .ok (.iinc 3 (-1), 3) := by decide +kernel
theorem dX5_feed_77 : decode cX5_feed 77 = .ok (.goto (-36), 3) := by decide +kernel
theorem dX5_feed_80 : decode cX5_feed 80 = .ok (.aload_n 0, 1) := by decide +kernel
theorem dX5_feed_81 : decode cX5_feed 81 = .ok (.getfield 214, 3) := by decide +kernel
theorem dX5_feed_84 : decode cX5_feed 84 = .ok (.ireturn, 1) := by decide +kernel
theorem dX5_wipe_0 : decode cX5_wipe 0 = .ok (.aload_n 0, 1) := by decide +kernel
theorem dX5_wipe_1 : decode cX5_wipe 1 = .ok (.getfield 214, 3) := by decide +kernel
theorem dX5_wipe_4 : decode cX5_wipe 4 = .ok (.istore_n 1, 1) := by decide +kernel
theorem dX5_wipe_5 : decode cX5_wipe 5 = .ok (.aload_n 0, 1) := by decide +kernel
theorem dX5_wipe_6 : decode cX5_wipe 6 = .ok (.iconst 0, 1) := by decide +kernel
theorem dX5_wipe_7 : decode cX5_wipe 7 = .ok (.putfield 214, 3) := by decide +kernel
theorem dX5_wipe_10 : decode cX5_wipe 10 = .ok (.iload_n 1, 1) := by decide +kernel
theorem dX5_wipe_11 : decode cX5_wipe 11 = .ok (.ireturn, 1) := by decide +kernel
theorem dX5_byteAt_0 : decode cX5_byteAt 0 = .ok (.iload_n 1, 1) := by decide +kernel
theorem dX5_byteAt_1 : decode cX5_byteAt 1 = .ok (.aload_n 0, 1) := by decide +kernel
theorem dX5_byteAt_2 : decode cX5_byteAt 2 = .ok (.getfield 214, 3) := by decide +kernel
theorem dX5_byteAt_5 : decode cX5_byteAt 5 = .ok (.if_icmp .ge 12, 3) := by decide +kernel
theorem dX5_byteAt_8 : decode cX5_byteAt 8 = .ok (.aload_n 0, 1) := by decide +kernel
theorem dX5_byteAt_9 : decode cX5_byteAt 9 = .ok (.getfield 25, 3) := by decide +kernel
theorem dX5_byteAt_12 : decode cX5_byteAt 12 = .ok (.iload_n 1, 1) := by decide +kernel
theorem dX5_byteAt_13 : decode cX5_byteAt 13 = .ok (.iaload, 1) := by decide +kernel
theorem dX5_byteAt_14 : decode cX5_byteAt 14 = .ok (.goto 4, 3) := by decide +kernel
theorem dX5_byteAt_17 : decode cX5_byteAt 17 = .ok (.iconst (-1), 1) := by decide +kernel
theorem dX5_byteAt_18 : decode cX5_byteAt 18 = .ok (.ireturn, 1) := by decide +kernel
theorem dX5_isLetter_0 : decode cX5_isLetter 0 = .ok (.iload_n 0, 1) := by decide +kernel
theorem dX5_isLetter_1 : decode cX5_isLetter 1 = .ok (.i2l, 1) := by decide +kernel
theorem dX5_isLetter_2 : decode cX5_isLetter 2 = .ok (.ldc2_w 217, 3) := by decide +kernel
theorem dX5_isLetter_5 : decode cX5_isLetter 5 = .ok (.ldc2_w 219, 3) := by decide +kernel
theorem dX5_isLetter_8 : decode cX5_isLetter 8 = .ok (.invokestatic 44, 3) := by decide +kernel
theorem dX5_isLetter_11 : decode cX5_isLetter 11 = .ok (.ireturn, 1) := by decide +kernel
theorem dX5_isDigit_0 : decode cX5_isDigit 0 = .ok (.iload_n 0, 1) := by decide +kernel
theorem dX5_isDigit_1 : decode cX5_isDigit 1 = .ok (.i2l, 1) := by decide +kernel
theorem dX5_isDigit_2 : decode cX5_isDigit 2 = .ok (.ldc2_w 207, 3) := by decide +kernel
theorem dX5_isDigit_5 : decode cX5_isDigit 5 = .ok (.ldc2_w 221, 3) := by decide +kernel
theorem dX5_isDigit_8 : decode cX5_isDigit 8 = .ok (.invokestatic 44, 3) := by decide +kernel
theorem dX5_isDigit_11 : decode cX5_isDigit 11 = .ok (.ireturn, 1) := by decide +kernel
theorem dX5_token_0 : decode cX5_token 0 = .ok (.aload_n 0, 1) := by decide +kernel
theorem dX5_token_1 : decode cX5_token 1 = .ok (.aload_n 0, 1) := by decide +kernel
theorem dX5_token_2 : decode cX5_token 2 = .ok (.getfield 223, 3) := by decide +kernel
theorem dX5_token_5 : decode cX5_token 5 = .ok (.putfield 226, 3) := by decide +kernel
theorem dX5_token_8 : decode cX5_token 8 = .ok (.aload_n 0, 1) := by decide +kernel
theorem dX5_token_9 : decode cX5_token 9 = .ok (.aload_n 0, 1) := by decide +kernel
theorem dX5_token_10 : decode cX5_token 10 = .ok (.getfield 226, 3) := by decide +kernel
theorem dX5_token_13 : decode cX5_token 13 = .ok (.invokevirtual 229, 3) := by decide +kernel
theorem dX5_token_16 : decode cX5_token 16 = .ok (.bipush 32, 2) := by decide +kernel
theorem dX5_token_18 : decode cX5_token 18 = .ok (.if_icmp .ne 16, 3) := by decide +kernel
theorem dX5_token_21 : decode cX5_token 21 = .ok (.aload_n 0, 1) := by decide +kernel
theorem dX5_token_22 : decode cX5_token 22 = .ok (.dup, 1) := by decide +kernel
theorem dX5_token_23 : decode cX5_token 23 = .ok (.getfield 226, 3) := by decide +kernel
theorem dX5_token_26 : decode cX5_token 26 = .ok (.iconst 1, 1) := by decide +kernel
theorem dX5_token_27 : decode cX5_token 27 = .ok (.iadd, 1) := by decide +kernel
theorem dX5_token_28 : decode cX5_token 28 = .ok (.putfield 226, 3) := by decide +kernel
theorem dX5_token_31 : decode cX5_token 31 = .ok (.goto (-23), 3) := by decide +kernel
theorem dX5_token_34 : decode cX5_token 34 = .ok (.aload_n 0, 1) := by decide +kernel
theorem dX5_token_35 : decode cX5_token 35 = .ok (.aload_n 0, 1) := by decide +kernel
theorem dX5_token_36 : decode cX5_token 36 = .ok (.getfield 226, 3) := by decide +kernel
theorem dX5_token_39 : decode cX5_token 39 = .ok (.invokevirtual 229, 3) := by decide +kernel
theorem dX5_token_42 : decode cX5_token 42 = .ok (.invokestatic 232, 3) := by decide +kernel
theorem dX5_token_45 : decode cX5_token 45 = .ok (.istore_n 1, 1) := by decide +kernel
theorem dX5_token_46 : decode cX5_token 46 = .ok (.aload_n 0, 1) := by decide +kernel
theorem dX5_token_47 : decode cX5_token 47 = .ok (.aload_n 0, 1) := by decide +kernel
theorem dX5_token_48 : decode cX5_token 48 = .ok (.getfield 226, 3) := by decide +kernel
theorem dX5_token_51 : decode cX5_token 51 = .ok (.invokevirtual 229, 3) := by decide +kernel
theorem dX5_token_54 : decode cX5_token 54 = .ok (.invokestatic 235, 3) := by decide +kernel
theorem dX5_token_57 : decode cX5_token 57 = .ok (.istore_n 2, 1) := by decide +kernel
theorem dX5_token_58 : decode cX5_token 58 = .ok (.aload_n 0, 1) := by decide +kernel
theorem dX5_token_59 : decode cX5_token 59 = .ok (.aload_n 0, 1) := by decide +kernel
theorem dX5_token_60 : decode cX5_token 60 = .ok (.getfield 226, 3) := by decide +kernel
theorem dX5_token_63 : decode cX5_token 63 = .ok (.aload_n 0, 1) := by decide +kernel
theorem dX5_token_64 : decode cX5_token 64 = .ok (.getfield 214, 3) := by decide +kernel
theorem dX5_token_67 : decode cX5_token 67 = .ok (.if_icmp .ge 12, 3) := by decide +kernel
theorem dX5_token_70 : decode cX5_token 70 = .ok (.aload_n 0, 1) := by decide +kernel
theorem dX5_token_71 : decode cX5_token 71 = .ok (.getfield 226, 3) := by decide +kernel
theorem dX5_token_74 : decode cX5_token 74 = .ok (.iconst 1, 1) := by decide +kernel
theorem dX5_token_75 : decode cX5_token 75 = .ok (.iadd, 1) := by decide +kernel
theorem dX5_token_76 : decode cX5_token 76 = .ok (.goto 7, 3) := by decide +kernel
theorem dX5_token_79 : decode cX5_token 79 = .ok (.aload_n 0, 1) := by decide +kernel
theorem dX5_token_80 : decode cX5_token 80 = .ok (.getfield 226, 3) := by decide +kernel
theorem dX5_token_83 : decode cX5_token 83 = .ok (.putfield 223, 3) := by decide +kernel
theorem dX5_token_86 : decode cX5_token 86 = .ok (.iload_n 1, 1) := by decide +kernel
theorem dX5_token_87 : decode cX5_token 87 = .ok (.ifCond .eq 17, 3) := by decide +kernel
theorem dX5_token_90 : decode cX5_token 90 = .ok (.aload_n 0, 1) := by decide +kernel
theorem dX5_token_91 : decode cX5_token 91 = .ok (.aload_n 0, 1) := by decide +kernel
theorem dX5_token_92 : decode cX5_token 92 = .ok (.getfield 223, 3) := by decide +kernel
theorem dX5_token_95 : decode cX5_token 95 = .ok (.invokevirtual 229, 3) := by decide +kernel
theorem dX5_token_98 : decode cX5_token 98 = .ok (.invokestatic 232, 3) := by decide +kernel
theorem dX5_token_101 : decode cX5_token 101 = .ok (.ifCond .ne 21, 3) := by decide +kernel
theorem dX5_token_104 : decode cX5_token 104 = .ok (.iload_n 2, 1) := by decide +kernel
theorem dX5_token_105 : decode cX5_token 105 = .ok (.ifCond .eq 30, 3) := by decide +kernel
theorem dX5_token_108 : decode cX5_token 108 = .ok (.aload_n 0, 1) := by decide +kernel
theorem dX5_token_109 : decode cX5_token 109 = .ok (.aload_n 0, 1) := by decide +kernel
theorem dX5_token_110 : decode cX5_token 110 = .ok (.getfield 223, 3) := by decide +kernel
theorem dX5_token_113 : decode cX5_token 113 = .ok (.invokevirtual 229, 3) := by decide +kernel
theorem dX5_token_116 : decode cX5_token 116 = .ok (.invokestatic 235, 3) := by decide +kernel
theorem dX5_token_119 : decode cX5_token 119 = .ok (.ifCond .eq 16, 3) := by decide +kernel
theorem dX5_token_122 : decode cX5_token 122 = .ok (.aload_n 0, 1) := by decide +kernel
theorem dX5_token_123 : decode cX5_token 123 = .ok (.dup, 1) := by decide +kernel
theorem dX5_token_124 : decode cX5_token 124 = .ok (.getfield 223, 3) := by decide +kernel
theorem dX5_token_127 : decode cX5_token 127 = .ok (.iconst 1, 1) := by decide +kernel
theorem dX5_token_128 : decode cX5_token 128 = .ok (.iadd, 1) := by decide +kernel
theorem dX5_token_129 : decode cX5_token 129 = .ok (.putfield 223, 3) := by decide +kernel
theorem dX5_token_132 : decode cX5_token 132 = .ok (.goto (-46), 3) := by decide +kernel
theorem dX5_token_135 : decode cX5_token 135 = .ok (.return_, 1) := by decide +kernel
theorem dX5_wants_0 : decode cX5_wants 0 = .ok (.aload_n 0, 1) := by decide +kernel
theorem dX5_wants_1 : decode cX5_wants 1 = .ok (.aload_n 0, 1) := by decide +kernel
theorem dX5_wants_2 : decode cX5_wants 2 = .ok (.getfield 238, 3) := by decide +kernel
theorem dX5_wants_5 : decode cX5_wants 5 = .ok (.ifCond .ne 7, 3) := by decide +kernel
theorem dX5_wants_8 : decode cX5_wants 8 = .ok (.iload_n 1, 1) := by decide +kernel
theorem dX5_wants_9 : decode cX5_wants 9 = .ok (.ifCond .ne 7, 3) := by decide +kernel
theorem dX5_wants_12 : decode cX5_wants 12 = .ok (.iconst 1, 1) := by decide +kernel
theorem dX5_wants_13 : decode cX5_wants 13 = .ok (.goto 4, 3) := by decide +kernel
theorem dX5_wants_16 : decode cX5_wants 16 = .ok (.iconst 0, 1) := by decide +kernel
theorem dX5_wants_17 : decode cX5_wants 17 = .ok (.putfield 238, 3) := by decide +kernel
theorem dX5_wants_20 : decode cX5_wants 20 = .ok (.aload_n 0, 1) := by decide +kernel
theorem dX5_wants_21 : decode cX5_wants 21 = .ok (.getfield 238, 3) := by decide +kernel
theorem dX5_wants_24 : decode cX5_wants 24 = .ok (.ifCond .ne 7, 3) := by decide +kernel
theorem dX5_wants_27 : decode cX5_wants 27 = .ok (.aload_n 0, 1) := by decide +kernel
theorem dX5_wants_28 : decode cX5_wants 28 = .ok (.invokevirtual 242, 3) := by decide +kernel
theorem dX5_wants_31 : decode cX5_wants 31 = .ok (.return_, 1) := by decide +kernel
theorem dX5_word_0 : decode cX5_word 0 = .ok (.lconst 0, 1) := by decide +kernel
theorem dX5_word_1 : decode cX5_word 1 = .ok (.lstore_n 1, 1) := by decide +kernel
theorem dX5_word_2 : decode cX5_word 2 = .ok (.aload_n 0, 1) := by decide +kernel
theorem dX5_word_3 : decode cX5_word 3 = .ok (.getfield 226, 3) := by decide +kernel
theorem dX5_word_6 : decode cX5_word 6 = .ok (.istore_n 3, 1) := by decide +kernel
theorem dX5_word_7 : decode cX5_word 7 = .ok (.iload_n 3, 1) := by decide +kernel
theorem dX5_word_8 : decode cX5_word 8 = .ok (.aload_n 0, 1) := by decide +kernel
theorem dX5_word_9 : decode cX5_word 9 = .ok (.getfield 223, 3) := by decide +kernel
theorem dX5_word_12 : decode cX5_word 12 = .ok (.if_icmp .ge 38, 3) := by decide +kernel
theorem dX5_word_15 : decode cX5_word 15 = .ok (.lload_n 1, 1) := by decide +kernel
theorem dX5_word_16 : decode cX5_word 16 = .ok (.ldc2_w 245, 3) := by decide +kernel
theorem dX5_word_19 : decode cX5_word 19 = .ok (.lcmp, 1) := by decide +kernel
theorem dX5_word_20 : decode cX5_word 20 = .ok (.ifCond .le 7, 3) := by decide +kernel
theorem dX5_word_23 : decode cX5_word 23 = .ok (.lload_n 1, 1) := by decide +kernel
theorem dX5_word_24 : decode cX5_word 24 = .ok (.goto 19, 3) := by decide +kernel
theorem dX5_word_27 : decode cX5_word 27 = .ok (.ldc2_w 247, 3) := by decide +kernel
theorem dX5_word_30 : decode cX5_word 30 = .ok (.lload_n 1, 1) := by decide +kernel
theorem dX5_word_31 : decode cX5_word 31 = .ok (.lmul, 1) := by decide +kernel
theorem dX5_word_32 : decode cX5_word 32 = .ok (.aload_n 0, 1) := by decide +kernel
theorem dX5_word_33 : decode cX5_word 33 = .ok (.getfield 25, 3) := by decide +kernel
theorem dX5_word_36 : decode cX5_word 36 = .ok (.iload_n 3, 1) := by decide +kernel
theorem dX5_word_37 : decode cX5_word 37 = .ok (.iaload, 1) := by decide +kernel
theorem dX5_word_38 : decode cX5_word 38 = .ok (.bipush 96, 2) := by decide +kernel
theorem dX5_word_40 : decode cX5_word 40 = .ok (.isub, 1) := by decide +kernel
theorem dX5_word_41 : decode cX5_word 41 = .ok (.i2l, 1) := by decide +kernel
theorem dX5_word_42 : decode cX5_word 42 = .ok (.ladd, 1) := by decide +kernel
theorem dX5_word_43 : decode cX5_word 43 = .ok (.lstore_n 1, 1) := by decide +kernel
theorem dX5_word_44 : decode cX5_word 44 = .ok (.iinc 3 1, 3) := by decide +kernel
theorem dX5_word_47 : decode cX5_word 47 = .ok (.goto (-40), 3) := by decide +kernel
theorem dX5_word_50 : decode cX5_word 50 = .ok (.aload_n 0, 1) := by decide +kernel
theorem dX5_word_51 : decode cX5_word 51 = .ok (.getfield 238, 3) := by decide +kernel
theorem dX5_word_54 : decode cX5_word 54 = .ok (.ifCond .ne 17, 3) := by decide +kernel
theorem dX5_word_57 : decode cX5_word 57 = .ok (.aload_n 0, 1) := by decide +kernel
theorem dX5_word_58 : decode cX5_word 58 = .ok (.aload_n 0, 1) := by decide +kernel
theorem dX5_word_59 : decode cX5_word 59 = .ok (.getfield 226, 3) := by decide +kernel
theorem dX5_word_62 : decode cX5_word 62 = .ok (.invokevirtual 229, 3) := by decide +kernel
theorem dX5_word_65 : decode cX5_word 65 = .ok (.invokestatic 232, 3) := by decide +kernel
theorem dX5_word_68 : decode cX5_word 68 = .ok (.ifCond .ne 7, 3) := by decide +kernel
theorem dX5_word_71 : decode cX5_word 71 = .ok (.lconst 0, 1) := by decide +kernel
theorem dX5_word_72 : decode cX5_word 72 = .ok (.goto 4, 3) := by decide +kernel
theorem dX5_word_75 : decode cX5_word 75 = .ok (.lload_n 1, 1) := by decide +kernel
theorem dX5_word_76 : decode cX5_word 76 = .ok (.lreturn, 1) := by decide +kernel
theorem dX5_number_0 : decode cX5_number 0 = .ok (.aload_n 0, 1) := by decide +kernel
theorem dX5_number_1 : decode cX5_number 1 = .ok (.getfield 238, 3) := by decide +kernel
theorem dX5_number_4 : decode cX5_number 4 = .ok (.ifCond .eq 4, 3) := by decide +kernel
theorem dX5_number_7 : decode cX5_number 7 = .ok (.return_, 1) := by decide +kernel
theorem dX5_number_8 : decode cX5_number 8 = .ok (.aload_n 0, 1) := by decide +kernel
theorem dX5_number_9 : decode cX5_number 9 = .ok (.aload_n 0, 1) := by decide +kernel
theorem dX5_number_10 : decode cX5_number 10 = .ok (.getfield 226, 3) := by decide +kernel
theorem dX5_number_13 : decode cX5_number 13 = .ok (.invokevirtual 229, 3) := by decide +kernel
theorem dX5_number_16 : decode cX5_number 16 = .ok (.invokestatic 235, 3) := by decide +kernel
theorem dX5_number_19 : decode cX5_number 19 = .ok (.istore_n 3, 1) := by decide +kernel
theorem dX5_number_20 : decode cX5_number 20 = .ok (.iconst 0, 1) := by decide +kernel
theorem dX5_number_21 : decode cX5_number 21 = .ok (.istore 4, 2) := by decide +kernel
theorem dX5_number_23 : decode cX5_number 23 = .ok (.aload_n 0, 1) := by decide +kernel
theorem dX5_number_24 : decode cX5_number 24 = .ok (.getfield 226, 3) := by decide +kernel
theorem dX5_number_27 : decode cX5_number 27 = .ok (.istore 5, 2) := by decide +kernel
theorem dX5_number_29 : decode cX5_number 29 = .ok (.iload 5, 2) := by decide +kernel
theorem dX5_number_31 : decode cX5_number 31 = .ok (.aload_n 0, 1) := by decide +kernel
theorem dX5_number_32 : decode cX5_number 32 = .ok (.getfield 223, 3) := by decide +kernel
theorem dX5_number_35 : decode cX5_number 35 = .ok (.if_icmp .ge 44, 3) := by decide +kernel
theorem dX5_number_38 : decode cX5_number 38 = .ok (.iload_n 3, 1) := by decide +kernel
theorem dX5_number_39 : decode cX5_number 39 = .ok (.ifCond .eq 40, 3) := by decide +kernel
theorem dX5_number_42 : decode cX5_number 42 = .ok (.iload 4, 2) := by decide +kernel
theorem dX5_number_44 : decode cX5_number 44 = .ok (.sipush 999, 3) := by decide +kernel
theorem dX5_number_47 : decode cX5_number 47 = .ok (.if_icmp .le 8, 3) := by decide +kernel
theorem dX5_number_50 : decode cX5_number 50 = .ok (.iload 4, 2) := by decide +kernel
theorem dX5_number_52 : decode cX5_number 52 = .ok (.goto 19, 3) := by decide +kernel
theorem dX5_number_55 : decode cX5_number 55 = .ok (.bipush 10, 2) := by decide +kernel
theorem dX5_number_57 : decode cX5_number 57 = .ok (.iload 4, 2) := by decide +kernel
theorem dX5_number_59 : decode cX5_number 59 = .ok (.imul, 1) := by decide +kernel
theorem dX5_number_60 : decode cX5_number 60 = .ok (.aload_n 0, 1) := by decide +kernel
theorem dX5_number_61 : decode cX5_number 61 = .ok (.getfield 25, 3) := by decide +kernel
theorem dX5_number_64 : decode cX5_number 64 = .ok (.iload 5, 2) := by decide +kernel
theorem dX5_number_66 : decode cX5_number 66 = .ok (.iaload, 1) := by decide +kernel
theorem dX5_number_67 : decode cX5_number 67 = .ok (.iadd, 1) := by decide +kernel
theorem dX5_number_68 : decode cX5_number 68 = .ok (.bipush 48, 2) := by decide +kernel
theorem dX5_number_70 : decode cX5_number 70 = .ok (.isub, 1) := by decide +kernel
theorem dX5_number_71 : decode cX5_number 71 = .ok (.istore 4, 2) := by decide +kernel
theorem dX5_number_73 : decode cX5_number 73 = .ok (.iinc 5 1, 3) := by decide +kernel
theorem dX5_number_76 : decode cX5_number 76 = .ok (.goto (-47), 3) := by decide +kernel
theorem dX5_number_79 : decode cX5_number 79 = .ok (.aload_n 0, 1) := by decide +kernel
theorem dX5_number_80 : decode cX5_number 80 = .ok (.iload 4, 2) := by decide +kernel
theorem dX5_number_82 : decode cX5_number 82 = .ok (.putfield 249, 3) := by decide +kernel
theorem dX5_number_85 : decode cX5_number 85 = .ok (.aload_n 0, 1) := by decide +kernel
theorem dX5_number_86 : decode cX5_number 86 = .ok (.iload_n 3, 1) := by decide +kernel
theorem dX5_number_87 : decode cX5_number 87 = .ok (.ifCond .eq 20, 3) := by decide +kernel
theorem dX5_number_90 : decode cX5_number 90 = .ok (.iload 4, 2) := by decide +kernel
theorem dX5_number_92 : decode cX5_number 92 = .ok (.i2l, 1) := by decide +kernel
theorem dX5_number_93 : decode cX5_number 93 = .ok (.iload_n 1, 1) := by decide +kernel
theorem dX5_number_94 : decode cX5_number 94 = .ok (.i2l, 1) := by decide +kernel
theorem dX5_number_95 : decode cX5_number 95 = .ok (.iload_n 2, 1) := by decide +kernel
theorem dX5_number_96 : decode cX5_number 96 = .ok (.i2l, 1) := by decide +kernel
theorem dX5_number_97 : decode cX5_number 97 = .ok (.invokestatic 44, 3) := by decide +kernel
theorem dX5_number_100 : decode cX5_number 100 = .ok (.ifCond .eq 7, 3) := by decide +kernel
theorem dX5_number_103 : decode cX5_number 103 = .ok (.iconst 1, 1) := by decide +kernel
theorem dX5_number_104 : decode cX5_number 104 = .ok (.goto 4, 3) := by decide +kernel
theorem dX5_number_107 : decode cX5_number 107 = .ok (.iconst 0, 1) := by decide +kernel
theorem dX5_number_108 : decode cX5_number 108 = .ok (.invokevirtual 252, 3) := by decide +kernel
theorem dX5_number_111 : decode cX5_number 111 = .ok (.return_, 1) := by decide +kernel
theorem dX5_kindHere_0 : decode cX5_kindHere 0 = .ok (.aload_n 0, 1) := by decide +kernel
theorem dX5_kindHere_1 : decode cX5_kindHere 1 = .ok (.invokevirtual 256, 3) := by decide +kernel
theorem dX5_kindHere_4 : decode cX5_kindHere 4 = .ok (.lstore_n 1, 1) := by decide +kernel
theorem dX5_kindHere_5 : decode cX5_kindHere 5 = .ok (.lload_n 1, 1) := by decide +kernel
theorem dX5_kindHere_6 : decode cX5_kindHere 6 = .ok (.ldc2_w 260, 3) := by decide +kernel
theorem dX5_kindHere_9 : decode cX5_kindHere 9 = .ok (.lcmp, 1) := by decide +kernel
theorem dX5_kindHere_10 : decode cX5_kindHere 10 = .ok (.ifCond .ne 7, 3) := by decide +kernel
theorem dX5_kindHere_13 : decode cX5_kindHere 13 = .ok (.iconst 0, 1) := by decide +kernel
theorem dX5_kindHere_14 : decode cX5_kindHere 14 = .ok (.goto 64, 3) := by decide +kernel
theorem dX5_kindHere_17 : decode cX5_kindHere 17 = .ok (.lload_n 1, 1) := by decide +kernel
theorem dX5_kindHere_18 : decode cX5_kindHere 18 = .ok (.ldc2_w 262, 3) := by decide +kernel
theorem dX5_kindHere_21 : decode cX5_kindHere 21 = .ok (.lcmp, 1) := by decide +kernel
theorem dX5_kindHere_22 : decode cX5_kindHere 22 = .ok (.ifCond .ne 7, 3) := by decide +kernel
theorem dX5_kindHere_25 : decode cX5_kindHere 25 = .ok (.iconst 1, 1) := by decide +kernel
theorem dX5_kindHere_26 : decode cX5_kindHere 26 = .ok (.goto 52, 3) := by decide +kernel
theorem dX5_kindHere_29 : decode cX5_kindHere 29 = .ok (.lload_n 1, 1) := by decide +kernel
theorem dX5_kindHere_30 : decode cX5_kindHere 30 = .ok (.ldc2_w 264, 3) := by decide +kernel
theorem dX5_kindHere_33 : decode cX5_kindHere 33 = .ok (.lcmp, 1) := by decide +kernel
theorem dX5_kindHere_34 : decode cX5_kindHere 34 = .ok (.ifCond .ne 7, 3) := by decide +kernel
theorem dX5_kindHere_37 : decode cX5_kindHere 37 = .ok (.iconst 2, 1) := by decide +kernel
theorem dX5_kindHere_38 : decode cX5_kindHere 38 = .ok (.goto 40, 3) := by decide +kernel
theorem dX5_kindHere_41 : decode cX5_kindHere 41 = .ok (.lload_n 1, 1) := by decide +kernel
theorem dX5_kindHere_42 : decode cX5_kindHere 42 = .ok (.ldc2_w 266, 3) := by decide +kernel
theorem dX5_kindHere_45 : decode cX5_kindHere 45 = .ok (.lcmp, 1) := by decide +kernel
theorem dX5_kindHere_46 : decode cX5_kindHere 46 = .ok (.ifCond .ne 7, 3) := by decide +kernel
theorem dX5_kindHere_49 : decode cX5_kindHere 49 = .ok (.iconst 3, 1) := by decide +kernel
theorem dX5_kindHere_50 : decode cX5_kindHere 50 = .ok (.goto 28, 3) := by decide +kernel
theorem dX5_kindHere_53 : decode cX5_kindHere 53 = .ok (.lload_n 1, 1) := by decide +kernel
theorem dX5_kindHere_54 : decode cX5_kindHere 54 = .ok (.ldc2_w 268, 3) := by decide +kernel
theorem dX5_kindHere_57 : decode cX5_kindHere 57 = .ok (.lcmp, 1) := by decide +kernel
theorem dX5_kindHere_58 : decode cX5_kindHere 58 = .ok (.ifCond .ne 7, 3) := by decide +kernel
theorem dX5_kindHere_61 : decode cX5_kindHere 61 = .ok (.iconst 4, 1) := by decide +kernel
theorem dX5_kindHere_62 : decode cX5_kindHere 62 = .ok (.goto 16, 3) := by decide +kernel
theorem dX5_kindHere_65 : decode cX5_kindHere 65 = .ok (.lload_n 1, 1) := by decide +kernel
theorem dX5_kindHere_66 : decode cX5_kindHere 66 = .ok (.ldc2_w 270, 3) := by decide +kernel
theorem dX5_kindHere_69 : decode cX5_kindHere 69 = .ok (.lcmp, 1) := by decide +kernel
theorem dX5_kindHere_70 : decode cX5_kindHere 70 = .ok (.ifCond .ne 7, 3) := by decide +kernel
theorem dX5_kindHere_73 : decode cX5_kindHere 73 = .ok (.iconst 5, 1) := by decide +kernel
theorem dX5_kindHere_74 : decode cX5_kindHere 74 = .ok (.goto 4, 3) := by decide +kernel
theorem dX5_kindHere_77 : decode cX5_kindHere 77 = .ok (.iconst (-1), 1) := by decide +kernel
theorem dX5_kindHere_78 : decode cX5_kindHere 78 = .ok (.ireturn, 1) := by decide +kernel
theorem dX5_placeHere_0 : decode cX5_placeHere 0 = .ok (.aload_n 0, 1) := by decide +kernel
theorem dX5_placeHere_1 : decode cX5_placeHere 1 = .ok (.invokevirtual 256, 3) := by decide +kernel
theorem dX5_placeHere_4 : decode cX5_placeHere 4 = .ok (.lstore_n 1, 1) := by decide +kernel
theorem dX5_placeHere_5 : decode cX5_placeHere 5 = .ok (.lload_n 1, 1) := by decide +kernel
theorem dX5_placeHere_6 : decode cX5_placeHere 6 = .ok (.ldc2_w 272, 3) := by decide +kernel
theorem dX5_placeHere_9 : decode cX5_placeHere 9 = .ok (.lcmp, 1) := by decide +kernel
theorem dX5_placeHere_10 : decode cX5_placeHere 10 = .ok (.ifCond .ne 7, 3) := by decide +kernel
theorem dX5_placeHere_13 : decode cX5_placeHere 13 = .ok (.iconst 0, 1) := by decide +kernel
theorem dX5_placeHere_14 : decode cX5_placeHere 14 = .ok (.goto 28, 3) := by decide +kernel
theorem dX5_placeHere_17 : decode cX5_placeHere 17 = .ok (.lload_n 1, 1) := by decide +kernel
theorem dX5_placeHere_18 : decode cX5_placeHere 18 = .ok (.ldc2_w 274, 3) := by decide +kernel
theorem dX5_placeHere_21 : decode cX5_placeHere 21 = .ok (.lcmp, 1) := by decide +kernel
theorem dX5_placeHere_22 : decode cX5_placeHere 22 = .ok (.ifCond .ne 7, 3) := by decide +kernel
theorem dX5_placeHere_25 : decode cX5_placeHere 25 = .ok (.iconst 1, 1) := by decide +kernel
theorem dX5_placeHere_26 : decode cX5_placeHere 26 = .ok (.goto 16, 3) := by decide +kernel
theorem dX5_placeHere_29 : decode cX5_placeHere 29 = .ok (.lload_n 1, 1) := by decide +kernel
theorem dX5_placeHere_30 : decode cX5_placeHere 30 = .ok (.ldc2_w 276, 3) := by decide +kernel
theorem dX5_placeHere_33 : decode cX5_placeHere 33 = .ok (.lcmp, 1) := by decide +kernel
theorem dX5_placeHere_34 : decode cX5_placeHere 34 = .ok (.ifCond .ne 7, 3) := by decide +kernel
theorem dX5_placeHere_37 : decode cX5_placeHere 37 = .ok (.iconst 2, 1) := by decide +kernel
theorem dX5_placeHere_38 : decode cX5_placeHere 38 = .ok (.goto 4, 3) := by decide +kernel
theorem dX5_placeHere_41 : decode cX5_placeHere 41 = .ok (.iconst (-1), 1) := by decide +kernel
theorem dX5_placeHere_42 : decode cX5_placeHere 42 = .ok (.ireturn, 1) := by decide +kernel
theorem dX5_cellHere_0 : decode cX5_cellHere 0 = .ok (.aload_n 0, 1) := by decide +kernel
theorem dX5_cellHere_1 : decode cX5_cellHere 1 = .ok (.iconst 0, 1) := by decide +kernel
theorem dX5_cellHere_2 : decode cX5_cellHere 2 = .ok (.bipush 29, 2) := by decide +kernel
theorem dX5_cellHere_4 : decode cX5_cellHere 4 = .ok (.invokevirtual 278, 3) := by decide +kernel
theorem dX5_cellHere_7 : decode cX5_cellHere 7 = .ok (.return_, 1) := by decide +kernel
theorem dX5_tortoiseItem_0 : decode cX5_tortoiseItem 0 = .ok (.aload_n 0, 1) := by decide +kernel
theorem dX5_tortoiseItem_1 : decode cX5_tortoiseItem 1 = .ok (.aload_n 0, 1) := by decide +kernel
theorem dX5_tortoiseItem_2 : decode cX5_tortoiseItem 2 = .ok (.getfield 7, 3) := by decide +kernel
theorem dX5_tortoiseItem_5 : decode cX5_tortoiseItem 5 = .ok (.iconst 1, 1) := by decide +kernel
theorem dX5_tortoiseItem_6 : decode cX5_tortoiseItem 6 = .ok (.iaload, 1) := by decide +kernel
theorem dX5_tortoiseItem_7 : decode cX5_tortoiseItem 7 = .ok (.bipush 8, 2) := by decide +kernel
theorem dX5_tortoiseItem_9 : decode cX5_tortoiseItem 9 = .ok (.if_icmp .ge 7, 3) := by decide +kernel
theorem dX5_tortoiseItem_12 : decode cX5_tortoiseItem 12 = .ok (.iconst 1, 1) := by decide +kernel
theorem dX5_tortoiseItem_13 : decode cX5_tortoiseItem 13 = .ok (.goto 4, 3) := by decide +kernel
theorem dX5_tortoiseItem_16 : decode cX5_tortoiseItem 16 = .ok (.iconst 0, 1) := by decide +kernel
theorem dX5_tortoiseItem_17 : decode cX5_tortoiseItem 17 = .ok (.invokevirtual 252, 3) := by decide +kernel
theorem dX5_tortoiseItem_20 : decode cX5_tortoiseItem 20 = .ok (.aload_n 0, 1) := by decide +kernel
theorem dX5_tortoiseItem_21 : decode cX5_tortoiseItem 21 = .ok (.aload_n 0, 1) := by decide +kernel
theorem dX5_tortoiseItem_22 : decode cX5_tortoiseItem 22 = .ok (.invokevirtual 256, 3) := by decide +kernel
theorem dX5_tortoiseItem_25 : decode cX5_tortoiseItem 25 = .ok (.ldc2_w 281, 3) := by decide +kernel
theorem dX5_tortoiseItem_28 : decode cX5_tortoiseItem 28 = .ok (.lcmp, 1) := by decide +kernel
theorem dX5_tortoiseItem_29 : decode cX5_tortoiseItem 29 = .ok (.ifCond .ne 7, 3) := by decide +kernel
theorem dX5_tortoiseItem_32 : decode cX5_tortoiseItem 32 = .ok (.iconst 1, 1) := by decide +kernel
theorem dX5_tortoiseItem_33 : decode cX5_tortoiseItem 33 = .ok (.goto 4, 3) := by decide +kernel
theorem dX5_tortoiseItem_36 : decode cX5_tortoiseItem 36 = .ok (.iconst 0, 1) := by decide +kernel
theorem dX5_tortoiseItem_37 : decode cX5_tortoiseItem 37 = .ok (.invokevirtual 252, 3) := by decide +kernel
theorem dX5_tortoiseItem_40 : decode cX5_tortoiseItem 40 = .ok (.aload_n 0, 1) := by decide +kernel
theorem dX5_tortoiseItem_41 : decode cX5_tortoiseItem 41 = .ok (.invokevirtual 283, 3) := by decide +kernel
theorem dX5_tortoiseItem_44 : decode cX5_tortoiseItem 44 = .ok (.aload_n 0, 1) := by decide +kernel
theorem dX5_tortoiseItem_45 : decode cX5_tortoiseItem 45 = .ok (.getfield 249, 3) := by decide +kernel
theorem dX5_tortoiseItem_48 : decode cX5_tortoiseItem 48 = .ok (.istore_n 2, 1) := by decide +kernel
theorem dX5_tortoiseItem_49 : decode cX5_tortoiseItem 49 = .ok (.iconst 0, 1) := by decide +kernel
theorem dX5_tortoiseItem_50 : decode cX5_tortoiseItem 50 = .ok (.istore_n 3, 1) := by decide +kernel
theorem dX5_tortoiseItem_51 : decode cX5_tortoiseItem 51 = .ok (.aload_n 0, 1) := by decide +kernel
theorem dX5_tortoiseItem_52 : decode cX5_tortoiseItem 52 = .ok (.getfield 238, 3) := by decide +kernel
theorem dX5_tortoiseItem_55 : decode cX5_tortoiseItem 55 = .ok (.ifCond .ne 47, 3) := by decide +kernel
theorem dX5_tortoiseItem_58 : decode cX5_tortoiseItem 58 = .ok (.aload_n 0, 1) := by decide +kernel
theorem dX5_tortoiseItem_59 : decode cX5_tortoiseItem 59 = .ok (.aload_n 0, 1) := by decide +kernel
theorem dX5_tortoiseItem_60 : decode cX5_tortoiseItem 60 = .ok (.getfield 226, 3) := by decide +kernel
theorem dX5_tortoiseItem_63 : decode cX5_tortoiseItem 63 = .ok (.invokevirtual 229, 3) := by decide +kernel
theorem dX5_tortoiseItem_66 : decode cX5_tortoiseItem 66 = .ok (.invokestatic 235, 3) := by decide +kernel
theorem dX5_tortoiseItem_69 : decode cX5_tortoiseItem 69 = .ok (.ifCond .eq 33, 3) := by decide +kernel
theorem dX5_tortoiseItem_72 : decode cX5_tortoiseItem 72 = .ok (.aload_n 0, 1) := by decide +kernel
theorem dX5_tortoiseItem_73 : decode cX5_tortoiseItem 73 = .ok (.iconst 0, 1) := by decide +kernel
theorem dX5_tortoiseItem_74 : decode cX5_tortoiseItem 74 = .ok (.bipush 11, 2) := by decide +kernel
theorem dX5_tortoiseItem_76 : decode cX5_tortoiseItem 76 = .ok (.invokevirtual 278, 3) := by decide +kernel
theorem dX5_tortoiseItem_79 : decode cX5_tortoiseItem 79 = .ok (.iload_n 3, 1) := by decide +kernel
theorem dX5_tortoiseItem_80 : decode cX5_tortoiseItem 80 = .ok (.aload_n 0, 1) := by decide +kernel
theorem dX5_tortoiseItem_81 : decode cX5_tortoiseItem 81 = .ok (.getfield 238, 3) := by decide +kernel
theorem dX5_tortoiseItem_84 : decode cX5_tortoiseItem 84 = .ok (.ifCond .eq 7, 3) := by decide +kernel
theorem dX5_tortoiseItem_87 : decode cX5_tortoiseItem 87 = .ok (.iconst 0, 1) := by decide +kernel
theorem dX5_tortoiseItem_88 : decode cX5_tortoiseItem 88 = .ok (.goto 9, 3) := by decide +kernel
theorem dX5_tortoiseItem_91 : decode cX5_tortoiseItem 91 = .ok (.iconst 1, 1) := by decide +kernel
theorem dX5_tortoiseItem_92 : decode cX5_tortoiseItem 92 = .ok (.aload_n 0, 1) := by decide +kernel
theorem dX5_tortoiseItem_93 : decode cX5_tortoiseItem 93 = .ok (.getfield 249, 3) := by decide +kernel
theorem dX5_tortoiseItem_96 : decode cX5_tortoiseItem 96 = .ok (.ishl, 1) := by decide +kernel
theorem dX5_tortoiseItem_97 : decode cX5_tortoiseItem 97 = .ok (.ior, 1) := by decide +kernel
theorem dX5_tortoiseItem_98 : decode cX5_tortoiseItem 98 = .ok (.istore_n 3, 1) := by decide +kernel
theorem dX5_tortoiseItem_99 : decode cX5_tortoiseItem 99 = .ok (.goto (-48), 3) := by decide +kernel
theorem dX5_tortoiseItem_102 : decode cX5_tortoiseItem 102 = .ok (.aload_n 0, 1) := by decide +kernel
theorem dX5_tortoiseItem_103 : decode cX5_tortoiseItem 103 = .ok (.getfield 238, 3) := by decide +kernel
theorem dX5_tortoiseItem_106 : decode cX5_tortoiseItem 106 = .ok (.ifCond .ne 12, 3) := by decide +kernel
theorem dX5_tortoiseItem_109 : decode cX5_tortoiseItem 109 = .ok (.aload_n 0, 1) := by decide +kernel
theorem dX5_tortoiseItem_110 : decode cX5_tortoiseItem 110 = .ok (.iload_n 1, 1) := by decide +kernel
theorem dX5_tortoiseItem_111 : decode cX5_tortoiseItem 111 = .ok (.iload_n 2, 1) := by decide +kernel
theorem dX5_tortoiseItem_112 : decode cX5_tortoiseItem 112 = .ok (.iload_n 3, 1) := by decide +kernel
theorem dX5_tortoiseItem_113 : decode cX5_tortoiseItem 113 = .ok (.invokevirtual 115, 3) := by decide +kernel
theorem dX5_tortoiseItem_116 : decode cX5_tortoiseItem 116 = .ok (.istore 4, 2) := by decide +kernel
theorem dX5_tortoiseItem_118 : decode cX5_tortoiseItem 118 = .ok (.return_, 1) := by decide +kernel
theorem dX5_fenceItem_0 : decode cX5_fenceItem 0 = .ok (.aload_n 0, 1) := by decide +kernel
theorem dX5_fenceItem_1 : decode cX5_fenceItem 1 = .ok (.iconst 1, 1) := by decide +kernel
theorem dX5_fenceItem_2 : decode cX5_fenceItem 2 = .ok (.invokevirtual 252, 3) := by decide +kernel
theorem dX5_fenceItem_5 : decode cX5_fenceItem 5 = .ok (.aload_n 0, 1) := by decide +kernel
theorem dX5_fenceItem_6 : decode cX5_fenceItem 6 = .ok (.invokevirtual 283, 3) := by decide +kernel
theorem dX5_fenceItem_9 : decode cX5_fenceItem 9 = .ok (.aload_n 0, 1) := by decide +kernel
theorem dX5_fenceItem_10 : decode cX5_fenceItem 10 = .ok (.getfield 238, 3) := by decide +kernel
theorem dX5_fenceItem_13 : decode cX5_fenceItem 13 = .ok (.ifCond .ne 12, 3) := by decide +kernel
theorem dX5_fenceItem_16 : decode cX5_fenceItem 16 = .ok (.aload_n 0, 1) := by decide +kernel
theorem dX5_fenceItem_17 : decode cX5_fenceItem 17 = .ok (.aload_n 0, 1) := by decide +kernel
theorem dX5_fenceItem_18 : decode cX5_fenceItem 18 = .ok (.getfield 249, 3) := by decide +kernel
theorem dX5_fenceItem_21 : decode cX5_fenceItem 21 = .ok (.iload_n 1, 1) := by decide +kernel
theorem dX5_fenceItem_22 : decode cX5_fenceItem 22 = .ok (.invokevirtual 72, 3) := by decide +kernel
theorem dX5_fenceItem_25 : decode cX5_fenceItem 25 = .ok (.return_, 1) := by decide +kernel
theorem dX5_rainItem_0 : decode cX5_rainItem 0 = .ok (.aload_n 0, 1) := by decide +kernel
theorem dX5_rainItem_1 : decode cX5_rainItem 1 = .ok (.iconst 1, 1) := by decide +kernel
theorem dX5_rainItem_2 : decode cX5_rainItem 2 = .ok (.invokevirtual 252, 3) := by decide +kernel
theorem dX5_rainItem_5 : decode cX5_rainItem 5 = .ok (.aload_n 0, 1) := by decide +kernel
theorem dX5_rainItem_6 : decode cX5_rainItem 6 = .ok (.iconst 0, 1) := by decide +kernel
theorem dX5_rainItem_7 : decode cX5_rainItem 7 = .ok (.bipush 23, 2) := by decide +kernel
theorem dX5_rainItem_9 : decode cX5_rainItem 9 = .ok (.invokevirtual 278, 3) := by decide +kernel
theorem dX5_rainItem_12 : decode cX5_rainItem 12 = .ok (.aload_n 0, 1) := by decide +kernel
theorem dX5_rainItem_13 : decode cX5_rainItem 13 = .ok (.getfield 249, 3) := by decide +kernel
theorem dX5_rainItem_16 : decode cX5_rainItem 16 = .ok (.istore_n 1, 1) := by decide +kernel
theorem dX5_rainItem_17 : decode cX5_rainItem 17 = .ok (.iload_n 1, 1) := by decide +kernel
theorem dX5_rainItem_18 : decode cX5_rainItem 18 = .ok (.istore_n 2, 1) := by decide +kernel
theorem dX5_rainItem_19 : decode cX5_rainItem 19 = .ok (.aload_n 0, 1) := by decide +kernel
theorem dX5_rainItem_20 : decode cX5_rainItem 20 = .ok (.invokevirtual 256, 3) := by decide +kernel
theorem dX5_rainItem_23 : decode cX5_rainItem 23 = .ok (.ldc2_w 286, 3) := by decide +kernel
theorem dX5_rainItem_26 : decode cX5_rainItem 26 = .ok (.lcmp, 1) := by decide +kernel
theorem dX5_rainItem_27 : decode cX5_rainItem 27 = .ok (.ifCond .ne 20, 3) := by decide +kernel
theorem dX5_rainItem_30 : decode cX5_rainItem 30 = .ok (.aload_n 0, 1) := by decide +kernel
theorem dX5_rainItem_31 : decode cX5_rainItem 31 = .ok (.iconst 1, 1) := by decide +kernel
theorem dX5_rainItem_32 : decode cX5_rainItem 32 = .ok (.invokevirtual 252, 3) := by decide +kernel
theorem dX5_rainItem_35 : decode cX5_rainItem 35 = .ok (.aload_n 0, 1) := by decide +kernel
theorem dX5_rainItem_36 : decode cX5_rainItem 36 = .ok (.iload_n 1, 1) := by decide +kernel
theorem dX5_rainItem_37 : decode cX5_rainItem 37 = .ok (.bipush 23, 2) := by decide +kernel
theorem dX5_rainItem_39 : decode cX5_rainItem 39 = .ok (.invokevirtual 278, 3) := by decide +kernel
theorem dX5_rainItem_42 : decode cX5_rainItem 42 = .ok (.aload_n 0, 1) := by decide +kernel
theorem dX5_rainItem_43 : decode cX5_rainItem 43 = .ok (.getfield 249, 3) := by decide +kernel
theorem dX5_rainItem_46 : decode cX5_rainItem 46 = .ok (.istore_n 2, 1) := by decide +kernel
theorem dX5_rainItem_47 : decode cX5_rainItem 47 = .ok (.iload_n 1, 1) := by decide +kernel
theorem dX5_rainItem_48 : decode cX5_rainItem 48 = .ok (.istore_n 3, 1) := by decide +kernel
theorem dX5_rainItem_49 : decode cX5_rainItem 49 = .ok (.iload_n 3, 1) := by decide +kernel
theorem dX5_rainItem_50 : decode cX5_rainItem 50 = .ok (.iload_n 2, 1) := by decide +kernel
theorem dX5_rainItem_51 : decode cX5_rainItem 51 = .ok (.if_icmp .gt 29, 3) := by decide +kernel
theorem dX5_rainItem_54 : decode cX5_rainItem 54 = .ok (.aload_n 0, 1) := by decide +kernel
theorem dX5_rainItem_55 : decode cX5_rainItem 55 = .ok (.getfield 238, 3) := by decide +kernel
theorem dX5_rainItem_58 : decode cX5_rainItem 58 = .ok (.ifCond .ne 22, 3) := by decide +kernel
theorem dX5_rainItem_61 : decode cX5_rainItem 61 = .ok (.aload_n 0, 1) := by decide +kernel
theorem dX5_rainItem_62 : decode cX5_rainItem 62 = .ok (.getfield 7, 3) := by decide +kernel
theorem dX5_rainItem_65 : decode cX5_rainItem 65 = .ok (.bipush 6, 2) := by decide +kernel
theorem dX5_rainItem_67 : decode cX5_rainItem 67 = .ok (.dup2, 1) := by decide +kernel
theorem dX5_rainItem_68 : decode cX5_rainItem 68 = .ok (.iaload, 1) := by decide +kernel
theorem dX5_rainItem_69 : decode cX5_rainItem 69 = .ok (.iconst 1, 1) := by decide +kernel
theorem dX5_rainItem_70 : decode cX5_rainItem 70 = .ok (.iload_n 3, 1) := by decide +kernel
theorem dX5_rainItem_71 : decode cX5_rainItem 71 = .ok (.ishl, 1) := by decide +kernel
theorem dX5_rainItem_72 : decode cX5_rainItem 72 = .ok (.ior, 1) := by decide +kernel
theorem dX5_rainItem_73 : decode cX5_rainItem 73 = .ok (.iastore, 1) := by decide +kernel
theorem dX5_rainItem_74 : decode cX5_rainItem 74 = .ok (.iinc 3 1, 3) := by decide +kernel
theorem dX5_rainItem_77 : decode cX5_rainItem 77 = .ok (.goto (-28), 3) := by decide +kernel
theorem dX5_rainItem_80 : decode cX5_rainItem 80 = .ok (.return_, 1) := by decide +kernel
theorem dX5_placeItem_0 : decode cX5_placeItem 0 = .ok (.aload_n 0, 1) := by decide +kernel
theorem dX5_placeItem_1 : decode cX5_placeItem 1 = .ok (.iload_n 1, 1) := by decide +kernel
theorem dX5_placeItem_2 : decode cX5_placeItem 2 = .ok (.ifCond .lt 7, 3) := by decide +kernel
theorem dX5_placeItem_5 : decode cX5_placeItem 5 = .ok (.iconst 1, 1) := by decide +kernel
theorem dX5_placeItem_6 : decode cX5_placeItem 6 = .ok (.goto 4, 3) := by decide +kernel
theorem dX5_placeItem_9 : decode cX5_placeItem 9 = .ok (.iconst 0, 1) := by decide +kernel
theorem dX5_placeItem_10 : decode cX5_placeItem 10 = .ok (.invokevirtual 252, 3) := by decide +kernel
theorem dX5_placeItem_13 : decode cX5_placeItem 13 = .ok (.aload_n 0, 1) := by decide +kernel
theorem dX5_placeItem_14 : decode cX5_placeItem 14 = .ok (.invokevirtual 283, 3) := by decide +kernel
theorem dX5_placeItem_17 : decode cX5_placeItem 17 = .ok (.aload_n 0, 1) := by decide +kernel
theorem dX5_placeItem_18 : decode cX5_placeItem 18 = .ok (.getfield 238, 3) := by decide +kernel
theorem dX5_placeItem_21 : decode cX5_placeItem 21 = .ok (.ifCond .ne 15, 3) := by decide +kernel
theorem dX5_placeItem_24 : decode cX5_placeItem 24 = .ok (.aload_n 0, 1) := by decide +kernel
theorem dX5_placeItem_25 : decode cX5_placeItem 25 = .ok (.getfield 7, 3) := by decide +kernel
theorem dX5_placeItem_28 : decode cX5_placeItem 28 = .ok (.iconst 3, 1) := by decide +kernel
theorem dX5_placeItem_29 : decode cX5_placeItem 29 = .ok (.iload_n 1, 1) := by decide +kernel
theorem dX5_placeItem_30 : decode cX5_placeItem 30 = .ok (.iadd, 1) := by decide +kernel
theorem dX5_placeItem_31 : decode cX5_placeItem 31 = .ok (.aload_n 0, 1) := by decide +kernel
theorem dX5_placeItem_32 : decode cX5_placeItem 32 = .ok (.getfield 249, 3) := by decide +kernel
theorem dX5_placeItem_35 : decode cX5_placeItem 35 = .ok (.iastore, 1) := by decide +kernel
theorem dX5_placeItem_36 : decode cX5_placeItem 36 = .ok (.return_, 1) := by decide +kernel
theorem dX5_item_0 : decode cX5_item 0 = .ok (.aload_n 0, 1) := by decide +kernel
theorem dX5_item_1 : decode cX5_item 1 = .ok (.invokevirtual 288, 3) := by decide +kernel
theorem dX5_item_4 : decode cX5_item 4 = .ok (.istore_n 1, 1) := by decide +kernel
theorem dX5_item_5 : decode cX5_item 5 = .ok (.aload_n 0, 1) := by decide +kernel
theorem dX5_item_6 : decode cX5_item 6 = .ok (.invokevirtual 256, 3) := by decide +kernel
theorem dX5_item_9 : decode cX5_item 9 = .ok (.lstore_n 2, 1) := by decide +kernel
theorem dX5_item_10 : decode cX5_item 10 = .ok (.iload_n 1, 1) := by decide +kernel
theorem dX5_item_11 : decode cX5_item 11 = .ok (.ifCond .lt 11, 3) := by decide +kernel
theorem dX5_item_14 : decode cX5_item 14 = .ok (.aload_n 0, 1) := by decide +kernel
theorem dX5_item_15 : decode cX5_item 15 = .ok (.iload_n 1, 1) := by decide +kernel
theorem dX5_item_16 : decode cX5_item 16 = .ok (.invokevirtual 291, 3) := by decide +kernel
theorem dX5_item_19 : decode cX5_item 19 = .ok (.goto 62, 3) := by decide +kernel
theorem dX5_item_22 : decode cX5_item 22 = .ok (.lload_n 2, 1) := by decide +kernel
theorem dX5_item_23 : decode cX5_item 23 = .ok (.ldc2_w 294, 3) := by decide +kernel
theorem dX5_item_26 : decode cX5_item 26 = .ok (.lcmp, 1) := by decide +kernel
theorem dX5_item_27 : decode cX5_item 27 = .ok (.ifCond .eq 11, 3) := by decide +kernel
theorem dX5_item_30 : decode cX5_item 30 = .ok (.lload_n 2, 1) := by decide +kernel
theorem dX5_item_31 : decode cX5_item 31 = .ok (.ldc2_w 296, 3) := by decide +kernel
theorem dX5_item_34 : decode cX5_item 34 = .ok (.lcmp, 1) := by decide +kernel
theorem dX5_item_35 : decode cX5_item 35 = .ok (.ifCond .ne 23, 3) := by decide +kernel
theorem dX5_item_38 : decode cX5_item 38 = .ok (.aload_n 0, 1) := by decide +kernel
theorem dX5_item_39 : decode cX5_item 39 = .ok (.lload_n 2, 1) := by decide +kernel
theorem dX5_item_40 : decode cX5_item 40 = .ok (.ldc2_w 294, 3) := by decide +kernel
theorem dX5_item_43 : decode cX5_item 43 = .ok (.lcmp, 1) := by decide +kernel
theorem dX5_item_44 : decode cX5_item 44 = .ok (.ifCond .ne 7, 3) := by decide +kernel
theorem dX5_item_47 : decode cX5_item 47 = .ok (.iconst 1, 1) := by decide +kernel
theorem dX5_item_48 : decode cX5_item 48 = .ok (.goto 4, 3) := by decide +kernel
theorem dX5_item_51 : decode cX5_item 51 = .ok (.iconst 0, 1) := by decide +kernel
theorem dX5_item_52 : decode cX5_item 52 = .ok (.invokevirtual 298, 3) := by decide +kernel
theorem dX5_item_55 : decode cX5_item 55 = .ok (.goto 26, 3) := by decide +kernel
theorem dX5_item_58 : decode cX5_item 58 = .ok (.lload_n 2, 1) := by decide +kernel
theorem dX5_item_59 : decode cX5_item 59 = .ok (.ldc2_w 301, 3) := by decide +kernel
theorem dX5_item_62 : decode cX5_item 62 = .ok (.lcmp, 1) := by decide +kernel
theorem dX5_item_63 : decode cX5_item 63 = .ok (.ifCond .ne 10, 3) := by decide +kernel
theorem dX5_item_66 : decode cX5_item 66 = .ok (.aload_n 0, 1) := by decide +kernel
theorem dX5_item_67 : decode cX5_item 67 = .ok (.invokevirtual 303, 3) := by decide +kernel
theorem dX5_item_70 : decode cX5_item 70 = .ok (.goto 11, 3) := by decide +kernel
theorem dX5_item_73 : decode cX5_item 73 = .ok (.aload_n 0, 1) := by decide +kernel
theorem dX5_item_74 : decode cX5_item 74 = .ok (.aload_n 0, 1) := by decide +kernel
theorem dX5_item_75 : decode cX5_item 75 = .ok (.invokevirtual 306, 3) := by decide +kernel
theorem dX5_item_78 : decode cX5_item 78 = .ok (.invokevirtual 309, 3) := by decide +kernel
theorem dX5_item_81 : decode cX5_item 81 = .ok (.return_, 1) := by decide +kernel
theorem dX5_island_0 : decode cX5_island 0 = .ok (.aload_n 0, 1) := by decide +kernel
theorem dX5_island_1 : decode cX5_island 1 = .ok (.invokevirtual 312, 3) := by decide +kernel
theorem dX5_island_4 : decode cX5_island 4 = .ok (.aload_n 0, 1) := by decide +kernel
theorem dX5_island_5 : decode cX5_island 5 = .ok (.iconst 0, 1) := by decide +kernel
theorem dX5_island_6 : decode cX5_island 6 = .ok (.putfield 238, 3) := by decide +kernel
theorem dX5_island_9 : decode cX5_island 9 = .ok (.aload_n 0, 1) := by decide +kernel
theorem dX5_island_10 : decode cX5_island 10 = .ok (.iconst 0, 1) := by decide +kernel
theorem dX5_island_11 : decode cX5_island 11 = .ok (.putfield 223, 3) := by decide +kernel
theorem dX5_island_14 : decode cX5_island 14 = .ok (.aload_n 0, 1) := by decide +kernel
theorem dX5_island_15 : decode cX5_island 15 = .ok (.invokevirtual 242, 3) := by decide +kernel
theorem dX5_island_18 : decode cX5_island 18 = .ok (.iconst 1, 1) := by decide +kernel
theorem dX5_island_19 : decode cX5_island 19 = .ok (.istore_n 1, 1) := by decide +kernel
theorem dX5_island_20 : decode cX5_island 20 = .ok (.aload_n 0, 1) := by decide +kernel
theorem dX5_island_21 : decode cX5_island 21 = .ok (.invokevirtual 315, 3) := by decide +kernel
theorem dX5_island_24 : decode cX5_island 24 = .ok (.aload_n 0, 1) := by decide +kernel
theorem dX5_island_25 : decode cX5_island 25 = .ok (.getfield 238, 3) := by decide +kernel
theorem dX5_island_28 : decode cX5_island 28 = .ok (.ifCond .ne 31, 3) := by decide +kernel
theorem dX5_island_31 : decode cX5_island 31 = .ok (.aload_n 0, 1) := by decide +kernel
theorem dX5_island_32 : decode cX5_island 32 = .ok (.aload_n 0, 1) := by decide +kernel
theorem dX5_island_33 : decode cX5_island 33 = .ok (.getfield 226, 3) := by decide +kernel
theorem dX5_island_36 : decode cX5_island 36 = .ok (.invokevirtual 229, 3) := by decide +kernel
theorem dX5_island_39 : decode cX5_island 39 = .ok (.bipush 59, 2) := by decide +kernel
theorem dX5_island_41 : decode cX5_island 41 = .ok (.if_icmp .ne 18, 3) := by decide +kernel
theorem dX5_island_44 : decode cX5_island 44 = .ok (.aload_n 0, 1) := by decide +kernel
theorem dX5_island_45 : decode cX5_island 45 = .ok (.iconst 1, 1) := by decide +kernel
theorem dX5_island_46 : decode cX5_island 46 = .ok (.invokevirtual 252, 3) := by decide +kernel
theorem dX5_island_49 : decode cX5_island 49 = .ok (.aload_n 0, 1) := by decide +kernel
theorem dX5_island_50 : decode cX5_island 50 = .ok (.invokevirtual 315, 3) := by decide +kernel
theorem dX5_island_53 : decode cX5_island 53 = .ok (.iinc 1 1, 3) := by decide +kernel
theorem dX5_island_56 : decode cX5_island 56 = .ok (.goto (-32), 3) := by decide +kernel
theorem dX5_island_59 : decode cX5_island 59 = .ok (.aload_n 0, 1) := by decide +kernel
theorem dX5_island_60 : decode cX5_island 60 = .ok (.aload_n 0, 1) := by decide +kernel
theorem dX5_island_61 : decode cX5_island 61 = .ok (.getfield 238, 3) := by decide +kernel
theorem dX5_island_64 : decode cX5_island 64 = .ok (.ifCond .ne 14, 3) := by decide +kernel
theorem dX5_island_67 : decode cX5_island 67 = .ok (.aload_n 0, 1) := by decide +kernel
theorem dX5_island_68 : decode cX5_island 68 = .ok (.getfield 226, 3) := by decide +kernel
theorem dX5_island_71 : decode cX5_island 71 = .ok (.aload_n 0, 1) := by decide +kernel
theorem dX5_island_72 : decode cX5_island 72 = .ok (.getfield 214, 3) := by decide +kernel
theorem dX5_island_75 : decode cX5_island 75 = .ok (.if_icmp .ge 7, 3) := by decide +kernel
theorem dX5_island_78 : decode cX5_island 78 = .ok (.iconst 1, 1) := by decide +kernel
theorem dX5_island_79 : decode cX5_island 79 = .ok (.goto 4, 3) := by decide +kernel
theorem dX5_island_82 : decode cX5_island 82 = .ok (.iconst 0, 1) := by decide +kernel
theorem dX5_island_83 : decode cX5_island 83 = .ok (.putfield 238, 3) := by decide +kernel
theorem dX5_island_86 : decode cX5_island 86 = .ok (.aload_n 0, 1) := by decide +kernel
theorem dX5_island_87 : decode cX5_island 87 = .ok (.getfield 238, 3) := by decide +kernel
theorem dX5_island_90 : decode cX5_island 90 = .ok (.ifCond .eq 7, 3) := by decide +kernel
theorem dX5_island_93 : decode cX5_island 93 = .ok (.aload_n 0, 1) := by decide +kernel
theorem dX5_island_94 : decode cX5_island 94 = .ok (.invokevirtual 318, 3) := by decide +kernel
theorem dX5_island_97 : decode cX5_island 97 = .ok (.aload_n 0, 1) := by decide +kernel
theorem dX5_island_98 : decode cX5_island 98 = .ok (.iconst 0, 1) := by decide +kernel
theorem dX5_island_99 : decode cX5_island 99 = .ok (.putfield 214, 3) := by decide +kernel
theorem dX5_island_102 : decode cX5_island 102 = .ok (.aload_n 0, 1) := by decide +kernel
theorem dX5_island_103 : decode cX5_island 103 = .ok (.getfield 238, 3) := by decide +kernel
theorem dX5_island_106 : decode cX5_island 106 = .ok (.ifCond .eq 12, 3) := by decide +kernel
theorem dX5_island_109 : decode cX5_island 109 = .ok (.iconst (-1), 1) := by decide +kernel
theorem dX5_island_110 : decode cX5_island 110 = .ok (.aload_n 0, 1) := by decide +kernel
theorem dX5_island_111 : decode cX5_island 111 = .ok (.getfield 226, 3) := by decide +kernel
theorem dX5_island_114 : decode cX5_island 114 = .ok (.isub, 1) := by decide +kernel
theorem dX5_island_115 : decode cX5_island 115 = .ok (.goto 4, 3) := by decide +kernel
theorem dX5_island_118 : decode cX5_island 118 = .ok (.iload_n 1, 1) := by decide +kernel
theorem dX5_island_119 : decode cX5_island 119 = .ok (.ireturn, 1) := by decide +kernel
theorem dX5_isRow_0 : decode cX5_isRow 0 = .ok (.iload_n 0, 1) := by decide +kernel
theorem dX5_isRow_1 : decode cX5_isRow 1 = .ok (.i2l, 1) := by decide +kernel
theorem dX5_isRow_2 : decode cX5_isRow 2 = .ok (.lconst 0, 1) := by decide +kernel
theorem dX5_isRow_3 : decode cX5_isRow 3 = .ok (.ldc2_w 321, 3) := by decide +kernel
theorem dX5_isRow_6 : decode cX5_isRow 6 = .ok (.invokestatic 44, 3) := by decide +kernel
theorem dX5_isRow_9 : decode cX5_isRow 9 = .ok (.ireturn, 1) := by decide +kernel
theorem dX5_sheet_0 : decode cX5_sheet 0 = .ok (.iload_n 1, 1) := by decide +kernel
theorem dX5_sheet_1 : decode cX5_sheet 1 = .ok (.invokestatic 323, 3) := by decide +kernel
theorem dX5_sheet_4 : decode cX5_sheet 4 = .ok (.ifCond .eq 25, 3) := by decide +kernel
theorem dX5_sheet_7 : decode cX5_sheet 7 = .ok (.iload_n 2, 1) := by decide +kernel
theorem dX5_sheet_8 : decode cX5_sheet 8 = .ok (.ifCond .eq 28, 3) := by decide +kernel
theorem dX5_sheet_11 : decode cX5_sheet 11 = .ok (.iload_n 2, 1) := by decide +kernel
theorem dX5_sheet_12 : decode cX5_sheet 12 = .ok (.bipush 8, 2) := by decide +kernel
theorem dX5_sheet_14 : decode cX5_sheet 14 = .ok (.if_icmp .eq 22, 3) := by decide +kernel
theorem dX5_sheet_17 : decode cX5_sheet 17 = .ok (.iload_n 2, 1) := by decide +kernel
theorem dX5_sheet_18 : decode cX5_sheet 18 = .ok (.bipush 16, 2) := by decide +kernel
theorem dX5_sheet_20 : decode cX5_sheet 20 = .ok (.if_icmp .eq 16, 3) := by decide +kernel
theorem dX5_sheet_23 : decode cX5_sheet 23 = .ok (.iload_n 2, 1) := by decide +kernel
theorem dX5_sheet_24 : decode cX5_sheet 24 = .ok (.bipush 64, 2) := by decide +kernel
theorem dX5_sheet_26 : decode cX5_sheet 26 = .ok (.if_icmp .eq 10, 3) := by decide +kernel
theorem dX5_sheet_29 : decode cX5_sheet 29 = .ok (.aload_n 0, 1) := by decide +kernel
theorem dX5_sheet_30 : decode cX5_sheet 30 = .ok (.ldc 41, 2) := by decide +kernel
theorem dX5_sheet_32 : decode cX5_sheet 32 = .ok (.invokevirtual 65, 3) := by decide +kernel
theorem dX5_sheet_35 : decode cX5_sheet 35 = .ok (.ireturn, 1) := by decide +kernel
theorem dX5_sheet_36 : decode cX5_sheet 36 = .ok (.iload_n 3, 1) := by decide +kernel
theorem dX5_sheet_37 : decode cX5_sheet 37 = .ok (.ifCond .ge 11, 3) := by decide +kernel
theorem dX5_sheet_40 : decode cX5_sheet 40 = .ok (.aload_n 0, 1) := by decide +kernel
theorem dX5_sheet_41 : decode cX5_sheet 41 = .ok (.ldc_w 326, 3) := by decide +kernel
theorem dX5_sheet_44 : decode cX5_sheet 44 = .ok (.invokevirtual 65, 3) := by decide +kernel
theorem dX5_sheet_47 : decode cX5_sheet 47 = .ok (.ireturn, 1) := by decide +kernel
theorem dX5_sheet_48 : decode cX5_sheet 48 = .ok (.iload_n 3, 1) := by decide +kernel
theorem dX5_sheet_49 : decode cX5_sheet 49 = .ok (.bipush 40, 2) := by decide +kernel
theorem dX5_sheet_51 : decode cX5_sheet 51 = .ok (.if_icmp .le 10, 3) := by decide +kernel
theorem dX5_sheet_54 : decode cX5_sheet 54 = .ok (.aload_n 0, 1) := by decide +kernel
theorem dX5_sheet_55 : decode cX5_sheet 55 = .ok (.ldc 41, 2) := by decide +kernel
theorem dX5_sheet_57 : decode cX5_sheet 57 = .ok (.invokevirtual 65, 3) := by decide +kernel
theorem dX5_sheet_60 : decode cX5_sheet 60 = .ok (.ireturn, 1) := by decide +kernel
theorem dX5_sheet_61 : decode cX5_sheet 61 = .ok (.aload_n 0, 1) := by decide +kernel
theorem dX5_sheet_62 : decode cX5_sheet 62 = .ok (.getfield 28, 3) := by decide +kernel
theorem dX5_sheet_65 : decode cX5_sheet 65 = .ok (.iload_n 1, 1) := by decide +kernel
theorem dX5_sheet_66 : decode cX5_sheet 66 = .ok (.iload_n 2, 1) := by decide +kernel
theorem dX5_sheet_67 : decode cX5_sheet 67 = .ok (.iastore, 1) := by decide +kernel
theorem dX5_sheet_68 : decode cX5_sheet 68 = .ok (.aload_n 0, 1) := by decide +kernel
theorem dX5_sheet_69 : decode cX5_sheet 69 = .ok (.getfield 31, 3) := by decide +kernel
theorem dX5_sheet_72 : decode cX5_sheet 72 = .ok (.iload_n 1, 1) := by decide +kernel
theorem dX5_sheet_73 : decode cX5_sheet 73 = .ok (.iload_n 2, 1) := by decide +kernel
theorem dX5_sheet_74 : decode cX5_sheet 74 = .ok (.ifCond .ne 7, 3) := by decide +kernel
theorem dX5_sheet_77 : decode cX5_sheet 77 = .ok (.iconst 0, 1) := by decide +kernel
theorem dX5_sheet_78 : decode cX5_sheet 78 = .ok (.goto 4, 3) := by decide +kernel
theorem dX5_sheet_81 : decode cX5_sheet 81 = .ok (.iload_n 3, 1) := by decide +kernel
theorem dX5_sheet_82 : decode cX5_sheet 82 = .ok (.iastore, 1) := by decide +kernel
theorem dX5_sheet_83 : decode cX5_sheet 83 = .ok (.iconst 0, 1) := by decide +kernel
theorem dX5_sheet_84 : decode cX5_sheet 84 = .ok (.istore 4, 2) := by decide +kernel
theorem dX5_sheet_86 : decode cX5_sheet 86 = .ok (.iload 4, 2) := by decide +kernel
theorem dX5_sheet_88 : decode cX5_sheet 88 = .ok (.bipush 40, 2) := by decide +kernel
theorem dX5_sheet_90 : decode cX5_sheet 90 = .ok (.if_icmp .ge 22, 3) := by decide +kernel
theorem dX5_sheet_93 : decode cX5_sheet 93 = .ok (.aload_n 0, 1) := by decide +kernel
theorem dX5_sheet_94 : decode cX5_sheet 94 = .ok (.getfield 34, 3) := by decide +kernel
theorem dX5_sheet_97 : decode cX5_sheet 97 = .ok (.bipush 40, 2) := by decide +kernel
theorem dX5_sheet_99 : decode cX5_sheet 99 = .ok (.iload_n 1, 1) := by decide +kernel
theorem dX5_sheet_100 : decode cX5_sheet 100 = .ok (.imul, 1) := by decide +kernel
theorem dX5_sheet_101 : decode cX5_sheet 101 = .ok (.iload 4, 2) := by decide +kernel
theorem dX5_sheet_103 : decode cX5_sheet 103 = .ok (.iadd, 1) := by decide +kernel
theorem dX5_sheet_104 : decode cX5_sheet 104 = .ok (.lconst 0, 1) := by decide +kernel
theorem dX5_sheet_105 : decode cX5_sheet 105 = .ok (.lastore, 1) := by decide +kernel
theorem dX5_sheet_106 : decode cX5_sheet 106 = .ok (.iinc 4 1, 3) := by decide +kernel
theorem dX5_sheet_109 : decode cX5_sheet 109 = .ok (.goto (-23), 3) := by decide +kernel
theorem dX5_sheet_112 : decode cX5_sheet 112 = .ok (.aload_n 0, 1) := by decide +kernel
theorem dX5_sheet_113 : decode cX5_sheet 113 = .ok (.getfield 31, 3) := by decide +kernel
theorem dX5_sheet_116 : decode cX5_sheet 116 = .ok (.iload_n 1, 1) := by decide +kernel
theorem dX5_sheet_117 : decode cX5_sheet 117 = .ok (.iaload, 1) := by decide +kernel
theorem dX5_sheet_118 : decode cX5_sheet 118 = .ok (.ireturn, 1) := by decide +kernel
theorem dX5_narrowed_0 : decode cX5_narrowed 0 = .ok (.iload_n 0, 1) := by decide +kernel
theorem dX5_narrowed_1 : decode cX5_narrowed 1 = .ok (.bipush 8, 2) := by decide +kernel
theorem dX5_narrowed_3 : decode cX5_narrowed 3 = .ok (.if_icmp .ne 10, 3) := by decide +kernel
theorem dX5_narrowed_6 : decode cX5_narrowed 6 = .ok (.lload_n 1, 1) := by decide +kernel
theorem dX5_narrowed_7 : decode cX5_narrowed 7 = .ok (.l2i, 1) := by decide +kernel
theorem dX5_narrowed_8 : decode cX5_narrowed 8 = .ok (.i2b, 1) := by decide +kernel
theorem dX5_narrowed_9 : decode cX5_narrowed 9 = .ok (.i2l, 1) := by decide +kernel
theorem dX5_narrowed_10 : decode cX5_narrowed 10 = .ok (.goto 17, 3) := by decide +kernel
theorem dX5_narrowed_13 : decode cX5_narrowed 13 = .ok (.iload_n 0, 1) := by decide +kernel
theorem dX5_narrowed_14 : decode cX5_narrowed 14 = .ok (.bipush 16, 2) := by decide +kernel
theorem dX5_narrowed_16 : decode cX5_narrowed 16 = .ok (.if_icmp .ne 10, 3) := by decide +kernel
theorem dX5_narrowed_19 : decode cX5_narrowed 19 = .ok (.lload_n 1, 1) := by decide +kernel
theorem dX5_narrowed_20 : decode cX5_narrowed 20 = .ok (.l2i, 1) := by decide +kernel
theorem dX5_narrowed_21 : decode cX5_narrowed 21 = .ok (.i2s, 1) := by decide +kernel
theorem dX5_narrowed_22 : decode cX5_narrowed 22 = .ok (.i2l, 1) := by decide +kernel
theorem dX5_narrowed_23 : decode cX5_narrowed 23 = .ok (.goto 4, 3) := by decide +kernel
theorem dX5_narrowed_26 : decode cX5_narrowed 26 = .ok (.lload_n 1, 1) := by decide +kernel
theorem dX5_narrowed_27 : decode cX5_narrowed 27 = .ok (.lreturn, 1) := by decide +kernel
theorem dX5_wrong_0 : decode cX5_wrong 0 = .ok (.iload_n 1, 1) := by decide +kernel
theorem dX5_wrong_1 : decode cX5_wrong 1 = .ok (.invokestatic 323, 3) := by decide +kernel
theorem dX5_wrong_4 : decode cX5_wrong 4 = .ok (.ifCond .ne 8, 3) := by decide +kernel
theorem dX5_wrong_7 : decode cX5_wrong 7 = .ok (.ldc 41, 2) := by decide +kernel
theorem dX5_wrong_9 : decode cX5_wrong 9 = .ok (.goto 19, 3) := by decide +kernel
theorem dX5_wrong_12 : decode cX5_wrong 12 = .ok (.aload_n 0, 1) := by decide +kernel
theorem dX5_wrong_13 : decode cX5_wrong 13 = .ok (.getfield 28, 3) := by decide +kernel
theorem dX5_wrong_16 : decode cX5_wrong 16 = .ok (.iload_n 1, 1) := by decide +kernel
theorem dX5_wrong_17 : decode cX5_wrong 17 = .ok (.iaload, 1) := by decide +kernel
theorem dX5_wrong_18 : decode cX5_wrong 18 = .ok (.ifCond .ne 9, 3) := by decide +kernel
theorem dX5_wrong_21 : decode cX5_wrong 21 = .ok (.ldc_w 327, 3) := by decide +kernel
theorem dX5_wrong_24 : decode cX5_wrong 24 = .ok (.goto 4, 3) := by decide +kernel
theorem dX5_wrong_27 : decode cX5_wrong 27 = .ok (.iconst 0, 1) := by decide +kernel
theorem dX5_wrong_28 : decode cX5_wrong 28 = .ok (.ireturn, 1) := by decide +kernel
theorem dX5_write_0 : decode cX5_write 0 = .ok (.aload_n 0, 1) := by decide +kernel
theorem dX5_write_1 : decode cX5_write 1 = .ok (.iload_n 1, 1) := by decide +kernel
theorem dX5_write_2 : decode cX5_write 2 = .ok (.invokevirtual 328, 3) := by decide +kernel
theorem dX5_write_5 : decode cX5_write 5 = .ok (.istore 5, 2) := by decide +kernel
theorem dX5_write_7 : decode cX5_write 7 = .ok (.iload 5, 2) := by decide +kernel
theorem dX5_write_9 : decode cX5_write 9 = .ok (.ifCond .eq 11, 3) := by decide +kernel
theorem dX5_write_12 : decode cX5_write 12 = .ok (.aload_n 0, 1) := by decide +kernel
theorem dX5_write_13 : decode cX5_write 13 = .ok (.iload 5, 2) := by decide +kernel
theorem dX5_write_15 : decode cX5_write 15 = .ok (.invokevirtual 65, 3) := by decide +kernel
theorem dX5_write_18 : decode cX5_write 18 = .ok (.i2l, 1) := by decide +kernel
theorem dX5_write_19 : decode cX5_write 19 = .ok (.lreturn, 1) := by decide +kernel
theorem dX5_write_20 : decode cX5_write 20 = .ok (.iload_n 2, 1) := by decide +kernel
theorem dX5_write_21 : decode cX5_write 21 = .ok (.i2l, 1) := by decide +kernel
theorem dX5_write_22 : decode cX5_write 22 = .ok (.lconst 0, 1) := by decide +kernel
theorem dX5_write_23 : decode cX5_write 23 = .ok (.aload_n 0, 1) := by decide +kernel
theorem dX5_write_24 : decode cX5_write 24 = .ok (.getfield 31, 3) := by decide +kernel
theorem dX5_write_27 : decode cX5_write 27 = .ok (.iload_n 1, 1) := by decide +kernel
theorem dX5_write_28 : decode cX5_write 28 = .ok (.iaload, 1) := by decide +kernel
theorem dX5_write_29 : decode cX5_write 29 = .ok (.iconst 1, 1) := by decide +kernel
theorem dX5_write_30 : decode cX5_write 30 = .ok (.isub, 1) := by decide +kernel
theorem dX5_write_31 : decode cX5_write 31 = .ok (.i2l, 1) := by decide +kernel
theorem dX5_write_32 : decode cX5_write 32 = .ok (.invokestatic 44, 3) := by decide +kernel
theorem dX5_write_35 : decode cX5_write 35 = .ok (.ifCond .ne 11, 3) := by decide +kernel
theorem dX5_write_38 : decode cX5_write 38 = .ok (.aload_n 0, 1) := by decide +kernel
theorem dX5_write_39 : decode cX5_write 39 = .ok (.ldc 41, 2) := by decide +kernel
theorem dX5_write_41 : decode cX5_write 41 = .ok (.invokevirtual 65, 3) := by decide +kernel
theorem dX5_write_44 : decode cX5_write 44 = .ok (.i2l, 1) := by decide +kernel
theorem dX5_write_45 : decode cX5_write 45 = .ok (.lreturn, 1) := by decide +kernel
theorem dX5_write_46 : decode cX5_write 46 = .ok (.aload_n 0, 1) := by decide +kernel
theorem dX5_write_47 : decode cX5_write 47 = .ok (.getfield 34, 3) := by decide +kernel
theorem dX5_write_50 : decode cX5_write 50 = .ok (.bipush 40, 2) := by decide +kernel
theorem dX5_write_52 : decode cX5_write 52 = .ok (.iload_n 1, 1) := by decide +kernel
theorem dX5_write_53 : decode cX5_write 53 = .ok (.imul, 1) := by decide +kernel
theorem dX5_write_54 : decode cX5_write 54 = .ok (.iload_n 2, 1) := by decide +kernel
theorem dX5_write_55 : decode cX5_write 55 = .ok (.iadd, 1) := by decide +kernel
theorem dX5_write_56 : decode cX5_write 56 = .ok (.laload, 1) := by decide +kernel
theorem dX5_write_57 : decode cX5_write 57 = .ok (.lstore 6, 2) := by decide +kernel
theorem dX5_write_59 : decode cX5_write 59 = .ok (.aload_n 0, 1) := by decide +kernel
theorem dX5_write_60 : decode cX5_write 60 = .ok (.getfield 34, 3) := by decide +kernel
theorem dX5_write_63 : decode cX5_write 63 = .ok (.bipush 40, 2) := by decide +kernel
theorem dX5_write_65 : decode cX5_write 65 = .ok (.iload_n 1, 1) := by decide +kernel
theorem dX5_write_66 : decode cX5_write 66 = .ok (.imul, 1) := by decide +kernel
theorem dX5_write_67 : decode cX5_write 67 = .ok (.iload_n 2, 1) := by decide +kernel
theorem dX5_write_68 : decode cX5_write 68 = .ok (.iadd, 1) := by decide +kernel
theorem dX5_write_69 : decode cX5_write 69 = .ok (.aload_n 0, 1) := by decide +kernel
theorem dX5_write_70 : decode cX5_write 70 = .ok (.getfield 28, 3) := by decide +kernel
theorem dX5_write_73 : decode cX5_write 73 = .ok (.iload_n 1, 1) := by decide +kernel
