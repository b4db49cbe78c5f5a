theorem dX3_init_0 : decode cX3_init 0 = .ok (.aload_n 0, 1) := by decide +kernel
theorem dX3_init_1 : decode cX3_init 1 = .ok (.invokespecial 3, 3) := by decide +kernel
theorem dX3_init_4 : decode cX3_init 4 = .ok (.aload_n 0, 1) := by decide +kernel
theorem dX3_init_5 : decode cX3_init 5 = .ok (.bipush 120, 2) := by decide +kernel
theorem dX3_init_7 : decode cX3_init 7 = .ok (.newarray .int, 2) := by decide +kernel
theorem dX3_init_9 : decode cX3_init 9 = .ok (.putfield 9, 3) := by decide +kernel
theorem dX3_init_12 : decode cX3_init 12 = .ok (.return_, 1) := by decide +kernel
theorem dX3_takes_0 : decode cX3_takes 0 = .ok (.iload_n 2, 1) := by decide +kernel
theorem dX3_takes_1 : decode cX3_takes 1 = .ok (.iconst 1, 1) := by decide +kernel
theorem dX3_takes_2 : decode cX3_takes 2 = .ok (.isub, 1) := by decide +kernel
theorem dX3_takes_3 : decode cX3_takes 3 = .ok (.istore_n 3, 1) := by decide +kernel
theorem dX3_takes_4 : decode cX3_takes 4 = .ok (.iload_n 3, 1) := by decide +kernel
theorem dX3_takes_5 : decode cX3_takes 5 = .ok (.ifCond .lt 38, 3) := by decide +kernel
theorem dX3_takes_8 : decode cX3_takes 8 = .ok (.aload_n 0, 1) := by decide +kernel
theorem dX3_takes_9 : decode cX3_takes 9 = .ok (.getfield 9, 3) := by decide +kernel
theorem dX3_takes_12 : decode cX3_takes 12 = .ok (.aload_n 0, 1) := by decide +kernel
theorem dX3_takes_13 : decode cX3_takes 13 = .ok (.getfield 15, 3) := by decide +kernel
theorem dX3_takes_16 : decode cX3_takes 16 = .ok (.iload_n 1, 1) := by decide +kernel
theorem dX3_takes_17 : decode cX3_takes 17 = .ok (.bipush 8, 2) := by decide +kernel
theorem dX3_takes_19 : decode cX3_takes 19 = .ok (.iload_n 3, 1) := by decide +kernel
theorem dX3_takes_20 : decode cX3_takes 20 = .ok (.imul, 1) := by decide +kernel
theorem dX3_takes_21 : decode cX3_takes 21 = .ok (.iushr, 1) := by decide +kernel
theorem dX3_takes_22 : decode cX3_takes 22 = .ok (.sipush 255, 3) := by decide +kernel
theorem dX3_takes_25 : decode cX3_takes 25 = .ok (.iand, 1) := by decide +kernel
theorem dX3_takes_26 : decode cX3_takes 26 = .ok (.iastore, 1) := by decide +kernel
theorem dX3_takes_27 : decode cX3_takes 27 = .ok (.aload_n 0, 1) := by decide +kernel
theorem dX3_takes_28 : decode cX3_takes 28 = .ok (.dup, 1) := by decide +kernel
theorem dX3_takes_29 : decode cX3_takes 29 = .ok (.getfield 15, 3) := by decide +kernel
theorem dX3_takes_32 : decode cX3_takes 32 = .ok (.iconst 1, 1) := by decide +kernel
theorem dX3_takes_33 : decode cX3_takes 33 = .ok (.iadd, 1) := by decide +kernel
theorem dX3_takes_34 : decode cX3_takes 34 = .ok (.putfield 15, 3) := by decide +kernel
theorem dX3_takes_37 : decode cX3_takes 37 = .ok (.iinc 3 (-1), 3) := by decide +kernel
theorem dX3_takes_40 : decode cX3_takes 40 = .ok (.goto (-36), 3) := by decide +kernel
theorem dX3_takes_43 : decode cX3_takes 43 = .ok (.return_, 1) := by decide +kernel
theorem dX3_tellsTo_0 : decode cX3_tellsTo 0 = .ok (.aload_n 0, 1) := by decide +kernel
theorem dX3_tellsTo_1 : decode cX3_tellsTo 1 = .ok (.iconst 0, 1) := by decide +kernel
theorem dX3_tellsTo_2 : decode cX3_tellsTo 2 = .ok (.putfield 19, 3) := by decide +kernel
theorem dX3_tellsTo_5 : decode cX3_tellsTo 5 = .ok (.aload_n 0, 1) := by decide +kernel
theorem dX3_tellsTo_6 : decode cX3_tellsTo 6 = .ok (.invokevirtual 22, 3) := by decide +kernel
theorem dX3_tellsTo_9 : decode cX3_tellsTo 9 = .ok (.iconst 1, 1) := by decide +kernel
theorem dX3_tellsTo_10 : decode cX3_tellsTo 10 = .ok (.istore_n 2, 1) := by decide +kernel
theorem dX3_tellsTo_11 : decode cX3_tellsTo 11 = .ok (.iload_n 2, 1) := by decide +kernel
theorem dX3_tellsTo_12 : decode cX3_tellsTo 12 = .ok (.bipush 120, 2) := by decide +kernel
theorem dX3_tellsTo_14 : decode cX3_tellsTo 14 = .ok (.if_icmp .gt 44, 3) := by decide +kernel
theorem dX3_tellsTo_17 : decode cX3_tellsTo 17 = .ok (.aload_n 0, 1) := by decide +kernel
theorem dX3_tellsTo_18 : decode cX3_tellsTo 18 = .ok (.aload_n 1, 1) := by decide +kernel
theorem dX3_tellsTo_19 : decode cX3_tellsTo 19 = .ok (.invokevirtual 25, 3) := by decide +kernel
theorem dX3_tellsTo_22 : decode cX3_tellsTo 22 = .ok (.ifCond .ne 6, 3) := by decide +kernel
theorem dX3_tellsTo_25 : decode cX3_tellsTo 25 = .ok (.goto 33, 3) := by decide +kernel
theorem dX3_tellsTo_28 : decode cX3_tellsTo 28 = .ok (.aload_n 0, 1) := by decide +kernel
theorem dX3_tellsTo_29 : decode cX3_tellsTo 29 = .ok (.getfield 29, 3) := by decide +kernel
theorem dX3_tellsTo_32 : decode cX3_tellsTo 32 = .ok (.ifCond .ne 5, 3) := by decide +kernel
theorem dX3_tellsTo_35 : decode cX3_tellsTo 35 = .ok (.iload_n 2, 1) := by decide +kernel
theorem dX3_tellsTo_36 : decode cX3_tellsTo 36 = .ok (.ireturn, 1) := by decide +kernel
theorem dX3_tellsTo_37 : decode cX3_tellsTo 37 = .ok (.aload_n 0, 1) := by decide +kernel
theorem dX3_tellsTo_38 : decode cX3_tellsTo 38 = .ok (.getfield 29, 3) := by decide +kernel
theorem dX3_tellsTo_41 : decode cX3_tellsTo 41 = .ok (.iconst 3, 1) := by decide +kernel
theorem dX3_tellsTo_42 : decode cX3_tellsTo 42 = .ok (.if_icmp .eq 6, 3) := by decide +kernel
theorem dX3_tellsTo_45 : decode cX3_tellsTo 45 = .ok (.goto 13, 3) := by decide +kernel
theorem dX3_tellsTo_48 : decode cX3_tellsTo 48 = .ok (.aload_n 0, 1) := by decide +kernel
theorem dX3_tellsTo_49 : decode cX3_tellsTo 49 = .ok (.invokevirtual 22, 3) := by decide +kernel
theorem dX3_tellsTo_52 : decode cX3_tellsTo 52 = .ok (.iinc 2 1, 3) := by decide +kernel
theorem dX3_tellsTo_55 : decode cX3_tellsTo 55 = .ok (.goto (-44), 3) := by decide +kernel
theorem dX3_tellsTo_58 : decode cX3_tellsTo 58 = .ok (.iconst (-1), 1) := by decide +kernel
theorem dX3_tellsTo_59 : decode cX3_tellsTo 59 = .ok (.aload_n 0, 1) := by decide +kernel
theorem dX3_tellsTo_60 : decode cX3_tellsTo 60 = .ok (.getfield 32, 3) := by decide +kernel
theorem dX3_tellsTo_63 : decode cX3_tellsTo 63 = .ok (.isub, 1) := by decide +kernel
theorem dX3_tellsTo_64 : decode cX3_tellsTo 64 = .ok (.ireturn, 1) := by decide +kernel
theorem dX3_tellsItem_0 : decode cX3_tellsItem 0 = .ok (.aload_n 0, 1) := by decide +kernel
theorem dX3_tellsItem_1 : decode cX3_tellsItem 1 = .ok (.getfield 29, 3) := by decide +kernel
theorem dX3_tellsItem_4 : decode cX3_tellsItem 4 = .ok (.iconst 1, 1) := by decide +kernel
theorem dX3_tellsItem_5 : decode cX3_tellsItem 5 = .ok (.if_icmp .eq 5, 3) := by decide +kernel
theorem dX3_tellsItem_8 : decode cX3_tellsItem 8 = .ok (.iconst 0, 1) := by decide +kernel
theorem dX3_tellsItem_9 : decode cX3_tellsItem 9 = .ok (.ireturn, 1) := by decide +kernel
theorem dX3_tellsItem_10 : decode cX3_tellsItem 10 = .ok (.aload_n 0, 1) := by decide +kernel
theorem dX3_tellsItem_11 : decode cX3_tellsItem 11 = .ok (.invokevirtual 35, 3) := by decide +kernel
theorem dX3_tellsItem_14 : decode cX3_tellsItem 14 = .ok (.istore_n 2, 1) := by decide +kernel
theorem dX3_tellsItem_15 : decode cX3_tellsItem 15 = .ok (.iload_n 2, 1) := by decide +kernel
theorem dX3_tellsItem_16 : decode cX3_tellsItem 16 = .ok (.iconst (-1), 1) := by decide +kernel
theorem dX3_tellsItem_17 : decode cX3_tellsItem 17 = .ok (.if_icmp .eq 10, 3) := by decide +kernel
theorem dX3_tellsItem_20 : decode cX3_tellsItem 20 = .ok (.aload_n 0, 1) := by decide +kernel
theorem dX3_tellsItem_21 : decode cX3_tellsItem 21 = .ok (.aload_n 1, 1) := by decide +kernel
theorem dX3_tellsItem_22 : decode cX3_tellsItem 22 = .ok (.iload_n 2, 1) := by decide +kernel
theorem dX3_tellsItem_23 : decode cX3_tellsItem 23 = .ok (.invokevirtual 39, 3) := by decide +kernel
theorem dX3_tellsItem_26 : decode cX3_tellsItem 26 = .ok (.ireturn, 1) := by decide +kernel
theorem dX3_tellsItem_27 : decode cX3_tellsItem 27 = .ok (.aload_n 0, 1) := by decide +kernel
theorem dX3_tellsItem_28 : decode cX3_tellsItem 28 = .ok (.ldc 43, 2) := by decide +kernel
theorem dX3_tellsItem_30 : decode cX3_tellsItem 30 = .ok (.invokevirtual 45, 3) := by decide +kernel
theorem dX3_tellsItem_33 : decode cX3_tellsItem 33 = .ok (.ifCond .eq 10, 3) := by decide +kernel
theorem dX3_tellsItem_36 : decode cX3_tellsItem 36 = .ok (.aload_n 0, 1) := by decide +kernel
theorem dX3_tellsItem_37 : decode cX3_tellsItem 37 = .ok (.aload_n 1, 1) := by decide +kernel
theorem dX3_tellsItem_38 : decode cX3_tellsItem 38 = .ok (.iconst 1, 1) := by decide +kernel
theorem dX3_tellsItem_39 : decode cX3_tellsItem 39 = .ok (.invokevirtual 49, 3) := by decide +kernel
theorem dX3_tellsItem_42 : decode cX3_tellsItem 42 = .ok (.ireturn, 1) := by decide +kernel
theorem dX3_tellsItem_43 : decode cX3_tellsItem 43 = .ok (.aload_n 0, 1) := by decide +kernel
theorem dX3_tellsItem_44 : decode cX3_tellsItem 44 = .ok (.ldc 53, 2) := by decide +kernel
theorem dX3_tellsItem_46 : decode cX3_tellsItem 46 = .ok (.invokevirtual 45, 3) := by decide +kernel
theorem dX3_tellsItem_49 : decode cX3_tellsItem 49 = .ok (.ifCond .eq 10, 3) := by decide +kernel
theorem dX3_tellsItem_52 : decode cX3_tellsItem 52 = .ok (.aload_n 0, 1) := by decide +kernel
theorem dX3_tellsItem_53 : decode cX3_tellsItem 53 = .ok (.aload_n 1, 1) := by decide +kernel
theorem dX3_tellsItem_54 : decode cX3_tellsItem 54 = .ok (.iconst 0, 1) := by decide +kernel
theorem dX3_tellsItem_55 : decode cX3_tellsItem 55 = .ok (.invokevirtual 49, 3) := by decide +kernel
theorem dX3_tellsItem_58 : decode cX3_tellsItem 58 = .ok (.ireturn, 1) := by decide +kernel
theorem dX3_tellsItem_59 : decode cX3_tellsItem 59 = .ok (.aload_n 0, 1) := by decide +kernel
theorem dX3_tellsItem_60 : decode cX3_tellsItem 60 = .ok (.ldc 55, 2) := by decide +kernel
theorem dX3_tellsItem_62 : decode cX3_tellsItem 62 = .ok (.invokevirtual 45, 3) := by decide +kernel
theorem dX3_tellsItem_65 : decode cX3_tellsItem 65 = .ok (.ifCond .eq 9, 3) := by decide +kernel
theorem dX3_tellsItem_68 : decode cX3_tellsItem 68 = .ok (.aload_n 0, 1) := by decide +kernel
theorem dX3_tellsItem_69 : decode cX3_tellsItem 69 = .ok (.aload_n 1, 1) := by decide +kernel
theorem dX3_tellsItem_70 : decode cX3_tellsItem 70 = .ok (.invokevirtual 57, 3) := by decide +kernel
theorem dX3_tellsItem_73 : decode cX3_tellsItem 73 = .ok (.ireturn, 1) := by decide +kernel
theorem dX3_tellsItem_74 : decode cX3_tellsItem 74 = .ok (.aload_n 0, 1) := by decide +kernel
theorem dX3_tellsItem_75 : decode cX3_tellsItem 75 = .ok (.ldc 60, 2) := by decide +kernel
theorem dX3_tellsItem_77 : decode cX3_tellsItem 77 = .ok (.invokevirtual 45, 3) := by decide +kernel
theorem dX3_tellsItem_80 : decode cX3_tellsItem 80 = .ok (.ifCond .eq 10, 3) := by decide +kernel
theorem dX3_tellsItem_83 : decode cX3_tellsItem 83 = .ok (.aload_n 0, 1) := by decide +kernel
theorem dX3_tellsItem_84 : decode cX3_tellsItem 84 = .ok (.aload_n 1, 1) := by decide +kernel
theorem dX3_tellsItem_85 : decode cX3_tellsItem 85 = .ok (.iconst 0, 1) := by decide +kernel
theorem dX3_tellsItem_86 : decode cX3_tellsItem 86 = .ok (.invokevirtual 62, 3) := by decide +kernel
theorem dX3_tellsItem_89 : decode cX3_tellsItem 89 = .ok (.ireturn, 1) := by decide +kernel
theorem dX3_tellsItem_90 : decode cX3_tellsItem 90 = .ok (.aload_n 0, 1) := by decide +kernel
theorem dX3_tellsItem_91 : decode cX3_tellsItem 91 = .ok (.ldc 65, 2) := by decide +kernel
theorem dX3_tellsItem_93 : decode cX3_tellsItem 93 = .ok (.invokevirtual 45, 3) := by decide +kernel
theorem dX3_tellsItem_96 : decode cX3_tellsItem 96 = .ok (.ifCond .eq 10, 3) := by decide +kernel
theorem dX3_tellsItem_99 : decode cX3_tellsItem 99 = .ok (.aload_n 0, 1) := by decide +kernel
theorem dX3_tellsItem_100 : decode cX3_tellsItem 100 = .ok (.aload_n 1, 1) := by decide +kernel
theorem dX3_tellsItem_101 : decode cX3_tellsItem 101 = .ok (.iconst 1, 1) := by decide +kernel
theorem dX3_tellsItem_102 : decode cX3_tellsItem 102 = .ok (.invokevirtual 62, 3) := by decide +kernel
theorem dX3_tellsItem_105 : decode cX3_tellsItem 105 = .ok (.ireturn, 1) := by decide +kernel
theorem dX3_tellsItem_106 : decode cX3_tellsItem 106 = .ok (.aload_n 0, 1) := by decide +kernel
theorem dX3_tellsItem_107 : decode cX3_tellsItem 107 = .ok (.ldc 67, 2) := by decide +kernel
theorem dX3_tellsItem_109 : decode cX3_tellsItem 109 = .ok (.invokevirtual 45, 3) := by decide +kernel
theorem dX3_tellsItem_112 : decode cX3_tellsItem 112 = .ok (.ifCond .eq 16, 3) := by decide +kernel
theorem dX3_tellsItem_115 : decode cX3_tellsItem 115 = .ok (.aload_n 0, 1) := by decide +kernel
theorem dX3_tellsItem_116 : decode cX3_tellsItem 116 = .ok (.aload_n 1, 1) := by decide +kernel
theorem dX3_tellsItem_117 : decode cX3_tellsItem 117 = .ok (.iconst 2, 1) := by decide +kernel
theorem dX3_tellsItem_118 : decode cX3_tellsItem 118 = .ok (.invokevirtual 62, 3) := by decide +kernel
theorem dX3_tellsItem_121 : decode cX3_tellsItem 121 = .ok (.ifCond .eq 7, 3) := by decide +kernel
theorem dX3_tellsItem_124 : decode cX3_tellsItem 124 = .ok (.iconst 1, 1) := by decide +kernel
theorem dX3_tellsItem_125 : decode cX3_tellsItem 125 = .ok (.goto 4, 3) := by decide +kernel
theorem dX3_tellsItem_128 : decode cX3_tellsItem 128 = .ok (.iconst 0, 1) := by decide +kernel
theorem dX3_tellsItem_129 : decode cX3_tellsItem 129 = .ok (.ireturn, 1) := by decide +kernel
theorem dX3_kindTold_0 : decode cX3_kindTold 0 = .ok (.iconst 0, 1) := by decide +kernel
theorem dX3_kindTold_1 : decode cX3_kindTold 1 = .ok (.istore_n 1, 1) := by decide +kernel
theorem dX3_kindTold_2 : decode cX3_kindTold 2 = .ok (.iload_n 1, 1) := by decide +kernel
theorem dX3_kindTold_3 : decode cX3_kindTold 3 = .ok (.bipush 6, 2) := by decide +kernel
theorem dX3_kindTold_5 : decode cX3_kindTold 5 = .ok (.if_icmp .ge 22, 3) := by decide +kernel
theorem dX3_kindTold_8 : decode cX3_kindTold 8 = .ok (.aload_n 0, 1) := by decide +kernel
theorem dX3_kindTold_9 : decode cX3_kindTold 9 = .ok (.iload_n 1, 1) := by decide +kernel
theorem dX3_kindTold_10 : decode cX3_kindTold 10 = .ok (.invokestatic 69, 3) := by decide +kernel
theorem dX3_kindTold_13 : decode cX3_kindTold 13 = .ok (.invokevirtual 45, 3) := by decide +kernel
theorem dX3_kindTold_16 : decode cX3_kindTold 16 = .ok (.ifCond .eq 5, 3) := by decide +kernel
theorem dX3_kindTold_19 : decode cX3_kindTold 19 = .ok (.iload_n 1, 1) := by decide +kernel
theorem dX3_kindTold_20 : decode cX3_kindTold 20 = .ok (.ireturn, 1) := by decide +kernel
theorem dX3_kindTold_21 : decode cX3_kindTold 21 = .ok (.iinc 1 1, 3) := by decide +kernel
theorem dX3_kindTold_24 : decode cX3_kindTold 24 = .ok (.goto (-22), 3) := by decide +kernel
theorem dX3_kindTold_27 : decode cX3_kindTold 27 = .ok (.iconst (-1), 1) := by decide +kernel
theorem dX3_kindTold_28 : decode cX3_kindTold 28 = .ok (.ireturn, 1) := by decide +kernel
theorem dX3_nameOf_0 : decode cX3_nameOf 0 = .ok (.iload_n 0, 1) := by decide +kernel
theorem dX3_nameOf_1 : decode cX3_nameOf 1 = .ok (.tableswitch 50 1 5 #[35, 38, 41, 44, 47], 35) := by decide +kernel
theorem dX3_nameOf_36 : decode cX3_nameOf 36 = .ok (.ldc 73, 2) := by decide +kernel
theorem dX3_nameOf_38 : decode cX3_nameOf 38 = .ok (.areturn, 1) := by decide +kernel
theorem dX3_nameOf_39 : decode cX3_nameOf 39 = .ok (.ldc 75, 2) := by decide +kernel
theorem dX3_nameOf_41 : decode cX3_nameOf 41 = .ok (.areturn, 1) := by decide +kernel
theorem dX3_nameOf_42 : decode cX3_nameOf 42 = .ok (.ldc 77, 2) := by decide +kernel
theorem dX3_nameOf_44 : decode cX3_nameOf 44 = .ok (.areturn, 1) := by decide +kernel
theorem dX3_nameOf_45 : decode cX3_nameOf 45 = .ok (.ldc 79, 2) := by decide +kernel
theorem dX3_nameOf_47 : decode cX3_nameOf 47 = .ok (.areturn, 1) := by decide +kernel
theorem dX3_nameOf_48 : decode cX3_nameOf 48 = .ok (.ldc 81, 2) := by decide +kernel
theorem dX3_nameOf_50 : decode cX3_nameOf 50 = .ok (.areturn, 1) := by decide +kernel
theorem dX3_nameOf_51 : decode cX3_nameOf 51 = .ok (.ldc 83, 2) := by decide +kernel
theorem dX3_nameOf_53 : decode cX3_nameOf 53 = .ok (.areturn, 1) := by decide +kernel
theorem dX3_tellsTortoise_0 : decode cX3_tellsTortoise 0 = .ok (.aload_n 1, 1) := by decide +kernel
theorem dX3_tellsTortoise_1 : decode cX3_tellsTortoise 1 = .ok (.invokevirtual 85, 3) := by decide +kernel
theorem dX3_tellsTortoise_4 : decode cX3_tellsTortoise 4 = .ok (.ifCond .eq 5, 3) := by decide +kernel
theorem dX3_tellsTortoise_7 : decode cX3_tellsTortoise 7 = .ok (.iconst 0, 1) := by decide +kernel
theorem dX3_tellsTortoise_8 : decode cX3_tellsTortoise 8 = .ok (.ireturn, 1) := by decide +kernel
theorem dX3_tellsTortoise_9 : decode cX3_tellsTortoise 9 = .ok (.aload_n 0, 1) := by decide +kernel
theorem dX3_tellsTortoise_10 : decode cX3_tellsTortoise 10 = .ok (.invokevirtual 22, 3) := by decide +kernel
theorem dX3_tellsTortoise_13 : decode cX3_tellsTortoise 13 = .ok (.aload_n 0, 1) := by decide +kernel
theorem dX3_tellsTortoise_14 : decode cX3_tellsTortoise 14 = .ok (.ldc 91, 2) := by decide +kernel
theorem dX3_tellsTortoise_16 : decode cX3_tellsTortoise 16 = .ok (.invokevirtual 45, 3) := by decide +kernel
theorem dX3_tellsTortoise_19 : decode cX3_tellsTortoise 19 = .ok (.ifCond .ne 5, 3) := by decide +kernel
theorem dX3_tellsTortoise_22 : decode cX3_tellsTortoise 22 = .ok (.iconst 0, 1) := by decide +kernel
theorem dX3_tellsTortoise_23 : decode cX3_tellsTortoise 23 = .ok (.ireturn, 1) := by decide +kernel
theorem dX3_tellsTortoise_24 : decode cX3_tellsTortoise 24 = .ok (.aload_n 0, 1) := by decide +kernel
theorem dX3_tellsTortoise_25 : decode cX3_tellsTortoise 25 = .ok (.invokevirtual 22, 3) := by decide +kernel
theorem dX3_tellsTortoise_28 : decode cX3_tellsTortoise 28 = .ok (.aload_n 0, 1) := by decide +kernel
theorem dX3_tellsTortoise_29 : decode cX3_tellsTortoise 29 = .ok (.iconst 0, 1) := by decide +kernel
theorem dX3_tellsTortoise_30 : decode cX3_tellsTortoise 30 = .ok (.bipush 29, 2) := by decide +kernel
theorem dX3_tellsTortoise_32 : decode cX3_tellsTortoise 32 = .ok (.invokevirtual 93, 3) := by decide +kernel
theorem dX3_tellsTortoise_35 : decode cX3_tellsTortoise 35 = .ok (.ifCond .ne 5, 3) := by decide +kernel
theorem dX3_tellsTortoise_38 : decode cX3_tellsTortoise 38 = .ok (.iconst 0, 1) := by decide +kernel
theorem dX3_tellsTortoise_39 : decode cX3_tellsTortoise 39 = .ok (.ireturn, 1) := by decide +kernel
theorem dX3_tellsTortoise_40 : decode cX3_tellsTortoise 40 = .ok (.aload_n 0, 1) := by decide +kernel
theorem dX3_tellsTortoise_41 : decode cX3_tellsTortoise 41 = .ok (.getfield 97, 3) := by decide +kernel
theorem dX3_tellsTortoise_44 : decode cX3_tellsTortoise 44 = .ok (.istore_n 3, 1) := by decide +kernel
theorem dX3_tellsTortoise_45 : decode cX3_tellsTortoise 45 = .ok (.iconst 0, 1) := by decide +kernel
theorem dX3_tellsTortoise_46 : decode cX3_tellsTortoise 46 = .ok (.istore 4, 2) := by decide +kernel
theorem dX3_tellsTortoise_48 : decode cX3_tellsTortoise 48 = .ok (.iconst 0, 1) := by decide +kernel
theorem dX3_tellsTortoise_49 : decode cX3_tellsTortoise 49 = .ok (.istore 5, 2) := by decide +kernel
theorem dX3_tellsTortoise_51 : decode cX3_tellsTortoise 51 = .ok (.iload 5, 2) := by decide +kernel
theorem dX3_tellsTortoise_53 : decode cX3_tellsTortoise 53 = .ok (.bipush 120, 2) := by decide +kernel
theorem dX3_tellsTortoise_55 : decode cX3_tellsTortoise 55 = .ok (.if_icmp .ge 40, 3) := by decide +kernel
theorem dX3_tellsTortoise_58 : decode cX3_tellsTortoise 58 = .ok (.aload_n 0, 1) := by decide +kernel
theorem dX3_tellsTortoise_59 : decode cX3_tellsTortoise 59 = .ok (.getfield 29, 3) := by decide +kernel
theorem dX3_tellsTortoise_62 : decode cX3_tellsTortoise 62 = .ok (.iconst 2, 1) := by decide +kernel
theorem dX3_tellsTortoise_63 : decode cX3_tellsTortoise 63 = .ok (.if_icmp .ne 32, 3) := by decide +kernel
theorem dX3_tellsTortoise_66 : decode cX3_tellsTortoise 66 = .ok (.aload_n 0, 1) := by decide +kernel
theorem dX3_tellsTortoise_67 : decode cX3_tellsTortoise 67 = .ok (.iconst 0, 1) := by decide +kernel
theorem dX3_tellsTortoise_68 : decode cX3_tellsTortoise 68 = .ok (.bipush 11, 2) := by decide +kernel
theorem dX3_tellsTortoise_70 : decode cX3_tellsTortoise 70 = .ok (.invokevirtual 93, 3) := by decide +kernel
theorem dX3_tellsTortoise_73 : decode cX3_tellsTortoise 73 = .ok (.ifCond .ne 5, 3) := by decide +kernel
theorem dX3_tellsTortoise_76 : decode cX3_tellsTortoise 76 = .ok (.iconst 0, 1) := by decide +kernel
theorem dX3_tellsTortoise_77 : decode cX3_tellsTortoise 77 = .ok (.ireturn, 1) := by decide +kernel
theorem dX3_tellsTortoise_78 : decode cX3_tellsTortoise 78 = .ok (.iload 4, 2) := by decide +kernel
theorem dX3_tellsTortoise_80 : decode cX3_tellsTortoise 80 = .ok (.iconst 1, 1) := by decide +kernel
theorem dX3_tellsTortoise_81 : decode cX3_tellsTortoise 81 = .ok (.aload_n 0, 1) := by decide +kernel
theorem dX3_tellsTortoise_82 : decode cX3_tellsTortoise 82 = .ok (.getfield 97, 3) := by decide +kernel
theorem dX3_tellsTortoise_85 : decode cX3_tellsTortoise 85 = .ok (.ishl, 1) := by decide +kernel
theorem dX3_tellsTortoise_86 : decode cX3_tellsTortoise 86 = .ok (.ior, 1) := by decide +kernel
theorem dX3_tellsTortoise_87 : decode cX3_tellsTortoise 87 = .ok (.istore 4, 2) := by decide +kernel
theorem dX3_tellsTortoise_89 : decode cX3_tellsTortoise 89 = .ok (.iinc 5 1, 3) := by decide +kernel
theorem dX3_tellsTortoise_92 : decode cX3_tellsTortoise 92 = .ok (.goto (-41), 3) := by decide +kernel
theorem dX3_tellsTortoise_95 : decode cX3_tellsTortoise 95 = .ok (.aload_n 1, 1) := by decide +kernel
theorem dX3_tellsTortoise_96 : decode cX3_tellsTortoise 96 = .ok (.iload_n 2, 1) := by decide +kernel
theorem dX3_tellsTortoise_97 : decode cX3_tellsTortoise 97 = .ok (.iload_n 3, 1) := by decide +kernel
theorem dX3_tellsTortoise_98 : decode cX3_tellsTortoise 98 = .ok (.iload 4, 2) := by decide +kernel
theorem dX3_tellsTortoise_100 : decode cX3_tellsTortoise 100 = .ok (.invokevirtual 100, 3) := by decide +kernel
theorem dX3_tellsTortoise_103 : decode cX3_tellsTortoise 103 = .ok (.pop, 1) := by decide +kernel
theorem dX3_tellsTortoise_104 : decode cX3_tellsTortoise 104 = .ok (.iconst 1, 1) := by decide +kernel
theorem dX3_tellsTortoise_105 : decode cX3_tellsTortoise 105 = .ok (.ireturn, 1) := by decide +kernel
theorem dX3_tellsFence_0 : decode cX3_tellsFence 0 = .ok (.aload_n 0, 1) := by decide +kernel
theorem dX3_tellsFence_1 : decode cX3_tellsFence 1 = .ok (.invokevirtual 22, 3) := by decide +kernel
theorem dX3_tellsFence_4 : decode cX3_tellsFence 4 = .ok (.aload_n 0, 1) := by decide +kernel
theorem dX3_tellsFence_5 : decode cX3_tellsFence 5 = .ok (.iconst 0, 1) := by decide +kernel
theorem dX3_tellsFence_6 : decode cX3_tellsFence 6 = .ok (.bipush 29, 2) := by decide +kernel
theorem dX3_tellsFence_8 : decode cX3_tellsFence 8 = .ok (.invokevirtual 93, 3) := by decide +kernel
theorem dX3_tellsFence_11 : decode cX3_tellsFence 11 = .ok (.ifCond .ne 5, 3) := by decide +kernel
theorem dX3_tellsFence_14 : decode cX3_tellsFence 14 = .ok (.iconst 0, 1) := by decide +kernel
theorem dX3_tellsFence_15 : decode cX3_tellsFence 15 = .ok (.ireturn, 1) := by decide +kernel
theorem dX3_tellsFence_16 : decode cX3_tellsFence 16 = .ok (.aload_n 1, 1) := by decide +kernel
theorem dX3_tellsFence_17 : decode cX3_tellsFence 17 = .ok (.aload_n 0, 1) := by decide +kernel
theorem dX3_tellsFence_18 : decode cX3_tellsFence 18 = .ok (.getfield 97, 3) := by decide +kernel
theorem dX3_tellsFence_21 : decode cX3_tellsFence 21 = .ok (.iload_n 2, 1) := by decide +kernel
theorem dX3_tellsFence_22 : decode cX3_tellsFence 22 = .ok (.invokevirtual 104, 3) := by decide +kernel
theorem dX3_tellsFence_25 : decode cX3_tellsFence 25 = .ok (.iconst 1, 1) := by decide +kernel
theorem dX3_tellsFence_26 : decode cX3_tellsFence 26 = .ok (.ireturn, 1) := by decide +kernel
theorem dX3_tellsRain_0 : decode cX3_tellsRain 0 = .ok (.aload_n 0, 1) := by decide +kernel
theorem dX3_tellsRain_1 : decode cX3_tellsRain 1 = .ok (.invokevirtual 22, 3) := by decide +kernel
theorem dX3_tellsRain_4 : decode cX3_tellsRain 4 = .ok (.aload_n 0, 1) := by decide +kernel
theorem dX3_tellsRain_5 : decode cX3_tellsRain 5 = .ok (.iconst 0, 1) := by decide +kernel
theorem dX3_tellsRain_6 : decode cX3_tellsRain 6 = .ok (.bipush 23, 2) := by decide +kernel
theorem dX3_tellsRain_8 : decode cX3_tellsRain 8 = .ok (.invokevirtual 93, 3) := by decide +kernel
theorem dX3_tellsRain_11 : decode cX3_tellsRain 11 = .ok (.ifCond .ne 5, 3) := by decide +kernel
theorem dX3_tellsRain_14 : decode cX3_tellsRain 14 = .ok (.iconst 0, 1) := by decide +kernel
theorem dX3_tellsRain_15 : decode cX3_tellsRain 15 = .ok (.ireturn, 1) := by decide +kernel
theorem dX3_tellsRain_16 : decode cX3_tellsRain 16 = .ok (.aload_n 0, 1) := by decide +kernel
theorem dX3_tellsRain_17 : decode cX3_tellsRain 17 = .ok (.getfield 97, 3) := by decide +kernel
theorem dX3_tellsRain_20 : decode cX3_tellsRain 20 = .ok (.istore_n 2, 1) := by decide +kernel
theorem dX3_tellsRain_21 : decode cX3_tellsRain 21 = .ok (.aload_n 0, 1) := by decide +kernel
theorem dX3_tellsRain_22 : decode cX3_tellsRain 22 = .ok (.ldc 108, 2) := by decide +kernel
theorem dX3_tellsRain_24 : decode cX3_tellsRain 24 = .ok (.invokevirtual 45, 3) := by decide +kernel
theorem dX3_tellsRain_27 : decode cX3_tellsRain 27 = .ok (.ifCond .eq 19, 3) := by decide +kernel
theorem dX3_tellsRain_30 : decode cX3_tellsRain 30 = .ok (.aload_n 0, 1) := by decide +kernel
theorem dX3_tellsRain_31 : decode cX3_tellsRain 31 = .ok (.invokevirtual 22, 3) := by decide +kernel
theorem dX3_tellsRain_34 : decode cX3_tellsRain 34 = .ok (.aload_n 0, 1) := by decide +kernel
theorem dX3_tellsRain_35 : decode cX3_tellsRain 35 = .ok (.iload_n 2, 1) := by decide +kernel
theorem dX3_tellsRain_36 : decode cX3_tellsRain 36 = .ok (.bipush 23, 2) := by decide +kernel
theorem dX3_tellsRain_38 : decode cX3_tellsRain 38 = .ok (.invokevirtual 93, 3) := by decide +kernel
theorem dX3_tellsRain_41 : decode cX3_tellsRain 41 = .ok (.ifCond .ne 5, 3) := by decide +kernel
theorem dX3_tellsRain_44 : decode cX3_tellsRain 44 = .ok (.iconst 0, 1) := by decide +kernel
theorem dX3_tellsRain_45 : decode cX3_tellsRain 45 = .ok (.ireturn, 1) := by decide +kernel
theorem dX3_tellsRain_46 : decode cX3_tellsRain 46 = .ok (.iload_n 2, 1) := by decide +kernel
theorem dX3_tellsRain_47 : decode cX3_tellsRain 47 = .ok (.istore_n 3, 1) := by decide +kernel
theorem dX3_tellsRain_48 : decode cX3_tellsRain 48 = .ok (.iload_n 3, 1) := by decide +kernel
theorem dX3_tellsRain_49 : decode cX3_tellsRain 49 = .ok (.aload_n 0, 1) := by decide +kernel
theorem dX3_tellsRain_50 : decode cX3_tellsRain 50 = .ok (.getfield 97, 3) := by decide +kernel
theorem dX3_tellsRain_53 : decode cX3_tellsRain 53 = .ok (.if_icmp .gt 21, 3) := by decide +kernel
theorem dX3_tellsRain_56 : decode cX3_tellsRain 56 = .ok (.aload_n 1, 1) := by decide +kernel
theorem dX3_tellsRain_57 : decode cX3_tellsRain 57 = .ok (.dup, 1) := by decide +kernel
theorem dX3_tellsRain_58 : decode cX3_tellsRain 58 = .ok (.getfield 110, 3) := by decide +kernel
theorem dX3_tellsRain_61 : decode cX3_tellsRain 61 = .ok (.iconst 1, 1) := by decide +kernel
theorem dX3_tellsRain_62 : decode cX3_tellsRain 62 = .ok (.iload_n 3, 1) := by decide +kernel
theorem dX3_tellsRain_63 : decode cX3_tellsRain 63 = .ok (.ishl, 1) := by decide +kernel
theorem dX3_tellsRain_64 : decode cX3_tellsRain 64 = .ok (.ior, 1) := by decide +kernel
theorem dX3_tellsRain_65 : decode cX3_tellsRain 65 = .ok (.putfield 110, 3) := by decide +kernel
theorem dX3_tellsRain_68 : decode cX3_tellsRain 68 = .ok (.iinc 3 1, 3) := by decide +kernel
theorem dX3_tellsRain_71 : decode cX3_tellsRain 71 = .ok (.goto (-23), 3) := by decide +kernel
theorem dX3_tellsRain_74 : decode cX3_tellsRain 74 = .ok (.iconst 1, 1) := by decide +kernel
theorem dX3_tellsRain_75 : decode cX3_tellsRain 75 = .ok (.ireturn, 1) := by decide +kernel
theorem dX3_tellsSpot_0 : decode cX3_tellsSpot 0 = .ok (.aload_n 0, 1) := by decide +kernel
theorem dX3_tellsSpot_1 : decode cX3_tellsSpot 1 = .ok (.invokevirtual 22, 3) := by decide +kernel
theorem dX3_tellsSpot_4 : decode cX3_tellsSpot 4 = .ok (.aload_n 0, 1) := by decide +kernel
theorem dX3_tellsSpot_5 : decode cX3_tellsSpot 5 = .ok (.iconst 0, 1) := by decide +kernel
theorem dX3_tellsSpot_6 : decode cX3_tellsSpot 6 = .ok (.bipush 29, 2) := by decide +kernel
theorem dX3_tellsSpot_8 : decode cX3_tellsSpot 8 = .ok (.invokevirtual 93, 3) := by decide +kernel
theorem dX3_tellsSpot_11 : decode cX3_tellsSpot 11 = .ok (.ifCond .ne 5, 3) := by decide +kernel
theorem dX3_tellsSpot_14 : decode cX3_tellsSpot 14 = .ok (.iconst 0, 1) := by decide +kernel
theorem dX3_tellsSpot_15 : decode cX3_tellsSpot 15 = .ok (.ireturn, 1) := by decide +kernel
theorem dX3_tellsSpot_16 : decode cX3_tellsSpot 16 = .ok (.aload_n 1, 1) := by decide +kernel
theorem dX3_tellsSpot_17 : decode cX3_tellsSpot 17 = .ok (.getfield 113, 3) := by decide +kernel
theorem dX3_tellsSpot_20 : decode cX3_tellsSpot 20 = .ok (.iload_n 2, 1) := by decide +kernel
theorem dX3_tellsSpot_21 : decode cX3_tellsSpot 21 = .ok (.aload_n 0, 1) := by decide +kernel
theorem dX3_tellsSpot_22 : decode cX3_tellsSpot 22 = .ok (.getfield 97, 3) := by decide +kernel
theorem dX3_tellsSpot_25 : decode cX3_tellsSpot 25 = .ok (.iastore, 1) := by decide +kernel
theorem dX3_tellsSpot_26 : decode cX3_tellsSpot 26 = .ok (.iconst 1, 1) := by decide +kernel
theorem dX3_tellsSpot_27 : decode cX3_tellsSpot 27 = .ok (.ireturn, 1) := by decide +kernel
theorem dX3_takesNumber_0 : decode cX3_takesNumber 0 = .ok (.aload_n 0, 1) := by decide +kernel
theorem dX3_takesNumber_1 : decode cX3_takesNumber 1 = .ok (.getfield 29, 3) := by decide +kernel
theorem dX3_takesNumber_4 : decode cX3_takesNumber 4 = .ok (.iconst 2, 1) := by decide +kernel
theorem dX3_takesNumber_5 : decode cX3_takesNumber 5 = .ok (.if_icmp .ne 19, 3) := by decide +kernel
theorem dX3_takesNumber_8 : decode cX3_takesNumber 8 = .ok (.aload_n 0, 1) := by decide +kernel
theorem dX3_takesNumber_9 : decode cX3_takesNumber 9 = .ok (.getfield 116, 3) := by decide +kernel
theorem dX3_takesNumber_12 : decode cX3_takesNumber 12 = .ok (.iload_n 1, 1) := by decide +kernel
theorem dX3_takesNumber_13 : decode cX3_takesNumber 13 = .ok (.if_icmp .lt 11, 3) := by decide +kernel
theorem dX3_takesNumber_16 : decode cX3_takesNumber 16 = .ok (.aload_n 0, 1) := by decide +kernel
theorem dX3_takesNumber_17 : decode cX3_takesNumber 17 = .ok (.getfield 116, 3) := by decide +kernel
theorem dX3_takesNumber_20 : decode cX3_takesNumber 20 = .ok (.iload_n 2, 1) := by decide +kernel
theorem dX3_takesNumber_21 : decode cX3_takesNumber 21 = .ok (.if_icmp .le 5, 3) := by decide +kernel
theorem dX3_takesNumber_24 : decode cX3_takesNumber 24 = .ok (.iconst 0, 1) := by decide +kernel
theorem dX3_takesNumber_25 : decode cX3_takesNumber 25 = .ok (.ireturn, 1) := by decide +kernel
theorem dX3_takesNumber_26 : decode cX3_takesNumber 26 = .ok (.aload_n 0, 1) := by decide +kernel
theorem dX3_takesNumber_27 : decode cX3_takesNumber 27 = .ok (.aload_n 0, 1) := by decide +kernel
theorem dX3_takesNumber_28 : decode cX3_takesNumber 28 = .ok (.getfield 116, 3) := by decide +kernel
theorem dX3_takesNumber_31 : decode cX3_takesNumber 31 = .ok (.putfield 97, 3) := by decide +kernel
theorem dX3_takesNumber_34 : decode cX3_takesNumber 34 = .ok (.aload_n 0, 1) := by decide +kernel
theorem dX3_takesNumber_35 : decode cX3_takesNumber 35 = .ok (.invokevirtual 22, 3) := by decide +kernel
theorem dX3_takesNumber_38 : decode cX3_takesNumber 38 = .ok (.iconst 1, 1) := by decide +kernel
theorem dX3_takesNumber_39 : decode cX3_takesNumber 39 = .ok (.ireturn, 1) := by decide +kernel
theorem dX3_isWord_0 : decode cX3_isWord 0 = .ok (.aload_n 0, 1) := by decide +kernel
theorem dX3_isWord_1 : decode cX3_isWord 1 = .ok (.getfield 29, 3) := by decide +kernel
theorem dX3_isWord_4 : decode cX3_isWord 4 = .ok (.iconst 1, 1) := by decide +kernel
theorem dX3_isWord_5 : decode cX3_isWord 5 = .ok (.if_icmp .ne 19, 3) := by decide +kernel
theorem dX3_isWord_8 : decode cX3_isWord 8 = .ok (.aload_n 0, 1) := by decide +kernel
theorem dX3_isWord_9 : decode cX3_isWord 9 = .ok (.getfield 19, 3) := by decide +kernel
theorem dX3_isWord_12 : decode cX3_isWord 12 = .ok (.aload_n 0, 1) := by decide +kernel
theorem dX3_isWord_13 : decode cX3_isWord 13 = .ok (.getfield 32, 3) := by decide +kernel
theorem dX3_isWord_16 : decode cX3_isWord 16 = .ok (.isub, 1) := by decide +kernel
theorem dX3_isWord_17 : decode cX3_isWord 17 = .ok (.aload_n 1, 1) := by decide +kernel
theorem dX3_isWord_18 : decode cX3_isWord 18 = .ok (.invokevirtual 119, 3) := by decide +kernel
theorem dX3_isWord_21 : decode cX3_isWord 21 = .ok (.if_icmp .eq 5, 3) := by decide +kernel
theorem dX3_isWord_24 : decode cX3_isWord 24 = .ok (.iconst 0, 1) := by decide +kernel
theorem dX3_isWord_25 : decode cX3_isWord 25 = .ok (.ireturn, 1) := by decide +kernel
theorem dX3_isWord_26 : decode cX3_isWord 26 = .ok (.iconst 0, 1) := by decide +kernel
theorem dX3_isWord_27 : decode cX3_isWord 27 = .ok (.istore_n 2, 1) := by decide +kernel
theorem dX3_isWord_28 : decode cX3_isWord 28 = .ok (.iload_n 2, 1) := by decide +kernel
theorem dX3_isWord_29 : decode cX3_isWord 29 = .ok (.aload_n 1, 1) := by decide +kernel
theorem dX3_isWord_30 : decode cX3_isWord 30 = .ok (.invokevirtual 119, 3) := by decide +kernel
theorem dX3_isWord_33 : decode cX3_isWord 33 = .ok (.if_icmp .ge 30, 3) := by decide +kernel
theorem dX3_isWord_36 : decode cX3_isWord 36 = .ok (.aload_n 0, 1) := by decide +kernel
theorem dX3_isWord_37 : decode cX3_isWord 37 = .ok (.getfield 9, 3) := by decide +kernel
theorem dX3_isWord_40 : decode cX3_isWord 40 = .ok (.aload_n 0, 1) := by decide +kernel
theorem dX3_isWord_41 : decode cX3_isWord 41 = .ok (.getfield 32, 3) := by decide +kernel
theorem dX3_isWord_44 : decode cX3_isWord 44 = .ok (.iload_n 2, 1) := by decide +kernel
theorem dX3_isWord_45 : decode cX3_isWord 45 = .ok (.iadd, 1) := by decide +kernel
theorem dX3_isWord_46 : decode cX3_isWord 46 = .ok (.iaload, 1) := by decide +kernel
theorem dX3_isWord_47 : decode cX3_isWord 47 = .ok (.aload_n 1, 1) := by decide +kernel
theorem dX3_isWord_48 : decode cX3_isWord 48 = .ok (.iload_n 2, 1) := by decide +kernel
theorem dX3_isWord_49 : decode cX3_isWord 49 = .ok (.invokevirtual 123, 3) := by decide +kernel
theorem dX3_isWord_52 : decode cX3_isWord 52 = .ok (.if_icmp .eq 5, 3) := by decide +kernel
theorem dX3_isWord_55 : decode cX3_isWord 55 = .ok (.iconst 0, 1) := by decide +kernel
theorem dX3_isWord_56 : decode cX3_isWord 56 = .ok (.ireturn, 1) := by decide +kernel
theorem dX3_isWord_57 : decode cX3_isWord 57 = .ok (.iinc 2 1, 3) := by decide +kernel
theorem dX3_isWord_60 : decode cX3_isWord 60 = .ok (.goto (-32), 3) := by decide +kernel
theorem dX3_isWord_63 : decode cX3_isWord 63 = .ok (.iconst 1, 1) := by decide +kernel
theorem dX3_isWord_64 : decode cX3_isWord 64 = .ok (.ireturn, 1) := by decide +kernel
theorem dX3_nextToken_0 : decode cX3_nextToken 0 = .ok (.aload_n 0, 1) := by decide +kernel
theorem dX3_nextToken_1 : decode cX3_nextToken 1 = .ok (.getfield 19, 3) := by decide +kernel
theorem dX3_nextToken_4 : decode cX3_nextToken 4 = .ok (.istore_n 1, 1) := by decide +kernel
theorem dX3_nextToken_5 : decode cX3_nextToken 5 = .ok (.iload_n 1, 1) := by decide +kernel
theorem dX3_nextToken_6 : decode cX3_nextToken 6 = .ok (.aload_n 0, 1) := by decide +kernel
theorem dX3_nextToken_7 : decode cX3_nextToken 7 = .ok (.getfield 15, 3) := by decide +kernel
theorem dX3_nextToken_10 : decode cX3_nextToken 10 = .ok (.if_icmp .ge 20, 3) := by decide +kernel
theorem dX3_nextToken_13 : decode cX3_nextToken 13 = .ok (.aload_n 0, 1) := by decide +kernel
theorem dX3_nextToken_14 : decode cX3_nextToken 14 = .ok (.getfield 9, 3) := by decide +kernel
theorem dX3_nextToken_17 : decode cX3_nextToken 17 = .ok (.iload_n 1, 1) := by decide +kernel
theorem dX3_nextToken_18 : decode cX3_nextToken 18 = .ok (.iaload, 1) := by decide +kernel
theorem dX3_nextToken_19 : decode cX3_nextToken 19 = .ok (.bipush 32, 2) := by decide +kernel
theorem dX3_nextToken_21 : decode cX3_nextToken 21 = .ok (.if_icmp .ne 9, 3) := by decide +kernel
theorem dX3_nextToken_24 : decode cX3_nextToken 24 = .ok (.iinc 1 1, 3) := by decide +kernel
theorem dX3_nextToken_27 : decode cX3_nextToken 27 = .ok (.goto (-22), 3) := by decide +kernel
theorem dX3_nextToken_30 : decode cX3_nextToken 30 = .ok (.aload_n 0, 1) := by decide +kernel
theorem dX3_nextToken_31 : decode cX3_nextToken 31 = .ok (.iload_n 1, 1) := by decide +kernel
theorem dX3_nextToken_32 : decode cX3_nextToken 32 = .ok (.putfield 32, 3) := by decide +kernel
theorem dX3_nextToken_35 : decode cX3_nextToken 35 = .ok (.iload_n 1, 1) := by decide +kernel
theorem dX3_nextToken_36 : decode cX3_nextToken 36 = .ok (.aload_n 0, 1) := by decide +kernel
theorem dX3_nextToken_37 : decode cX3_nextToken 37 = .ok (.getfield 15, 3) := by decide +kernel
theorem dX3_nextToken_40 : decode cX3_nextToken 40 = .ok (.if_icmp .lt 11, 3) := by decide +kernel
theorem dX3_nextToken_43 : decode cX3_nextToken 43 = .ok (.aload_n 0, 1) := by decide +kernel
theorem dX3_nextToken_44 : decode cX3_nextToken 44 = .ok (.iconst 0, 1) := by decide +kernel
theorem dX3_nextToken_45 : decode cX3_nextToken 45 = .ok (.putfield 29, 3) := by decide +kernel
theorem dX3_nextToken_48 : decode cX3_nextToken 48 = .ok (.goto 144, 3) := by decide +kernel
theorem dX3_nextToken_51 : decode cX3_nextToken 51 = .ok (.aload_n 0, 1) := by decide +kernel
theorem dX3_nextToken_52 : decode cX3_nextToken 52 = .ok (.getfield 9, 3) := by decide +kernel
theorem dX3_nextToken_55 : decode cX3_nextToken 55 = .ok (.iload_n 1, 1) := by decide +kernel
theorem dX3_nextToken_56 : decode cX3_nextToken 56 = .ok (.iaload, 1) := by decide +kernel
theorem dX3_nextToken_57 : decode cX3_nextToken 57 = .ok (.invokestatic 127, 3) := by decide +kernel
theorem dX3_nextToken_60 : decode cX3_nextToken 60 = .ok (.ifCond .eq 34, 3) := by decide +kernel
theorem dX3_nextToken_63 : decode cX3_nextToken 63 = .ok (.aload_n 0, 1) := by decide +kernel
theorem dX3_nextToken_64 : decode cX3_nextToken 64 = .ok (.iconst 1, 1) := by decide +kernel
theorem dX3_nextToken_65 : decode cX3_nextToken 65 = .ok (.putfield 29, 3) := by decide +kernel
theorem dX3_nextToken_68 : decode cX3_nextToken 68 = .ok (.iload_n 1, 1) := by decide +kernel
theorem dX3_nextToken_69 : decode cX3_nextToken 69 = .ok (.aload_n 0, 1) := by decide +kernel
theorem dX3_nextToken_70 : decode cX3_nextToken 70 = .ok (.getfield 15, 3) := by decide +kernel
theorem dX3_nextToken_73 : decode cX3_nextToken 73 = .ok (.if_icmp .ge 119, 3) := by decide +kernel
theorem dX3_nextToken_76 : decode cX3_nextToken 76 = .ok (.aload_n 0, 1) := by decide +kernel
theorem dX3_nextToken_77 : decode cX3_nextToken 77 = .ok (.getfield 9, 3) := by decide +kernel
theorem dX3_nextToken_80 : decode cX3_nextToken 80 = .ok (.iload_n 1, 1) := by decide +kernel
theorem dX3_nextToken_81 : decode cX3_nextToken 81 = .ok (.iaload, 1) := by decide +kernel
theorem dX3_nextToken_82 : decode cX3_nextToken 82 = .ok (.invokestatic 127, 3) := by decide +kernel
theorem dX3_nextToken_85 : decode cX3_nextToken 85 = .ok (.ifCond .eq 107, 3) := by decide +kernel
theorem dX3_nextToken_88 : decode cX3_nextToken 88 = .ok (.iinc 1 1, 3) := by decide +kernel
theorem dX3_nextToken_91 : decode cX3_nextToken 91 = .ok (.goto (-23), 3) := by decide +kernel
theorem dX3_nextToken_94 : decode cX3_nextToken 94 = .ok (.aload_n 0, 1) := by decide +kernel
theorem dX3_nextToken_95 : decode cX3_nextToken 95 = .ok (.getfield 9, 3) := by decide +kernel
theorem dX3_nextToken_98 : decode cX3_nextToken 98 = .ok (.iload_n 1, 1) := by decide +kernel
theorem dX3_nextToken_99 : decode cX3_nextToken 99 = .ok (.iaload, 1) := by decide +kernel
theorem dX3_nextToken_100 : decode cX3_nextToken 100 = .ok (.invokestatic 131, 3) := by decide +kernel
theorem dX3_nextToken_103 : decode cX3_nextToken 103 = .ok (.ifCond .eq 66, 3) := by decide +kernel
theorem dX3_nextToken_106 : decode cX3_nextToken 106 = .ok (.aload_n 0, 1) := by decide +kernel
theorem dX3_nextToken_107 : decode cX3_nextToken 107 = .ok (.iconst 2, 1) := by decide +kernel
theorem dX3_nextToken_108 : decode cX3_nextToken 108 = .ok (.putfield 29, 3) := by decide +kernel
theorem dX3_nextToken_111 : decode cX3_nextToken 111 = .ok (.aload_n 0, 1) := by decide +kernel
theorem dX3_nextToken_112 : decode cX3_nextToken 112 = .ok (.iconst 0, 1) := by decide +kernel
theorem dX3_nextToken_113 : decode cX3_nextToken 113 = .ok (.putfield 116, 3) := by decide +kernel
theorem dX3_nextToken_116 : decode cX3_nextToken 116 = .ok (.iload_n 1, 1) := by decide +kernel
theorem dX3_nextToken_117 : decode cX3_nextToken 117 = .ok (.aload_n 0, 1) := by decide +kernel
theorem dX3_nextToken_118 : decode cX3_nextToken 118 = .ok (.getfield 15, 3) := by decide +kernel
theorem dX3_nextToken_121 : decode cX3_nextToken 121 = .ok (.if_icmp .ge 71, 3) := by decide +kernel
theorem dX3_nextToken_124 : decode cX3_nextToken 124 = .ok (.aload_n 0, 1) := by decide +kernel
theorem dX3_nextToken_125 : decode cX3_nextToken 125 = .ok (.getfield 9, 3) := by decide +kernel
theorem dX3_nextToken_128 : decode cX3_nextToken 128 = .ok (.iload_n 1, 1) := by decide +kernel
theorem dX3_nextToken_129 : decode cX3_nextToken 129 = .ok (.iaload, 1) := by decide +kernel
theorem dX3_nextToken_130 : decode cX3_nextToken 130 = .ok (.invokestatic 131, 3) := by decide +kernel
theorem dX3_nextToken_133 : decode cX3_nextToken 133 = .ok (.ifCond .eq 59, 3) := by decide +kernel
theorem dX3_nextToken_136 : decode cX3_nextToken 136 = .ok (.aload_n 0, 1) := by decide +kernel
theorem dX3_nextToken_137 : decode cX3_nextToken 137 = .ok (.aload_n 0, 1) := by decide +kernel
theorem dX3_nextToken_138 : decode cX3_nextToken 138 = .ok (.getfield 116, 3) := by decide +kernel
theorem dX3_nextToken_141 : decode cX3_nextToken 141 = .ok (.bipush 10, 2) := by decide +kernel
theorem dX3_nextToken_143 : decode cX3_nextToken 143 = .ok (.imul, 1) := by decide +kernel
theorem dX3_nextToken_144 : decode cX3_nextToken 144 = .ok (.aload_n 0, 1) := by decide +kernel
theorem dX3_nextToken_145 : decode cX3_nextToken 145 = .ok (.getfield 9, 3) := by decide +kernel
theorem dX3_nextToken_148 : decode cX3_nextToken 148 = .ok (.iload_n 1, 1) := by decide +kernel
theorem dX3_nextToken_149 : decode cX3_nextToken 149 = .ok (.iaload, 1) := by decide +kernel
theorem dX3_nextToken_150 : decode cX3_nextToken 150 = .ok (.iadd, 1) := by decide +kernel
theorem dX3_nextToken_151 : decode cX3_nextToken 151 = .ok (.bipush 48, 2) := by decide +kernel
theorem dX3_nextToken_153 : decode cX3_nextToken 153 = .ok (.isub, 1) := by decide +kernel
theorem dX3_nextToken_154 : decode cX3_nextToken 154 = .ok (.sipush 1000, 3) := by decide +kernel
theorem dX3_nextToken_157 : decode cX3_nextToken 157 = .ok (.invokestatic 134, 3) := by decide +kernel
theorem dX3_nextToken_160 : decode cX3_nextToken 160 = .ok (.putfield 116, 3) := by decide +kernel
theorem dX3_nextToken_163 : decode cX3_nextToken 163 = .ok (.iinc 1 1, 3) := by decide +kernel
theorem dX3_nextToken_166 : decode cX3_nextToken 166 = .ok (.goto (-50), 3) := by decide +kernel
theorem dX3_nextToken_169 : decode cX3_nextToken 169 = .ok (.aload_n 0, 1) := by decide +kernel
theorem dX3_nextToken_170 : decode cX3_nextToken 170 = .ok (.aload_n 0, 1) := by decide +kernel
theorem dX3_nextToken_171 : decode cX3_nextToken 171 = .ok (.getfield 9, 3) := by decide +kernel
theorem dX3_nextToken_174 : decode cX3_nextToken 174 = .ok (.iload_n 1, 1) := by decide +kernel
theorem dX3_nextToken_175 : decode cX3_nextToken 175 = .ok (.iaload, 1) := by decide +kernel
theorem dX3_nextToken_176 : decode cX3_nextToken 176 = .ok (.bipush 59, 2) := by decide +kernel
theorem dX3_nextToken_178 : decode cX3_nextToken 178 = .ok (.if_icmp .ne 7, 3) := by decide +kernel
theorem dX3_nextToken_181 : decode cX3_nextToken 181 = .ok (.iconst 3, 1) := by decide +kernel
theorem dX3_nextToken_182 : decode cX3_nextToken 182 = .ok (.goto 4, 3) := by decide +kernel
theorem dX3_nextToken_185 : decode cX3_nextToken 185 = .ok (.iconst 4, 1) := by decide +kernel
theorem dX3_nextToken_186 : decode cX3_nextToken 186 = .ok (.putfield 29, 3) := by decide +kernel
theorem dX3_nextToken_189 : decode cX3_nextToken 189 = .ok (.iinc 1 1, 3) := by decide +kernel
theorem dX3_nextToken_192 : decode cX3_nextToken 192 = .ok (.aload_n 0, 1) := by decide +kernel
theorem dX3_nextToken_193 : decode cX3_nextToken 193 = .ok (.iload_n 1, 1) := by decide +kernel
theorem dX3_nextToken_194 : decode cX3_nextToken 194 = .ok (.putfield 19, 3) := by decide +kernel
theorem dX3_nextToken_197 : decode cX3_nextToken 197 = .ok (.return_, 1) := by decide +kernel
theorem dX3_isLetter_0 : decode cX3_isLetter 0 = .ok (.iload_n 0, 1) := by decide +kernel
theorem dX3_isLetter_1 : decode cX3_isLetter 1 = .ok (.bipush 97, 2) := by decide +kernel
theorem dX3_isLetter_3 : decode cX3_isLetter 3 = .ok (.if_icmp .lt 13, 3) := by decide +kernel
theorem dX3_isLetter_6 : decode cX3_isLetter 6 = .ok (.iload_n 0, 1) := by decide +kernel
theorem dX3_isLetter_7 : decode cX3_isLetter 7 = .ok (.bipush 122, 2) := by decide +kernel
theorem dX3_isLetter_9 : decode cX3_isLetter 9 = .ok (.if_icmp .gt 7, 3) := by decide +kernel
theorem dX3_isLetter_12 : decode cX3_isLetter 12 = .ok (.iconst 1, 1) := by decide +kernel
theorem dX3_isLetter_13 : decode cX3_isLetter 13 = .ok (.goto 4, 3) := by decide +kernel
theorem dX3_isLetter_16 : decode cX3_isLetter 16 = .ok (.iconst 0, 1) := by decide +kernel
theorem dX3_isLetter_17 : decode cX3_isLetter 17 = .ok (.ireturn, 1) := by decide +kernel
theorem dX3_isDigit_0 : decode cX3_isDigit 0 = .ok (.iload_n 0, 1) := by decide +kernel
theorem dX3_isDigit_1 : decode cX3_isDigit 1 = .ok (.bipush 48, 2) := by decide +kernel
theorem dX3_isDigit_3 : decode cX3_isDigit 3 = .ok (.if_icmp .lt 13, 3) := by decide +kernel
theorem dX3_isDigit_6 : decode cX3_isDigit 6 = .ok (.iload_n 0, 1) := by decide +kernel
theorem dX3_isDigit_7 : decode cX3_isDigit 7 = .ok (.bipush 57, 2) := by decide +kernel
theorem dX3_isDigit_9 : decode cX3_isDigit 9 = .ok (.if_icmp .gt 7, 3) := by decide +kernel
theorem dX3_isDigit_12 : decode cX3_isDigit 12 = .ok (.iconst 1, 1) := by decide +kernel
theorem dX3_isDigit_13 : decode cX3_isDigit 13 = .ok (.goto 4, 3) := by decide +kernel
theorem dX3_isDigit_16 : decode cX3_isDigit 16 = .ok (.iconst 0, 1) := by decide +kernel
theorem dX3_isDigit_17 : decode cX3_isDigit 17 = .ok (.ireturn, 1) := by decide +kernel
