theorem dX0_init_0 : decode cX0_init 0 = .ok (.aload_n 0, 1) := by decide +kernel
theorem dX0_init_1 : decode cX0_init 1 = .ok (.invokespecial 3, 3) := by decide +kernel
theorem dX0_init_4 : decode cX0_init 4 = .ok (.aload_n 0, 1) := by decide +kernel
theorem dX0_init_5 : decode cX0_init 5 = .ok (.iconst 3, 1) := by decide +kernel
theorem dX0_init_6 : decode cX0_init 6 = .ok (.newarray .int, 2) := by decide +kernel
theorem dX0_init_8 : decode cX0_init 8 = .ok (.dup, 1) := by decide +kernel
theorem dX0_init_9 : decode cX0_init 9 = .ok (.iconst 0, 1) := by decide +kernel
theorem dX0_init_10 : decode cX0_init 10 = .ok (.bipush 14, 2) := by decide +kernel
theorem dX0_init_12 : decode cX0_init 12 = .ok (.iastore, 1) := by decide +kernel
theorem dX0_init_13 : decode cX0_init 13 = .ok (.dup, 1) := by decide +kernel
theorem dX0_init_14 : decode cX0_init 14 = .ok (.iconst 1, 1) := by decide +kernel
theorem dX0_init_15 : decode cX0_init 15 = .ok (.iconst 3, 1) := by decide +kernel
theorem dX0_init_16 : decode cX0_init 16 = .ok (.iastore, 1) := by decide +kernel
theorem dX0_init_17 : decode cX0_init 17 = .ok (.dup, 1) := by decide +kernel
theorem dX0_init_18 : decode cX0_init 18 = .ok (.iconst 2, 1) := by decide +kernel
theorem dX0_init_19 : decode cX0_init 19 = .ok (.bipush 24, 2) := by decide +kernel
theorem dX0_init_21 : decode cX0_init 21 = .ok (.iastore, 1) := by decide +kernel
theorem dX0_init_22 : decode cX0_init 22 = .ok (.putfield 9, 3) := by decide +kernel
theorem dX0_init_25 : decode cX0_init 25 = .ok (.aload_n 0, 1) := by decide +kernel
theorem dX0_init_26 : decode cX0_init 26 = .ok (.bipush 8, 2) := by decide +kernel
theorem dX0_init_28 : decode cX0_init 28 = .ok (.newarray .int, 2) := by decide +kernel
theorem dX0_init_30 : decode cX0_init 30 = .ok (.putfield 15, 3) := by decide +kernel
theorem dX0_init_33 : decode cX0_init 33 = .ok (.aload_n 0, 1) := by decide +kernel
theorem dX0_init_34 : decode cX0_init 34 = .ok (.bipush 8, 2) := by decide +kernel
theorem dX0_init_36 : decode cX0_init 36 = .ok (.newarray .int, 2) := by decide +kernel
theorem dX0_init_38 : decode cX0_init 38 = .ok (.putfield 18, 3) := by decide +kernel
theorem dX0_init_41 : decode cX0_init 41 = .ok (.aload_n 0, 1) := by decide +kernel
theorem dX0_init_42 : decode cX0_init 42 = .ok (.bipush 8, 2) := by decide +kernel
theorem dX0_init_44 : decode cX0_init 44 = .ok (.newarray .int, 2) := by decide +kernel
theorem dX0_init_46 : decode cX0_init 46 = .ok (.putfield 21, 3) := by decide +kernel
theorem dX0_init_49 : decode cX0_init 49 = .ok (.aload_n 0, 1) := by decide +kernel
theorem dX0_init_50 : decode cX0_init 50 = .ok (.bipush 8, 2) := by decide +kernel
theorem dX0_init_52 : decode cX0_init 52 = .ok (.newarray .boolean, 2) := by decide +kernel
theorem dX0_init_54 : decode cX0_init 54 = .ok (.putfield 24, 3) := by decide +kernel
theorem dX0_init_57 : decode cX0_init 57 = .ok (.return_, 1) := by decide +kernel
theorem dX0_becomes_0 : decode cX0_becomes 0 = .ok (.aload_n 0, 1) := by decide +kernel
theorem dX0_becomes_1 : decode cX0_becomes 1 = .ok (.aload_n 1, 1) := by decide +kernel
theorem dX0_becomes_2 : decode cX0_becomes 2 = .ok (.getfield 28, 3) := by decide +kernel
theorem dX0_becomes_5 : decode cX0_becomes 5 = .ok (.putfield 28, 3) := by decide +kernel
theorem dX0_becomes_8 : decode cX0_becomes 8 = .ok (.aload_n 0, 1) := by decide +kernel
theorem dX0_becomes_9 : decode cX0_becomes 9 = .ok (.aload_n 1, 1) := by decide +kernel
theorem dX0_becomes_10 : decode cX0_becomes 10 = .ok (.getfield 32, 3) := by decide +kernel
theorem dX0_becomes_13 : decode cX0_becomes 13 = .ok (.putfield 32, 3) := by decide +kernel
theorem dX0_becomes_16 : decode cX0_becomes 16 = .ok (.aload_n 0, 1) := by decide +kernel
theorem dX0_becomes_17 : decode cX0_becomes 17 = .ok (.aload_n 1, 1) := by decide +kernel
theorem dX0_becomes_18 : decode cX0_becomes 18 = .ok (.getfield 35, 3) := by decide +kernel
theorem dX0_becomes_21 : decode cX0_becomes 21 = .ok (.putfield 35, 3) := by decide +kernel
theorem dX0_becomes_24 : decode cX0_becomes 24 = .ok (.aload_n 0, 1) := by decide +kernel
theorem dX0_becomes_25 : decode cX0_becomes 25 = .ok (.aload_n 1, 1) := by decide +kernel
theorem dX0_becomes_26 : decode cX0_becomes 26 = .ok (.getfield 38, 3) := by decide +kernel
theorem dX0_becomes_29 : decode cX0_becomes 29 = .ok (.putfield 38, 3) := by decide +kernel
theorem dX0_becomes_32 : decode cX0_becomes 32 = .ok (.iconst 0, 1) := by decide +kernel
theorem dX0_becomes_33 : decode cX0_becomes 33 = .ok (.istore_n 2, 1) := by decide +kernel
theorem dX0_becomes_34 : decode cX0_becomes 34 = .ok (.iload_n 2, 1) := by decide +kernel
theorem dX0_becomes_35 : decode cX0_becomes 35 = .ok (.iconst 3, 1) := by decide +kernel
theorem dX0_becomes_36 : decode cX0_becomes 36 = .ok (.if_icmp .ge 21, 3) := by decide +kernel
theorem dX0_becomes_39 : decode cX0_becomes 39 = .ok (.aload_n 0, 1) := by decide +kernel
theorem dX0_becomes_40 : decode cX0_becomes 40 = .ok (.getfield 9, 3) := by decide +kernel
theorem dX0_becomes_43 : decode cX0_becomes 43 = .ok (.iload_n 2, 1) := by decide +kernel
theorem dX0_becomes_44 : decode cX0_becomes 44 = .ok (.aload_n 1, 1) := by decide +kernel
theorem dX0_becomes_45 : decode cX0_becomes 45 = .ok (.getfield 9, 3) := by decide +kernel
theorem dX0_becomes_48 : decode cX0_becomes 48 = .ok (.iload_n 2, 1) := by decide +kernel
theorem dX0_becomes_49 : decode cX0_becomes 49 = .ok (.iaload, 1) := by decide +kernel
theorem dX0_becomes_50 : decode cX0_becomes 50 = .ok (.iastore, 1) := by decide +kernel
theorem dX0_becomes_51 : decode cX0_becomes 51 = .ok (.iinc 2 1, 3) := by decide +kernel
theorem dX0_becomes_54 : decode cX0_becomes 54 = .ok (.goto (-20), 3) := by decide +kernel
theorem dX0_becomes_57 : decode cX0_becomes 57 = .ok (.iconst 0, 1) := by decide +kernel
theorem dX0_becomes_58 : decode cX0_becomes 58 = .ok (.istore_n 2, 1) := by decide +kernel
theorem dX0_becomes_59 : decode cX0_becomes 59 = .ok (.iload_n 2, 1) := by decide +kernel
theorem dX0_becomes_60 : decode cX0_becomes 60 = .ok (.aload_n 0, 1) := by decide +kernel
theorem dX0_becomes_61 : decode cX0_becomes 61 = .ok (.getfield 38, 3) := by decide +kernel
theorem dX0_becomes_64 : decode cX0_becomes 64 = .ok (.if_icmp .ge 57, 3) := by decide +kernel
theorem dX0_becomes_67 : decode cX0_becomes 67 = .ok (.aload_n 0, 1) := by decide +kernel
theorem dX0_becomes_68 : decode cX0_becomes 68 = .ok (.getfield 15, 3) := by decide +kernel
theorem dX0_becomes_71 : decode cX0_becomes 71 = .ok (.iload_n 2, 1) := by decide +kernel
theorem dX0_becomes_72 : decode cX0_becomes 72 = .ok (.aload_n 1, 1) := by decide +kernel
theorem dX0_becomes_73 : decode cX0_becomes 73 = .ok (.getfield 15, 3) := by decide +kernel
theorem dX0_becomes_76 : decode cX0_becomes 76 = .ok (.iload_n 2, 1) := by decide +kernel
theorem dX0_becomes_77 : decode cX0_becomes 77 = .ok (.iaload, 1) := by decide +kernel
theorem dX0_becomes_78 : decode cX0_becomes 78 = .ok (.iastore, 1) := by decide +kernel
theorem dX0_becomes_79 : decode cX0_becomes 79 = .ok (.aload_n 0, 1) := by decide +kernel
theorem dX0_becomes_80 : decode cX0_becomes 80 = .ok (.getfield 18, 3) := by decide +kernel
theorem dX0_becomes_83 : decode cX0_becomes 83 = .ok (.iload_n 2, 1) := by decide +kernel
theorem dX0_becomes_84 : decode cX0_becomes 84 = .ok (.aload_n 1, 1) := by decide +kernel
theorem dX0_becomes_85 : decode cX0_becomes 85 = .ok (.getfield 18, 3) := by decide +kernel
theorem dX0_becomes_88 : decode cX0_becomes 88 = .ok (.iload_n 2, 1) := by decide +kernel
theorem dX0_becomes_89 : decode cX0_becomes 89 = .ok (.iaload, 1) := by decide +kernel
theorem dX0_becomes_90 : decode cX0_becomes 90 = .ok (.iastore, 1) := by decide +kernel
theorem dX0_becomes_91 : decode cX0_becomes 91 = .ok (.aload_n 0, 1) := by decide +kernel
theorem dX0_becomes_92 : decode cX0_becomes 92 = .ok (.getfield 21, 3) := by decide +kernel
theorem dX0_becomes_95 : decode cX0_becomes 95 = .ok (.iload_n 2, 1) := by decide +kernel
theorem dX0_becomes_96 : decode cX0_becomes 96 = .ok (.aload_n 1, 1) := by decide +kernel
theorem dX0_becomes_97 : decode cX0_becomes 97 = .ok (.getfield 21, 3) := by decide +kernel
theorem dX0_becomes_100 : decode cX0_becomes 100 = .ok (.iload_n 2, 1) := by decide +kernel
theorem dX0_becomes_101 : decode cX0_becomes 101 = .ok (.iaload, 1) := by decide +kernel
theorem dX0_becomes_102 : decode cX0_becomes 102 = .ok (.iastore, 1) := by decide +kernel
theorem dX0_becomes_103 : decode cX0_becomes 103 = .ok (.aload_n 0, 1) := by decide +kernel
theorem dX0_becomes_104 : decode cX0_becomes 104 = .ok (.getfield 24, 3) := by decide +kernel
theorem dX0_becomes_107 : decode cX0_becomes 107 = .ok (.iload_n 2, 1) := by decide +kernel
theorem dX0_becomes_108 : decode cX0_becomes 108 = .ok (.aload_n 1, 1) := by decide +kernel
theorem dX0_becomes_109 : decode cX0_becomes 109 = .ok (.getfield 24, 3) := by decide +kernel
theorem dX0_becomes_112 : decode cX0_becomes 112 = .ok (.iload_n 2, 1) := by decide +kernel
theorem dX0_becomes_113 : decode cX0_becomes 113 = .ok (.baload, 1) := by decide +kernel
theorem dX0_becomes_114 : decode cX0_becomes 114 = .ok (.bastore, 1) := by decide +kernel
theorem dX0_becomes_115 : decode cX0_becomes 115 = .ok (.iinc 2 1, 3) := by decide +kernel
theorem dX0_becomes_118 : decode cX0_becomes 118 = .ok (.goto (-59), 3) := by decide +kernel
theorem dX0_becomes_121 : decode cX0_becomes 121 = .ok (.return_, 1) := by decide +kernel
theorem dX0_has_0 : decode cX0_has 0 = .ok (.iload_n 1, 1) := by decide +kernel
theorem dX0_has_1 : decode cX0_has 1 = .ok (.aload_n 0, 1) := by decide +kernel
theorem dX0_has_2 : decode cX0_has 2 = .ok (.getfield 38, 3) := by decide +kernel
theorem dX0_has_5 : decode cX0_has 5 = .ok (.invokestatic 41, 3) := by decide +kernel
theorem dX0_has_8 : decode cX0_has 8 = .ok (.ireturn, 1) := by decide +kernel
theorem dX0_isFull_0 : decode cX0_isFull 0 = .ok (.aload_n 0, 1) := by decide +kernel
theorem dX0_isFull_1 : decode cX0_isFull 1 = .ok (.getfield 38, 3) := by decide +kernel
theorem dX0_isFull_4 : decode cX0_isFull 4 = .ok (.bipush 8, 2) := by decide +kernel
theorem dX0_isFull_6 : decode cX0_isFull 6 = .ok (.if_icmp .lt 7, 3) := by decide +kernel
theorem dX0_isFull_9 : decode cX0_isFull 9 = .ok (.iconst 1, 1) := by decide +kernel
theorem dX0_isFull_10 : decode cX0_isFull 10 = .ok (.goto 4, 3) := by decide +kernel
theorem dX0_isFull_13 : decode cX0_isFull 13 = .ok (.iconst 0, 1) := by decide +kernel
theorem dX0_isFull_14 : decode cX0_isFull 14 = .ok (.ireturn, 1) := by decide +kernel
theorem dX0_comes_0 : decode cX0_comes 0 = .ok (.aload_n 0, 1) := by decide +kernel
theorem dX0_comes_1 : decode cX0_comes 1 = .ok (.getfield 38, 3) := by decide +kernel
theorem dX0_comes_4 : decode cX0_comes 4 = .ok (.istore 4, 2) := by decide +kernel
theorem dX0_comes_6 : decode cX0_comes 6 = .ok (.aload_n 0, 1) := by decide +kernel
theorem dX0_comes_7 : decode cX0_comes 7 = .ok (.getfield 15, 3) := by decide +kernel
theorem dX0_comes_10 : decode cX0_comes 10 = .ok (.iload 4, 2) := by decide +kernel
theorem dX0_comes_12 : decode cX0_comes 12 = .ok (.iload_n 1, 1) := by decide +kernel
theorem dX0_comes_13 : decode cX0_comes 13 = .ok (.iastore, 1) := by decide +kernel
theorem dX0_comes_14 : decode cX0_comes 14 = .ok (.aload_n 0, 1) := by decide +kernel
theorem dX0_comes_15 : decode cX0_comes 15 = .ok (.getfield 18, 3) := by decide +kernel
theorem dX0_comes_18 : decode cX0_comes 18 = .ok (.iload 4, 2) := by decide +kernel
theorem dX0_comes_20 : decode cX0_comes 20 = .ok (.iload_n 2, 1) := by decide +kernel
theorem dX0_comes_21 : decode cX0_comes 21 = .ok (.iastore, 1) := by decide +kernel
theorem dX0_comes_22 : decode cX0_comes 22 = .ok (.aload_n 0, 1) := by decide +kernel
theorem dX0_comes_23 : decode cX0_comes 23 = .ok (.getfield 21, 3) := by decide +kernel
theorem dX0_comes_26 : decode cX0_comes 26 = .ok (.iload 4, 2) := by decide +kernel
theorem dX0_comes_28 : decode cX0_comes 28 = .ok (.iload_n 3, 1) := by decide +kernel
theorem dX0_comes_29 : decode cX0_comes 29 = .ok (.iastore, 1) := by decide +kernel
theorem dX0_comes_30 : decode cX0_comes 30 = .ok (.aload_n 0, 1) := by decide +kernel
theorem dX0_comes_31 : decode cX0_comes 31 = .ok (.getfield 24, 3) := by decide +kernel
theorem dX0_comes_34 : decode cX0_comes 34 = .ok (.iload 4, 2) := by decide +kernel
theorem dX0_comes_36 : decode cX0_comes 36 = .ok (.iconst 0, 1) := by decide +kernel
theorem dX0_comes_37 : decode cX0_comes 37 = .ok (.bastore, 1) := by decide +kernel
theorem dX0_comes_38 : decode cX0_comes 38 = .ok (.aload_n 0, 1) := by decide +kernel
theorem dX0_comes_39 : decode cX0_comes 39 = .ok (.dup, 1) := by decide +kernel
theorem dX0_comes_40 : decode cX0_comes 40 = .ok (.getfield 38, 3) := by decide +kernel
theorem dX0_comes_43 : decode cX0_comes 43 = .ok (.iconst 1, 1) := by decide +kernel
theorem dX0_comes_44 : decode cX0_comes 44 = .ok (.iadd, 1) := by decide +kernel
theorem dX0_comes_45 : decode cX0_comes 45 = .ok (.putfield 38, 3) := by decide +kernel
theorem dX0_comes_48 : decode cX0_comes 48 = .ok (.iload 4, 2) := by decide +kernel
theorem dX0_comes_50 : decode cX0_comes 50 = .ok (.ireturn, 1) := by decide +kernel
theorem dX0_isFenced_0 : decode cX0_isFenced 0 = .ok (.aload_n 0, 1) := by decide +kernel
theorem dX0_isFenced_1 : decode cX0_isFenced 1 = .ok (.getfield 28, 3) := by decide +kernel
theorem dX0_isFenced_4 : decode cX0_isFenced 4 = .ok (.iload_n 1, 1) := by decide +kernel
theorem dX0_isFenced_5 : decode cX0_isFenced 5 = .ok (.ishr, 1) := by decide +kernel
theorem dX0_isFenced_6 : decode cX0_isFenced 6 = .ok (.iconst 1, 1) := by decide +kernel
theorem dX0_isFenced_7 : decode cX0_isFenced 7 = .ok (.iand, 1) := by decide +kernel
theorem dX0_isFenced_8 : decode cX0_isFenced 8 = .ok (.iconst 1, 1) := by decide +kernel
theorem dX0_isFenced_9 : decode cX0_isFenced 9 = .ok (.if_icmp .ne 7, 3) := by decide +kernel
theorem dX0_isFenced_12 : decode cX0_isFenced 12 = .ok (.iconst 1, 1) := by decide +kernel
theorem dX0_isFenced_13 : decode cX0_isFenced 13 = .ok (.goto 4, 3) := by decide +kernel
theorem dX0_isFenced_16 : decode cX0_isFenced 16 = .ok (.iconst 0, 1) := by decide +kernel
theorem dX0_isFenced_17 : decode cX0_isFenced 17 = .ok (.ireturn, 1) := by decide +kernel
theorem dX0_fences_0 : decode cX0_fences 0 = .ok (.iload_n 2, 1) := by decide +kernel
theorem dX0_fences_1 : decode cX0_fences 1 = .ok (.ifCond .eq 18, 3) := by decide +kernel
theorem dX0_fences_4 : decode cX0_fences 4 = .ok (.aload_n 0, 1) := by decide +kernel
theorem dX0_fences_5 : decode cX0_fences 5 = .ok (.dup, 1) := by decide +kernel
theorem dX0_fences_6 : decode cX0_fences 6 = .ok (.getfield 28, 3) := by decide +kernel
theorem dX0_fences_9 : decode cX0_fences 9 = .ok (.iconst 1, 1) := by decide +kernel
theorem dX0_fences_10 : decode cX0_fences 10 = .ok (.iload_n 1, 1) := by decide +kernel
theorem dX0_fences_11 : decode cX0_fences 11 = .ok (.ishl, 1) := by decide +kernel
theorem dX0_fences_12 : decode cX0_fences 12 = .ok (.ior, 1) := by decide +kernel
theorem dX0_fences_13 : decode cX0_fences 13 = .ok (.putfield 28, 3) := by decide +kernel
theorem dX0_fences_16 : decode cX0_fences 16 = .ok (.goto 17, 3) := by decide +kernel
theorem dX0_fences_19 : decode cX0_fences 19 = .ok (.aload_n 0, 1) := by decide +kernel
theorem dX0_fences_20 : decode cX0_fences 20 = .ok (.dup, 1) := by decide +kernel
theorem dX0_fences_21 : decode cX0_fences 21 = .ok (.getfield 28, 3) := by decide +kernel
theorem dX0_fences_24 : decode cX0_fences 24 = .ok (.iconst 1, 1) := by decide +kernel
theorem dX0_fences_25 : decode cX0_fences 25 = .ok (.iload_n 1, 1) := by decide +kernel
theorem dX0_fences_26 : decode cX0_fences 26 = .ok (.ishl, 1) := by decide +kernel
theorem dX0_fences_27 : decode cX0_fences 27 = .ok (.iconst (-1), 1) := by decide +kernel
theorem dX0_fences_28 : decode cX0_fences 28 = .ok (.ixor, 1) := by decide +kernel
theorem dX0_fences_29 : decode cX0_fences 29 = .ok (.iand, 1) := by decide +kernel
theorem dX0_fences_30 : decode cX0_fences 30 = .ok (.putfield 28, 3) := by decide +kernel
theorem dX0_fences_33 : decode cX0_fences 33 = .ok (.return_, 1) := by decide +kernel
theorem dX0_clock_0 : decode cX0_clock 0 = .ok (.aload_n 0, 1) := by decide +kernel
theorem dX0_clock_1 : decode cX0_clock 1 = .ok (.getfield 35, 3) := by decide +kernel
theorem dX0_clock_4 : decode cX0_clock 4 = .ok (.bipush 24, 2) := by decide +kernel
theorem dX0_clock_6 : decode cX0_clock 6 = .ok (.irem, 1) := by decide +kernel
theorem dX0_clock_7 : decode cX0_clock 7 = .ok (.ireturn, 1) := by decide +kernel
theorem dX0_rainsAt_0 : decode cX0_rainsAt 0 = .ok (.aload_n 0, 1) := by decide +kernel
theorem dX0_rainsAt_1 : decode cX0_rainsAt 1 = .ok (.getfield 32, 3) := by decide +kernel
theorem dX0_rainsAt_4 : decode cX0_rainsAt 4 = .ok (.iload_n 1, 1) := by decide +kernel
theorem dX0_rainsAt_5 : decode cX0_rainsAt 5 = .ok (.ishr, 1) := by decide +kernel
theorem dX0_rainsAt_6 : decode cX0_rainsAt 6 = .ok (.iconst 1, 1) := by decide +kernel
theorem dX0_rainsAt_7 : decode cX0_rainsAt 7 = .ok (.iand, 1) := by decide +kernel
theorem dX0_rainsAt_8 : decode cX0_rainsAt 8 = .ok (.iconst 1, 1) := by decide +kernel
theorem dX0_rainsAt_9 : decode cX0_rainsAt 9 = .ok (.if_icmp .ne 7, 3) := by decide +kernel
theorem dX0_rainsAt_12 : decode cX0_rainsAt 12 = .ok (.iconst 1, 1) := by decide +kernel
theorem dX0_rainsAt_13 : decode cX0_rainsAt 13 = .ok (.goto 4, 3) := by decide +kernel
theorem dX0_rainsAt_16 : decode cX0_rainsAt 16 = .ok (.iconst 0, 1) := by decide +kernel
theorem dX0_rainsAt_17 : decode cX0_rainsAt 17 = .ok (.ireturn, 1) := by decide +kernel
theorem dX0_allTortoises_0 : decode cX0_allTortoises 0 = .ok (.iconst 1, 1) := by decide +kernel
theorem dX0_allTortoises_1 : decode cX0_allTortoises 1 = .ok (.aload_n 0, 1) := by decide +kernel
theorem dX0_allTortoises_2 : decode cX0_allTortoises 2 = .ok (.getfield 38, 3) := by decide +kernel
theorem dX0_allTortoises_5 : decode cX0_allTortoises 5 = .ok (.ishl, 1) := by decide +kernel
theorem dX0_allTortoises_6 : decode cX0_allTortoises 6 = .ok (.iconst 1, 1) := by decide +kernel
theorem dX0_allTortoises_7 : decode cX0_allTortoises 7 = .ok (.isub, 1) := by decide +kernel
theorem dX0_allTortoises_8 : decode cX0_allTortoises 8 = .ok (.ireturn, 1) := by decide +kernel
theorem dX0_tortoisesIn_0 : decode cX0_tortoisesIn 0 = .ok (.iconst 0, 1) := by decide +kernel
theorem dX0_tortoisesIn_1 : decode cX0_tortoisesIn 1 = .ok (.istore_n 2, 1) := by decide +kernel
theorem dX0_tortoisesIn_2 : decode cX0_tortoisesIn 2 = .ok (.iconst 0, 1) := by decide +kernel
theorem dX0_tortoisesIn_3 : decode cX0_tortoisesIn 3 = .ok (.istore_n 3, 1) := by decide +kernel
theorem dX0_tortoisesIn_4 : decode cX0_tortoisesIn 4 = .ok (.iload_n 3, 1) := by decide +kernel
theorem dX0_tortoisesIn_5 : decode cX0_tortoisesIn 5 = .ok (.aload_n 0, 1) := by decide +kernel
theorem dX0_tortoisesIn_6 : decode cX0_tortoisesIn 6 = .ok (.getfield 38, 3) := by decide +kernel
theorem dX0_tortoisesIn_9 : decode cX0_tortoisesIn 9 = .ok (.if_icmp .ge 25, 3) := by decide +kernel
theorem dX0_tortoisesIn_12 : decode cX0_tortoisesIn 12 = .ok (.aload_n 0, 1) := by decide +kernel
theorem dX0_tortoisesIn_13 : decode cX0_tortoisesIn 13 = .ok (.getfield 18, 3) := by decide +kernel
theorem dX0_tortoisesIn_16 : decode cX0_tortoisesIn 16 = .ok (.iload_n 3, 1) := by decide +kernel
theorem dX0_tortoisesIn_17 : decode cX0_tortoisesIn 17 = .ok (.iaload, 1) := by decide +kernel
theorem dX0_tortoisesIn_18 : decode cX0_tortoisesIn 18 = .ok (.iload_n 1, 1) := by decide +kernel
theorem dX0_tortoisesIn_19 : decode cX0_tortoisesIn 19 = .ok (.if_icmp .ne 9, 3) := by decide +kernel
theorem dX0_tortoisesIn_22 : decode cX0_tortoisesIn 22 = .ok (.iload_n 2, 1) := by decide +kernel
theorem dX0_tortoisesIn_23 : decode cX0_tortoisesIn 23 = .ok (.iconst 1, 1) := by decide +kernel
theorem dX0_tortoisesIn_24 : decode cX0_tortoisesIn 24 = .ok (.iload_n 3, 1) := by decide +kernel
theorem dX0_tortoisesIn_25 : decode cX0_tortoisesIn 25 = .ok (.ishl, 1) := by decide +kernel
theorem dX0_tortoisesIn_26 : decode cX0_tortoisesIn 26 = .ok (.ior, 1) := by decide +kernel
theorem dX0_tortoisesIn_27 : decode cX0_tortoisesIn 27 = .ok (.istore_n 2, 1) := by decide +kernel
theorem dX0_tortoisesIn_28 : decode cX0_tortoisesIn 28 = .ok (.iinc 3 1, 3) := by decide +kernel
theorem dX0_tortoisesIn_31 : decode cX0_tortoisesIn 31 = .ok (.goto (-27), 3) := by decide +kernel
theorem dX0_tortoisesIn_34 : decode cX0_tortoisesIn 34 = .ok (.iload_n 2, 1) := by decide +kernel
theorem dX0_tortoisesIn_35 : decode cX0_tortoisesIn 35 = .ok (.ireturn, 1) := by decide +kernel
theorem dX0_tortoisesWith_0 : decode cX0_tortoisesWith 0 = .ok (.iconst 0, 1) := by decide +kernel
theorem dX0_tortoisesWith_1 : decode cX0_tortoisesWith 1 = .ok (.istore_n 2, 1) := by decide +kernel
theorem dX0_tortoisesWith_2 : decode cX0_tortoisesWith 2 = .ok (.iconst 0, 1) := by decide +kernel
theorem dX0_tortoisesWith_3 : decode cX0_tortoisesWith 3 = .ok (.istore_n 3, 1) := by decide +kernel
theorem dX0_tortoisesWith_4 : decode cX0_tortoisesWith 4 = .ok (.iload_n 3, 1) := by decide +kernel
theorem dX0_tortoisesWith_5 : decode cX0_tortoisesWith 5 = .ok (.aload_n 0, 1) := by decide +kernel
theorem dX0_tortoisesWith_6 : decode cX0_tortoisesWith 6 = .ok (.getfield 38, 3) := by decide +kernel
theorem dX0_tortoisesWith_9 : decode cX0_tortoisesWith 9 = .ok (.if_icmp .ge 24, 3) := by decide +kernel
theorem dX0_tortoisesWith_12 : decode cX0_tortoisesWith 12 = .ok (.iload_n 2, 1) := by decide +kernel
theorem dX0_tortoisesWith_13 : decode cX0_tortoisesWith 13 = .ok (.aload_n 0, 1) := by decide +kernel
theorem dX0_tortoisesWith_14 : decode cX0_tortoisesWith 14 = .ok (.getfield 21, 3) := by decide +kernel
theorem dX0_tortoisesWith_17 : decode cX0_tortoisesWith 17 = .ok (.iload_n 3, 1) := by decide +kernel
theorem dX0_tortoisesWith_18 : decode cX0_tortoisesWith 18 = .ok (.iaload, 1) := by decide +kernel
theorem dX0_tortoisesWith_19 : decode cX0_tortoisesWith 19 = .ok (.iload_n 1, 1) := by decide +kernel
theorem dX0_tortoisesWith_20 : decode cX0_tortoisesWith 20 = .ok (.ishr, 1) := by decide +kernel
theorem dX0_tortoisesWith_21 : decode cX0_tortoisesWith 21 = .ok (.iconst 1, 1) := by decide +kernel
theorem dX0_tortoisesWith_22 : decode cX0_tortoisesWith 22 = .ok (.iand, 1) := by decide +kernel
theorem dX0_tortoisesWith_23 : decode cX0_tortoisesWith 23 = .ok (.iload_n 3, 1) := by decide +kernel
theorem dX0_tortoisesWith_24 : decode cX0_tortoisesWith 24 = .ok (.ishl, 1) := by decide +kernel
theorem dX0_tortoisesWith_25 : decode cX0_tortoisesWith 25 = .ok (.ior, 1) := by decide +kernel
theorem dX0_tortoisesWith_26 : decode cX0_tortoisesWith 26 = .ok (.istore_n 2, 1) := by decide +kernel
theorem dX0_tortoisesWith_27 : decode cX0_tortoisesWith 27 = .ok (.iinc 3 1, 3) := by decide +kernel
theorem dX0_tortoisesWith_30 : decode cX0_tortoisesWith 30 = .ok (.goto (-26), 3) := by decide +kernel
theorem dX0_tortoisesWith_33 : decode cX0_tortoisesWith 33 = .ok (.iload_n 2, 1) := by decide +kernel
theorem dX0_tortoisesWith_34 : decode cX0_tortoisesWith 34 = .ok (.ireturn, 1) := by decide +kernel
theorem dX0_cellsOf_0 : decode cX0_cellsOf 0 = .ok (.iconst 0, 1) := by decide +kernel
theorem dX0_cellsOf_1 : decode cX0_cellsOf 1 = .ok (.istore_n 2, 1) := by decide +kernel
theorem dX0_cellsOf_2 : decode cX0_cellsOf 2 = .ok (.iconst 0, 1) := by decide +kernel
theorem dX0_cellsOf_3 : decode cX0_cellsOf 3 = .ok (.istore_n 3, 1) := by decide +kernel
theorem dX0_cellsOf_4 : decode cX0_cellsOf 4 = .ok (.iload_n 3, 1) := by decide +kernel
theorem dX0_cellsOf_5 : decode cX0_cellsOf 5 = .ok (.aload_n 0, 1) := by decide +kernel
theorem dX0_cellsOf_6 : decode cX0_cellsOf 6 = .ok (.getfield 38, 3) := by decide +kernel
theorem dX0_cellsOf_9 : decode cX0_cellsOf 9 = .ok (.if_icmp .ge 29, 3) := by decide +kernel
theorem dX0_cellsOf_12 : decode cX0_cellsOf 12 = .ok (.iload_n 1, 1) := by decide +kernel
theorem dX0_cellsOf_13 : decode cX0_cellsOf 13 = .ok (.iload_n 3, 1) := by decide +kernel
theorem dX0_cellsOf_14 : decode cX0_cellsOf 14 = .ok (.ishr, 1) := by decide +kernel
theorem dX0_cellsOf_15 : decode cX0_cellsOf 15 = .ok (.iconst 1, 1) := by decide +kernel
theorem dX0_cellsOf_16 : decode cX0_cellsOf 16 = .ok (.iand, 1) := by decide +kernel
theorem dX0_cellsOf_17 : decode cX0_cellsOf 17 = .ok (.iconst 1, 1) := by decide +kernel
theorem dX0_cellsOf_18 : decode cX0_cellsOf 18 = .ok (.if_icmp .ne 14, 3) := by decide +kernel
theorem dX0_cellsOf_21 : decode cX0_cellsOf 21 = .ok (.iload_n 2, 1) := by decide +kernel
theorem dX0_cellsOf_22 : decode cX0_cellsOf 22 = .ok (.iconst 1, 1) := by decide +kernel
theorem dX0_cellsOf_23 : decode cX0_cellsOf 23 = .ok (.aload_n 0, 1) := by decide +kernel
theorem dX0_cellsOf_24 : decode cX0_cellsOf 24 = .ok (.getfield 18, 3) := by decide +kernel
theorem dX0_cellsOf_27 : decode cX0_cellsOf 27 = .ok (.iload_n 3, 1) := by decide +kernel
theorem dX0_cellsOf_28 : decode cX0_cellsOf 28 = .ok (.iaload, 1) := by decide +kernel
theorem dX0_cellsOf_29 : decode cX0_cellsOf 29 = .ok (.ishl, 1) := by decide +kernel
theorem dX0_cellsOf_30 : decode cX0_cellsOf 30 = .ok (.ior, 1) := by decide +kernel
theorem dX0_cellsOf_31 : decode cX0_cellsOf 31 = .ok (.istore_n 2, 1) := by decide +kernel
theorem dX0_cellsOf_32 : decode cX0_cellsOf 32 = .ok (.iinc 3 1, 3) := by decide +kernel
theorem dX0_cellsOf_35 : decode cX0_cellsOf 35 = .ok (.goto (-31), 3) := by decide +kernel
theorem dX0_cellsOf_38 : decode cX0_cellsOf 38 = .ok (.iload_n 2, 1) := by decide +kernel
theorem dX0_cellsOf_39 : decode cX0_cellsOf 39 = .ok (.ireturn, 1) := by decide +kernel
theorem dX0_subjectsIn_0 : decode cX0_subjectsIn 0 = .ok (.iconst 0, 1) := by decide +kernel
theorem dX0_subjectsIn_1 : decode cX0_subjectsIn 1 = .ok (.istore_n 2, 1) := by decide +kernel
theorem dX0_subjectsIn_2 : decode cX0_subjectsIn 2 = .ok (.iconst 0, 1) := by decide +kernel
theorem dX0_subjectsIn_3 : decode cX0_subjectsIn 3 = .ok (.istore_n 3, 1) := by decide +kernel
theorem dX0_subjectsIn_4 : decode cX0_subjectsIn 4 = .ok (.iload_n 3, 1) := by decide +kernel
theorem dX0_subjectsIn_5 : decode cX0_subjectsIn 5 = .ok (.aload_n 0, 1) := by decide +kernel
theorem dX0_subjectsIn_6 : decode cX0_subjectsIn 6 = .ok (.getfield 38, 3) := by decide +kernel
theorem dX0_subjectsIn_9 : decode cX0_subjectsIn 9 = .ok (.if_icmp .ge 32, 3) := by decide +kernel
theorem dX0_subjectsIn_12 : decode cX0_subjectsIn 12 = .ok (.iload_n 1, 1) := by decide +kernel
theorem dX0_subjectsIn_13 : decode cX0_subjectsIn 13 = .ok (.aload_n 0, 1) := by decide +kernel
theorem dX0_subjectsIn_14 : decode cX0_subjectsIn 14 = .ok (.getfield 18, 3) := by decide +kernel
theorem dX0_subjectsIn_17 : decode cX0_subjectsIn 17 = .ok (.iload_n 3, 1) := by decide +kernel
theorem dX0_subjectsIn_18 : decode cX0_subjectsIn 18 = .ok (.iaload, 1) := by decide +kernel
theorem dX0_subjectsIn_19 : decode cX0_subjectsIn 19 = .ok (.ishr, 1) := by decide +kernel
theorem dX0_subjectsIn_20 : decode cX0_subjectsIn 20 = .ok (.iconst 1, 1) := by decide +kernel
theorem dX0_subjectsIn_21 : decode cX0_subjectsIn 21 = .ok (.iand, 1) := by decide +kernel
theorem dX0_subjectsIn_22 : decode cX0_subjectsIn 22 = .ok (.iconst 1, 1) := by decide +kernel
theorem dX0_subjectsIn_23 : decode cX0_subjectsIn 23 = .ok (.if_icmp .ne 12, 3) := by decide +kernel
theorem dX0_subjectsIn_26 : decode cX0_subjectsIn 26 = .ok (.iload_n 2, 1) := by decide +kernel
theorem dX0_subjectsIn_27 : decode cX0_subjectsIn 27 = .ok (.aload_n 0, 1) := by decide +kernel
theorem dX0_subjectsIn_28 : decode cX0_subjectsIn 28 = .ok (.getfield 21, 3) := by decide +kernel
theorem dX0_subjectsIn_31 : decode cX0_subjectsIn 31 = .ok (.iload_n 3, 1) := by decide +kernel
theorem dX0_subjectsIn_32 : decode cX0_subjectsIn 32 = .ok (.iaload, 1) := by decide +kernel
theorem dX0_subjectsIn_33 : decode cX0_subjectsIn 33 = .ok (.ior, 1) := by decide +kernel
theorem dX0_subjectsIn_34 : decode cX0_subjectsIn 34 = .ok (.istore_n 2, 1) := by decide +kernel
theorem dX0_subjectsIn_35 : decode cX0_subjectsIn 35 = .ok (.iinc 3 1, 3) := by decide +kernel
theorem dX0_subjectsIn_38 : decode cX0_subjectsIn 38 = .ok (.goto (-34), 3) := by decide +kernel
theorem dX0_subjectsIn_41 : decode cX0_subjectsIn 41 = .ok (.iload_n 2, 1) := by decide +kernel
theorem dX0_subjectsIn_42 : decode cX0_subjectsIn 42 = .ok (.ireturn, 1) := by decide +kernel
theorem dX0_booksOfAll_0 : decode cX0_booksOfAll 0 = .ok (.iconst 0, 1) := by decide +kernel
theorem dX0_booksOfAll_1 : decode cX0_booksOfAll 1 = .ok (.istore_n 1, 1) := by decide +kernel
theorem dX0_booksOfAll_2 : decode cX0_booksOfAll 2 = .ok (.iconst 0, 1) := by decide +kernel
theorem dX0_booksOfAll_3 : decode cX0_booksOfAll 3 = .ok (.istore_n 2, 1) := by decide +kernel
theorem dX0_booksOfAll_4 : decode cX0_booksOfAll 4 = .ok (.iload_n 2, 1) := by decide +kernel
theorem dX0_booksOfAll_5 : decode cX0_booksOfAll 5 = .ok (.aload_n 0, 1) := by decide +kernel
theorem dX0_booksOfAll_6 : decode cX0_booksOfAll 6 = .ok (.getfield 38, 3) := by decide +kernel
theorem dX0_booksOfAll_9 : decode cX0_booksOfAll 9 = .ok (.if_icmp .ge 21, 3) := by decide +kernel
theorem dX0_booksOfAll_12 : decode cX0_booksOfAll 12 = .ok (.iload_n 1, 1) := by decide +kernel
theorem dX0_booksOfAll_13 : decode cX0_booksOfAll 13 = .ok (.aload_n 0, 1) := by decide +kernel
theorem dX0_booksOfAll_14 : decode cX0_booksOfAll 14 = .ok (.getfield 21, 3) := by decide +kernel
theorem dX0_booksOfAll_17 : decode cX0_booksOfAll 17 = .ok (.iload_n 2, 1) := by decide +kernel
theorem dX0_booksOfAll_18 : decode cX0_booksOfAll 18 = .ok (.iaload, 1) := by decide +kernel
theorem dX0_booksOfAll_19 : decode cX0_booksOfAll 19 = .ok (.invokestatic 45, 3) := by decide +kernel
theorem dX0_booksOfAll_22 : decode cX0_booksOfAll 22 = .ok (.iadd, 1) := by decide +kernel
theorem dX0_booksOfAll_23 : decode cX0_booksOfAll 23 = .ok (.istore_n 1, 1) := by decide +kernel
theorem dX0_booksOfAll_24 : decode cX0_booksOfAll 24 = .ok (.iinc 2 1, 3) := by decide +kernel
theorem dX0_booksOfAll_27 : decode cX0_booksOfAll 27 = .ok (.goto (-23), 3) := by decide +kernel
theorem dX0_booksOfAll_30 : decode cX0_booksOfAll 30 = .ok (.iload_n 1, 1) := by decide +kernel
theorem dX0_booksOfAll_31 : decode cX0_booksOfAll 31 = .ok (.ireturn, 1) := by decide +kernel
theorem dX0_tippedOnes_0 : decode cX0_tippedOnes 0 = .ok (.iconst 0, 1) := by decide +kernel
theorem dX0_tippedOnes_1 : decode cX0_tippedOnes 1 = .ok (.istore_n 1, 1) := by decide +kernel
theorem dX0_tippedOnes_2 : decode cX0_tippedOnes 2 = .ok (.iconst 0, 1) := by decide +kernel
theorem dX0_tippedOnes_3 : decode cX0_tippedOnes 3 = .ok (.istore_n 2, 1) := by decide +kernel
theorem dX0_tippedOnes_4 : decode cX0_tippedOnes 4 = .ok (.iload_n 2, 1) := by decide +kernel
theorem dX0_tippedOnes_5 : decode cX0_tippedOnes 5 = .ok (.aload_n 0, 1) := by decide +kernel
theorem dX0_tippedOnes_6 : decode cX0_tippedOnes 6 = .ok (.getfield 38, 3) := by decide +kernel
theorem dX0_tippedOnes_9 : decode cX0_tippedOnes 9 = .ok (.if_icmp .ge 26, 3) := by decide +kernel
theorem dX0_tippedOnes_12 : decode cX0_tippedOnes 12 = .ok (.iload_n 1, 1) := by decide +kernel
theorem dX0_tippedOnes_13 : decode cX0_tippedOnes 13 = .ok (.aload_n 0, 1) := by decide +kernel
theorem dX0_tippedOnes_14 : decode cX0_tippedOnes 14 = .ok (.getfield 24, 3) := by decide +kernel
theorem dX0_tippedOnes_17 : decode cX0_tippedOnes 17 = .ok (.iload_n 2, 1) := by decide +kernel
theorem dX0_tippedOnes_18 : decode cX0_tippedOnes 18 = .ok (.baload, 1) := by decide +kernel
theorem dX0_tippedOnes_19 : decode cX0_tippedOnes 19 = .ok (.ifCond .eq 7, 3) := by decide +kernel
theorem dX0_tippedOnes_22 : decode cX0_tippedOnes 22 = .ok (.iconst 1, 1) := by decide +kernel
theorem dX0_tippedOnes_23 : decode cX0_tippedOnes 23 = .ok (.goto 4, 3) := by decide +kernel
theorem dX0_tippedOnes_26 : decode cX0_tippedOnes 26 = .ok (.iconst 0, 1) := by decide +kernel
theorem dX0_tippedOnes_27 : decode cX0_tippedOnes 27 = .ok (.iadd, 1) := by decide +kernel
theorem dX0_tippedOnes_28 : decode cX0_tippedOnes 28 = .ok (.istore_n 1, 1) := by decide +kernel
theorem dX0_tippedOnes_29 : decode cX0_tippedOnes 29 = .ok (.iinc 2 1, 3) := by decide +kernel
theorem dX0_tippedOnes_32 : decode cX0_tippedOnes 32 = .ok (.goto (-28), 3) := by decide +kernel
theorem dX0_tippedOnes_35 : decode cX0_tippedOnes 35 = .ok (.iload_n 1, 1) := by decide +kernel
theorem dX0_tippedOnes_36 : decode cX0_tippedOnes 36 = .ok (.ireturn, 1) := by decide +kernel
theorem dX0_aimOf_0 : decode cX0_aimOf 0 = .ok (.aload_n 0, 1) := by decide +kernel
theorem dX0_aimOf_1 : decode cX0_aimOf 1 = .ok (.invokevirtual 51, 3) := by decide +kernel
theorem dX0_aimOf_4 : decode cX0_aimOf 4 = .ok (.istore_n 2, 1) := by decide +kernel
theorem dX0_aimOf_5 : decode cX0_aimOf 5 = .ok (.aload_n 0, 1) := by decide +kernel
theorem dX0_aimOf_6 : decode cX0_aimOf 6 = .ok (.getfield 15, 3) := by decide +kernel
theorem dX0_aimOf_9 : decode cX0_aimOf 9 = .ok (.iload_n 1, 1) := by decide +kernel
theorem dX0_aimOf_10 : decode cX0_aimOf 10 = .ok (.iaload, 1) := by decide +kernel
theorem dX0_aimOf_11 : decode cX0_aimOf 11 = .ok (.tableswitch 104 2 5 #[29, 35, 59, 81], 29) := by decide +kernel
theorem dX0_aimOf_40 : decode cX0_aimOf 40 = .ok (.aload_n 0, 1) := by decide +kernel
theorem dX0_aimOf_41 : decode cX0_aimOf 41 = .ok (.iload_n 2, 1) := by decide +kernel
theorem dX0_aimOf_42 : decode cX0_aimOf 42 = .ok (.invokevirtual 55, 3) := by decide +kernel
theorem dX0_aimOf_45 : decode cX0_aimOf 45 = .ok (.ireturn, 1) := by decide +kernel
theorem dX0_aimOf_46 : decode cX0_aimOf 46 = .ok (.aload_n 0, 1) := by decide +kernel
theorem dX0_aimOf_47 : decode cX0_aimOf 47 = .ok (.iload_n 2, 1) := by decide +kernel
theorem dX0_aimOf_48 : decode cX0_aimOf 48 = .ok (.invokevirtual 58, 3) := by decide +kernel
theorem dX0_aimOf_51 : decode cX0_aimOf 51 = .ok (.ifCond .eq 12, 3) := by decide +kernel
theorem dX0_aimOf_54 : decode cX0_aimOf 54 = .ok (.aload_n 0, 1) := by decide +kernel
theorem dX0_aimOf_55 : decode cX0_aimOf 55 = .ok (.getfield 9, 3) := by decide +kernel
theorem dX0_aimOf_58 : decode cX0_aimOf 58 = .ok (.iconst 0, 1) := by decide +kernel
theorem dX0_aimOf_59 : decode cX0_aimOf 59 = .ok (.iaload, 1) := by decide +kernel
theorem dX0_aimOf_60 : decode cX0_aimOf 60 = .ok (.goto 9, 3) := by decide +kernel
theorem dX0_aimOf_63 : decode cX0_aimOf 63 = .ok (.aload_n 0, 1) := by decide +kernel
theorem dX0_aimOf_64 : decode cX0_aimOf 64 = .ok (.getfield 18, 3) := by decide +kernel
theorem dX0_aimOf_67 : decode cX0_aimOf 67 = .ok (.iload_n 1, 1) := by decide +kernel
theorem dX0_aimOf_68 : decode cX0_aimOf 68 = .ok (.iaload, 1) := by decide +kernel
theorem dX0_aimOf_69 : decode cX0_aimOf 69 = .ok (.ireturn, 1) := by decide +kernel
theorem dX0_aimOf_70 : decode cX0_aimOf 70 = .ok (.iload_n 2, 1) := by decide +kernel
theorem dX0_aimOf_71 : decode cX0_aimOf 71 = .ok (.bipush 20, 2) := by decide +kernel
theorem dX0_aimOf_73 : decode cX0_aimOf 73 = .ok (.if_icmp .lt 12, 3) := by decide +kernel
theorem dX0_aimOf_76 : decode cX0_aimOf 76 = .ok (.aload_n 0, 1) := by decide +kernel
theorem dX0_aimOf_77 : decode cX0_aimOf 77 = .ok (.getfield 9, 3) := by decide +kernel
theorem dX0_aimOf_80 : decode cX0_aimOf 80 = .ok (.iconst 2, 1) := by decide +kernel
theorem dX0_aimOf_81 : decode cX0_aimOf 81 = .ok (.iaload, 1) := by decide +kernel
theorem dX0_aimOf_82 : decode cX0_aimOf 82 = .ok (.goto 9, 3) := by decide +kernel
theorem dX0_aimOf_85 : decode cX0_aimOf 85 = .ok (.aload_n 0, 1) := by decide +kernel
theorem dX0_aimOf_86 : decode cX0_aimOf 86 = .ok (.getfield 9, 3) := by decide +kernel
theorem dX0_aimOf_89 : decode cX0_aimOf 89 = .ok (.iconst 0, 1) := by decide +kernel
theorem dX0_aimOf_90 : decode cX0_aimOf 90 = .ok (.iaload, 1) := by decide +kernel
theorem dX0_aimOf_91 : decode cX0_aimOf 91 = .ok (.ireturn, 1) := by decide +kernel
theorem dX0_aimOf_92 : decode cX0_aimOf 92 = .ok (.aload_n 0, 1) := by decide +kernel
theorem dX0_aimOf_93 : decode cX0_aimOf 93 = .ok (.iload_n 2, 1) := by decide +kernel
theorem dX0_aimOf_94 : decode cX0_aimOf 94 = .ok (.invokevirtual 58, 3) := by decide +kernel
theorem dX0_aimOf_97 : decode cX0_aimOf 97 = .ok (.ifCond .eq 12, 3) := by decide +kernel
theorem dX0_aimOf_100 : decode cX0_aimOf 100 = .ok (.aload_n 0, 1) := by decide +kernel
theorem dX0_aimOf_101 : decode cX0_aimOf 101 = .ok (.getfield 9, 3) := by decide +kernel
theorem dX0_aimOf_104 : decode cX0_aimOf 104 = .ok (.iconst 2, 1) := by decide +kernel
theorem dX0_aimOf_105 : decode cX0_aimOf 105 = .ok (.iaload, 1) := by decide +kernel
theorem dX0_aimOf_106 : decode cX0_aimOf 106 = .ok (.goto 8, 3) := by decide +kernel
theorem dX0_aimOf_109 : decode cX0_aimOf 109 = .ok (.aload_n 0, 1) := by decide +kernel
theorem dX0_aimOf_110 : decode cX0_aimOf 110 = .ok (.iload_n 2, 1) := by decide +kernel
theorem dX0_aimOf_111 : decode cX0_aimOf 111 = .ok (.invokevirtual 55, 3) := by decide +kernel
theorem dX0_aimOf_114 : decode cX0_aimOf 114 = .ok (.ireturn, 1) := by decide +kernel
theorem dX0_aimOf_115 : decode cX0_aimOf 115 = .ok (.aload_n 0, 1) := by decide +kernel
theorem dX0_aimOf_116 : decode cX0_aimOf 116 = .ok (.getfield 9, 3) := by decide +kernel
theorem dX0_aimOf_119 : decode cX0_aimOf 119 = .ok (.iconst 0, 1) := by decide +kernel
theorem dX0_aimOf_120 : decode cX0_aimOf 120 = .ok (.iaload, 1) := by decide +kernel
theorem dX0_aimOf_121 : decode cX0_aimOf 121 = .ok (.ireturn, 1) := by decide +kernel
theorem dX0_aimOfLaw_0 : decode cX0_aimOfLaw 0 = .ok (.iload_n 1, 1) := by decide +kernel
theorem dX0_aimOfLaw_1 : decode cX0_aimOfLaw 1 = .ok (.bipush 10, 2) := by decide +kernel
theorem dX0_aimOfLaw_3 : decode cX0_aimOfLaw 3 = .ok (.if_icmp .lt 18, 3) := by decide +kernel
theorem dX0_aimOfLaw_6 : decode cX0_aimOfLaw 6 = .ok (.iload_n 1, 1) := by decide +kernel
theorem dX0_aimOfLaw_7 : decode cX0_aimOfLaw 7 = .ok (.bipush 15, 2) := by decide +kernel
theorem dX0_aimOfLaw_9 : decode cX0_aimOfLaw 9 = .ok (.if_icmp .gt 12, 3) := by decide +kernel
theorem dX0_aimOfLaw_12 : decode cX0_aimOfLaw 12 = .ok (.aload_n 0, 1) := by decide +kernel
theorem dX0_aimOfLaw_13 : decode cX0_aimOfLaw 13 = .ok (.getfield 9, 3) := by decide +kernel
theorem dX0_aimOfLaw_16 : decode cX0_aimOfLaw 16 = .ok (.iconst 1, 1) := by decide +kernel
theorem dX0_aimOfLaw_17 : decode cX0_aimOfLaw 17 = .ok (.iaload, 1) := by decide +kernel
theorem dX0_aimOfLaw_18 : decode cX0_aimOfLaw 18 = .ok (.goto 9, 3) := by decide +kernel
theorem dX0_aimOfLaw_21 : decode cX0_aimOfLaw 21 = .ok (.aload_n 0, 1) := by decide +kernel
theorem dX0_aimOfLaw_22 : decode cX0_aimOfLaw 22 = .ok (.getfield 9, 3) := by decide +kernel
theorem dX0_aimOfLaw_25 : decode cX0_aimOfLaw 25 = .ok (.iconst 0, 1) := by decide +kernel
theorem dX0_aimOfLaw_26 : decode cX0_aimOfLaw 26 = .ok (.iaload, 1) := by decide +kernel
theorem dX0_aimOfLaw_27 : decode cX0_aimOfLaw 27 = .ok (.ireturn, 1) := by decide +kernel
theorem dX0_paceOf_0 : decode cX0_paceOf 0 = .ok (.aload_n 0, 1) := by decide +kernel
theorem dX0_paceOf_1 : decode cX0_paceOf 1 = .ok (.getfield 15, 3) := by decide +kernel
theorem dX0_paceOf_4 : decode cX0_paceOf 4 = .ok (.iload_n 1, 1) := by decide +kernel
theorem dX0_paceOf_5 : decode cX0_paceOf 5 = .ok (.iaload, 1) := by decide +kernel
theorem dX0_paceOf_6 : decode cX0_paceOf 6 = .ok (.tableswitch 49 1 4 #[30, 49, 34, 32], 30) := by decide +kernel
theorem dX0_paceOf_36 : decode cX0_paceOf 36 = .ok (.iconst 2, 1) := by decide +kernel
theorem dX0_paceOf_37 : decode cX0_paceOf 37 = .ok (.ireturn, 1) := by decide +kernel
theorem dX0_paceOf_38 : decode cX0_paceOf 38 = .ok (.iconst 3, 1) := by decide +kernel
theorem dX0_paceOf_39 : decode cX0_paceOf 39 = .ok (.ireturn, 1) := by decide +kernel
theorem dX0_paceOf_40 : decode cX0_paceOf 40 = .ok (.aload_n 0, 1) := by decide +kernel
theorem dX0_paceOf_41 : decode cX0_paceOf 41 = .ok (.invokevirtual 51, 3) := by decide +kernel
theorem dX0_paceOf_44 : decode cX0_paceOf 44 = .ok (.iconst 2, 1) := by decide +kernel
theorem dX0_paceOf_45 : decode cX0_paceOf 45 = .ok (.irem, 1) := by decide +kernel
theorem dX0_paceOf_46 : decode cX0_paceOf 46 = .ok (.ifCond .ne 7, 3) := by decide +kernel
theorem dX0_paceOf_49 : decode cX0_paceOf 49 = .ok (.iconst 1, 1) := by decide +kernel
theorem dX0_paceOf_50 : decode cX0_paceOf 50 = .ok (.goto 4, 3) := by decide +kernel
theorem dX0_paceOf_53 : decode cX0_paceOf 53 = .ok (.iconst 0, 1) := by decide +kernel
theorem dX0_paceOf_54 : decode cX0_paceOf 54 = .ok (.ireturn, 1) := by decide +kernel
theorem dX0_paceOf_55 : decode cX0_paceOf 55 = .ok (.iconst 1, 1) := by decide +kernel
theorem dX0_paceOf_56 : decode cX0_paceOf 56 = .ok (.ireturn, 1) := by decide +kernel
theorem dX0_goHours_0 : decode cX0_goHours 0 = .ok (.iconst 0, 1) := by decide +kernel
theorem dX0_goHours_1 : decode cX0_goHours 1 = .ok (.istore_n 2, 1) := by decide +kernel
theorem dX0_goHours_2 : decode cX0_goHours 2 = .ok (.iload_n 2, 1) := by decide +kernel
theorem dX0_goHours_3 : decode cX0_goHours 3 = .ok (.iload_n 1, 1) := by decide +kernel
theorem dX0_goHours_4 : decode cX0_goHours 4 = .ok (.if_icmp .ge 13, 3) := by decide +kernel
theorem dX0_goHours_7 : decode cX0_goHours 7 = .ok (.aload_n 0, 1) := by decide +kernel
theorem dX0_goHours_8 : decode cX0_goHours 8 = .ok (.invokevirtual 62, 3) := by decide +kernel
theorem dX0_goHours_11 : decode cX0_goHours 11 = .ok (.iinc 2 1, 3) := by decide +kernel
theorem dX0_goHours_14 : decode cX0_goHours 14 = .ok (.goto (-12), 3) := by decide +kernel
theorem dX0_goHours_17 : decode cX0_goHours 17 = .ok (.return_, 1) := by decide +kernel
theorem dX0_goAnHour_0 : decode cX0_goAnHour 0 = .ok (.iconst 0, 1) := by decide +kernel
theorem dX0_goAnHour_1 : decode cX0_goAnHour 1 = .ok (.istore_n 1, 1) := by decide +kernel
theorem dX0_goAnHour_2 : decode cX0_goAnHour 2 = .ok (.iload_n 1, 1) := by decide +kernel
theorem dX0_goAnHour_3 : decode cX0_goAnHour 3 = .ok (.aload_n 0, 1) := by decide +kernel
theorem dX0_goAnHour_4 : decode cX0_goAnHour 4 = .ok (.getfield 38, 3) := by decide +kernel
theorem dX0_goAnHour_7 : decode cX0_goAnHour 7 = .ok (.if_icmp .ge 14, 3) := by decide +kernel
theorem dX0_goAnHour_10 : decode cX0_goAnHour 10 = .ok (.aload_n 0, 1) := by decide +kernel
theorem dX0_goAnHour_11 : decode cX0_goAnHour 11 = .ok (.iload_n 1, 1) := by decide +kernel
theorem dX0_goAnHour_12 : decode cX0_goAnHour 12 = .ok (.invokevirtual 65, 3) := by decide +kernel
theorem dX0_goAnHour_15 : decode cX0_goAnHour 15 = .ok (.iinc 1 1, 3) := by decide +kernel
theorem dX0_goAnHour_18 : decode cX0_goAnHour 18 = .ok (.goto (-16), 3) := by decide +kernel
theorem dX0_goAnHour_21 : decode cX0_goAnHour 21 = .ok (.aload_n 0, 1) := by decide +kernel
theorem dX0_goAnHour_22 : decode cX0_goAnHour 22 = .ok (.invokevirtual 69, 3) := by decide +kernel
theorem dX0_goAnHour_25 : decode cX0_goAnHour 25 = .ok (.aload_n 0, 1) := by decide +kernel
theorem dX0_goAnHour_26 : decode cX0_goAnHour 26 = .ok (.dup, 1) := by decide +kernel
theorem dX0_goAnHour_27 : decode cX0_goAnHour 27 = .ok (.getfield 35, 3) := by decide +kernel
theorem dX0_goAnHour_30 : decode cX0_goAnHour 30 = .ok (.iconst 1, 1) := by decide +kernel
theorem dX0_goAnHour_31 : decode cX0_goAnHour 31 = .ok (.iadd, 1) := by decide +kernel
theorem dX0_goAnHour_32 : decode cX0_goAnHour 32 = .ok (.putfield 35, 3) := by decide +kernel
theorem dX0_goAnHour_35 : decode cX0_goAnHour 35 = .ok (.return_, 1) := by decide +kernel
theorem dX0_goAlone_0 : decode cX0_goAlone 0 = .ok (.aload_n 0, 1) := by decide +kernel
theorem dX0_goAlone_1 : decode cX0_goAlone 1 = .ok (.iload_n 1, 1) := by decide +kernel
theorem dX0_goAlone_2 : decode cX0_goAlone 2 = .ok (.invokevirtual 65, 3) := by decide +kernel
theorem dX0_goAlone_5 : decode cX0_goAlone 5 = .ok (.aload_n 0, 1) := by decide +kernel
theorem dX0_goAlone_6 : decode cX0_goAlone 6 = .ok (.dup, 1) := by decide +kernel
theorem dX0_goAlone_7 : decode cX0_goAlone 7 = .ok (.getfield 35, 3) := by decide +kernel
theorem dX0_goAlone_10 : decode cX0_goAlone 10 = .ok (.iconst 1, 1) := by decide +kernel
theorem dX0_goAlone_11 : decode cX0_goAlone 11 = .ok (.iadd, 1) := by decide +kernel
theorem dX0_goAlone_12 : decode cX0_goAlone 12 = .ok (.putfield 35, 3) := by decide +kernel
theorem dX0_goAlone_15 : decode cX0_goAlone 15 = .ok (.return_, 1) := by decide +kernel
theorem dX0_walk_0 : decode cX0_walk 0 = .ok (.aload_n 0, 1) := by decide +kernel
theorem dX0_walk_1 : decode cX0_walk 1 = .ok (.getfield 24, 3) := by decide +kernel
theorem dX0_walk_4 : decode cX0_walk 4 = .ok (.iload_n 1, 1) := by decide +kernel
theorem dX0_walk_5 : decode cX0_walk 5 = .ok (.baload, 1) := by decide +kernel
theorem dX0_walk_6 : decode cX0_walk 6 = .ok (.ifCond .eq 4, 3) := by decide +kernel
theorem dX0_walk_9 : decode cX0_walk 9 = .ok (.return_, 1) := by decide +kernel
theorem dX0_walk_10 : decode cX0_walk 10 = .ok (.aload_n 0, 1) := by decide +kernel
theorem dX0_walk_11 : decode cX0_walk 11 = .ok (.iload_n 1, 1) := by decide +kernel
theorem dX0_walk_12 : decode cX0_walk 12 = .ok (.invokevirtual 72, 3) := by decide +kernel
theorem dX0_walk_15 : decode cX0_walk 15 = .ok (.istore_n 2, 1) := by decide +kernel
theorem dX0_walk_16 : decode cX0_walk 16 = .ok (.aload_n 0, 1) := by decide +kernel
theorem dX0_walk_17 : decode cX0_walk 17 = .ok (.iload_n 1, 1) := by decide +kernel
theorem dX0_walk_18 : decode cX0_walk 18 = .ok (.invokevirtual 75, 3) := by decide +kernel
theorem dX0_walk_21 : decode cX0_walk 21 = .ok (.istore_n 3, 1) := by decide +kernel
theorem dX0_walk_22 : decode cX0_walk 22 = .ok (.iconst 0, 1) := by decide +kernel
theorem dX0_walk_23 : decode cX0_walk 23 = .ok (.istore 4, 2) := by decide +kernel
theorem dX0_walk_25 : decode cX0_walk 25 = .ok (.iload 4, 2) := by decide +kernel
theorem dX0_walk_27 : decode cX0_walk 27 = .ok (.iload_n 3, 1) := by decide +kernel
theorem dX0_walk_28 : decode cX0_walk 28 = .ok (.if_icmp .ge 26, 3) := by decide +kernel
theorem dX0_walk_31 : decode cX0_walk 31 = .ok (.aload_n 0, 1) := by decide +kernel
theorem dX0_walk_32 : decode cX0_walk 32 = .ok (.getfield 18, 3) := by decide +kernel
theorem dX0_walk_35 : decode cX0_walk 35 = .ok (.iload_n 1, 1) := by decide +kernel
theorem dX0_walk_36 : decode cX0_walk 36 = .ok (.aload_n 0, 1) := by decide +kernel
theorem dX0_walk_37 : decode cX0_walk 37 = .ok (.aload_n 0, 1) := by decide +kernel
theorem dX0_walk_38 : decode cX0_walk 38 = .ok (.getfield 18, 3) := by decide +kernel
theorem dX0_walk_41 : decode cX0_walk 41 = .ok (.iload_n 1, 1) := by decide +kernel
theorem dX0_walk_42 : decode cX0_walk 42 = .ok (.iaload, 1) := by decide +kernel
theorem dX0_walk_43 : decode cX0_walk 43 = .ok (.iload_n 2, 1) := by decide +kernel
theorem dX0_walk_44 : decode cX0_walk 44 = .ok (.invokevirtual 78, 3) := by decide +kernel
theorem dX0_walk_47 : decode cX0_walk 47 = .ok (.iastore, 1) := by decide +kernel
theorem dX0_walk_48 : decode cX0_walk 48 = .ok (.iinc 4 1, 3) := by decide +kernel
theorem dX0_walk_51 : decode cX0_walk 51 = .ok (.goto (-26), 3) := by decide +kernel
theorem dX0_walk_54 : decode cX0_walk 54 = .ok (.return_, 1) := by decide +kernel
theorem dX0_stepFrom_0 : decode cX0_stepFrom 0 = .ok (.iload_n 2, 1) := by decide +kernel
theorem dX0_stepFrom_1 : decode cX0_stepFrom 1 = .ok (.bipush 6, 2) := by decide +kernel
theorem dX0_stepFrom_3 : decode cX0_stepFrom 3 = .ok (.idiv, 1) := by decide +kernel
theorem dX0_stepFrom_4 : decode cX0_stepFrom 4 = .ok (.iload_n 1, 1) := by decide +kernel
theorem dX0_stepFrom_5 : decode cX0_stepFrom 5 = .ok (.bipush 6, 2) := by decide +kernel
theorem dX0_stepFrom_7 : decode cX0_stepFrom 7 = .ok (.idiv, 1) := by decide +kernel
theorem dX0_stepFrom_8 : decode cX0_stepFrom 8 = .ok (.isub, 1) := by decide +kernel
theorem dX0_stepFrom_9 : decode cX0_stepFrom 9 = .ok (.istore_n 3, 1) := by decide +kernel
theorem dX0_stepFrom_10 : decode cX0_stepFrom 10 = .ok (.iload_n 3, 1) := by decide +kernel
theorem dX0_stepFrom_11 : decode cX0_stepFrom 11 = .ok (.ifCond .eq 32, 3) := by decide +kernel
theorem dX0_stepFrom_14 : decode cX0_stepFrom 14 = .ok (.iload_n 3, 1) := by decide +kernel
theorem dX0_stepFrom_15 : decode cX0_stepFrom 15 = .ok (.ifCond .le 10, 3) := by decide +kernel
theorem dX0_stepFrom_18 : decode cX0_stepFrom 18 = .ok (.iload_n 1, 1) := by decide +kernel
theorem dX0_stepFrom_19 : decode cX0_stepFrom 19 = .ok (.bipush 6, 2) := by decide +kernel
theorem dX0_stepFrom_21 : decode cX0_stepFrom 21 = .ok (.iadd, 1) := by decide +kernel
theorem dX0_stepFrom_22 : decode cX0_stepFrom 22 = .ok (.goto 7, 3) := by decide +kernel
theorem dX0_stepFrom_25 : decode cX0_stepFrom 25 = .ok (.iload_n 1, 1) := by decide +kernel
theorem dX0_stepFrom_26 : decode cX0_stepFrom 26 = .ok (.bipush 6, 2) := by decide +kernel
theorem dX0_stepFrom_28 : decode cX0_stepFrom 28 = .ok (.isub, 1) := by decide +kernel
theorem dX0_stepFrom_29 : decode cX0_stepFrom 29 = .ok (.istore 4, 2) := by decide +kernel
theorem dX0_stepFrom_31 : decode cX0_stepFrom 31 = .ok (.aload_n 0, 1) := by decide +kernel
theorem dX0_stepFrom_32 : decode cX0_stepFrom 32 = .ok (.iload 4, 2) := by decide +kernel
theorem dX0_stepFrom_34 : decode cX0_stepFrom 34 = .ok (.invokevirtual 82, 3) := by decide +kernel
theorem dX0_stepFrom_37 : decode cX0_stepFrom 37 = .ok (.ifCond .ne 6, 3) := by decide +kernel
theorem dX0_stepFrom_40 : decode cX0_stepFrom 40 = .ok (.iload 4, 2) := by decide +kernel
theorem dX0_stepFrom_42 : decode cX0_stepFrom 42 = .ok (.ireturn, 1) := by decide +kernel
theorem dX0_stepFrom_43 : decode cX0_stepFrom 43 = .ok (.iload_n 2, 1) := by decide +kernel
theorem dX0_stepFrom_44 : decode cX0_stepFrom 44 = .ok (.bipush 6, 2) := by decide +kernel
theorem dX0_stepFrom_46 : decode cX0_stepFrom 46 = .ok (.irem, 1) := by decide +kernel
theorem dX0_stepFrom_47 : decode cX0_stepFrom 47 = .ok (.iload_n 1, 1) := by decide +kernel
theorem dX0_stepFrom_48 : decode cX0_stepFrom 48 = .ok (.bipush 6, 2) := by decide +kernel
theorem dX0_stepFrom_50 : decode cX0_stepFrom 50 = .ok (.irem, 1) := by decide +kernel
theorem dX0_stepFrom_51 : decode cX0_stepFrom 51 = .ok (.isub, 1) := by decide +kernel
theorem dX0_stepFrom_52 : decode cX0_stepFrom 52 = .ok (.istore 4, 2) := by decide +kernel
theorem dX0_stepFrom_54 : decode cX0_stepFrom 54 = .ok (.iload 4, 2) := by decide +kernel
theorem dX0_stepFrom_56 : decode cX0_stepFrom 56 = .ok (.ifCond .eq 31, 3) := by decide +kernel
theorem dX0_stepFrom_59 : decode cX0_stepFrom 59 = .ok (.iload 4, 2) := by decide +kernel
theorem dX0_stepFrom_61 : decode cX0_stepFrom 61 = .ok (.ifCond .le 9, 3) := by decide +kernel
theorem dX0_stepFrom_64 : decode cX0_stepFrom 64 = .ok (.iload_n 1, 1) := by decide +kernel
theorem dX0_stepFrom_65 : decode cX0_stepFrom 65 = .ok (.iconst 1, 1) := by decide +kernel
theorem dX0_stepFrom_66 : decode cX0_stepFrom 66 = .ok (.iadd, 1) := by decide +kernel
theorem dX0_stepFrom_67 : decode cX0_stepFrom 67 = .ok (.goto 6, 3) := by decide +kernel
theorem dX0_stepFrom_70 : decode cX0_stepFrom 70 = .ok (.iload_n 1, 1) := by decide +kernel
theorem dX0_stepFrom_71 : decode cX0_stepFrom 71 = .ok (.iconst 1, 1) := by decide +kernel
theorem dX0_stepFrom_72 : decode cX0_stepFrom 72 = .ok (.isub, 1) := by decide +kernel
theorem dX0_stepFrom_73 : decode cX0_stepFrom 73 = .ok (.istore 5, 2) := by decide +kernel
theorem dX0_stepFrom_75 : decode cX0_stepFrom 75 = .ok (.aload_n 0, 1) := by decide +kernel
theorem dX0_stepFrom_76 : decode cX0_stepFrom 76 = .ok (.iload 5, 2) := by decide +kernel
theorem dX0_stepFrom_78 : decode cX0_stepFrom 78 = .ok (.invokevirtual 82, 3) := by decide +kernel
theorem dX0_stepFrom_81 : decode cX0_stepFrom 81 = .ok (.ifCond .ne 6, 3) := by decide +kernel
theorem dX0_stepFrom_84 : decode cX0_stepFrom 84 = .ok (.iload 5, 2) := by decide +kernel
theorem dX0_stepFrom_86 : decode cX0_stepFrom 86 = .ok (.ireturn, 1) := by decide +kernel
theorem dX0_stepFrom_87 : decode cX0_stepFrom 87 = .ok (.iload_n 1, 1) := by decide +kernel
theorem dX0_stepFrom_88 : decode cX0_stepFrom 88 = .ok (.ireturn, 1) := by decide +kernel
theorem dX0_meetAll_0 : decode cX0_meetAll 0 = .ok (.iconst 0, 1) := by decide +kernel
theorem dX0_meetAll_1 : decode cX0_meetAll 1 = .ok (.istore_n 1, 1) := by decide +kernel
theorem dX0_meetAll_2 : decode cX0_meetAll 2 = .ok (.iload_n 1, 1) := by decide +kernel
theorem dX0_meetAll_3 : decode cX0_meetAll 3 = .ok (.aload_n 0, 1) := by decide +kernel
theorem dX0_meetAll_4 : decode cX0_meetAll 4 = .ok (.getfield 38, 3) := by decide +kernel
theorem dX0_meetAll_7 : decode cX0_meetAll 7 = .ok (.if_icmp .ge 48, 3) := by decide +kernel
theorem dX0_meetAll_10 : decode cX0_meetAll 10 = .ok (.iload_n 1, 1) := by decide +kernel
theorem dX0_meetAll_11 : decode cX0_meetAll 11 = .ok (.iconst 1, 1) := by decide +kernel
theorem dX0_meetAll_12 : decode cX0_meetAll 12 = .ok (.iadd, 1) := by decide +kernel
theorem dX0_meetAll_13 : decode cX0_meetAll 13 = .ok (.istore_n 2, 1) := by decide +kernel
theorem dX0_meetAll_14 : decode cX0_meetAll 14 = .ok (.iload_n 2, 1) := by decide +kernel
theorem dX0_meetAll_15 : decode cX0_meetAll 15 = .ok (.aload_n 0, 1) := by decide +kernel
theorem dX0_meetAll_16 : decode cX0_meetAll 16 = .ok (.getfield 38, 3) := by decide +kernel
theorem dX0_meetAll_19 : decode cX0_meetAll 19 = .ok (.if_icmp .ge 30, 3) := by decide +kernel
theorem dX0_meetAll_22 : decode cX0_meetAll 22 = .ok (.aload_n 0, 1) := by decide +kernel
theorem dX0_meetAll_23 : decode cX0_meetAll 23 = .ok (.getfield 18, 3) := by decide +kernel
theorem dX0_meetAll_26 : decode cX0_meetAll 26 = .ok (.iload_n 1, 1) := by decide +kernel
theorem dX0_meetAll_27 : decode cX0_meetAll 27 = .ok (.iaload, 1) := by decide +kernel
theorem dX0_meetAll_28 : decode cX0_meetAll 28 = .ok (.aload_n 0, 1) := by decide +kernel
theorem dX0_meetAll_29 : decode cX0_meetAll 29 = .ok (.getfield 18, 3) := by decide +kernel
theorem dX0_meetAll_32 : decode cX0_meetAll 32 = .ok (.iload_n 2, 1) := by decide +kernel
theorem dX0_meetAll_33 : decode cX0_meetAll 33 = .ok (.iaload, 1) := by decide +kernel
theorem dX0_meetAll_34 : decode cX0_meetAll 34 = .ok (.if_icmp .ne 9, 3) := by decide +kernel
theorem dX0_meetAll_37 : decode cX0_meetAll 37 = .ok (.aload_n 0, 1) := by decide +kernel
theorem dX0_meetAll_38 : decode cX0_meetAll 38 = .ok (.iload_n 1, 1) := by decide +kernel
theorem dX0_meetAll_39 : decode cX0_meetAll 39 = .ok (.iload_n 2, 1) := by decide +kernel
theorem dX0_meetAll_40 : decode cX0_meetAll 40 = .ok (.invokevirtual 85, 3) := by decide +kernel
theorem dX0_meetAll_43 : decode cX0_meetAll 43 = .ok (.iinc 2 1, 3) := by decide +kernel
theorem dX0_meetAll_46 : decode cX0_meetAll 46 = .ok (.goto (-32), 3) := by decide +kernel
theorem dX0_meetAll_49 : decode cX0_meetAll 49 = .ok (.iinc 1 1, 3) := by decide +kernel
theorem dX0_meetAll_52 : decode cX0_meetAll 52 = .ok (.goto (-50), 3) := by decide +kernel
theorem dX0_meetAll_55 : decode cX0_meetAll 55 = .ok (.return_, 1) := by decide +kernel
theorem dX0_meetTwo_0 : decode cX0_meetTwo 0 = .ok (.aload_n 0, 1) := by decide +kernel
theorem dX0_meetTwo_1 : decode cX0_meetTwo 1 = .ok (.getfield 21, 3) := by decide +kernel
theorem dX0_meetTwo_4 : decode cX0_meetTwo 4 = .ok (.iload_n 2, 1) := by decide +kernel
theorem dX0_meetTwo_5 : decode cX0_meetTwo 5 = .ok (.iaload, 1) := by decide +kernel
theorem dX0_meetTwo_6 : decode cX0_meetTwo 6 = .ok (.invokestatic 45, 3) := by decide +kernel
theorem dX0_meetTwo_9 : decode cX0_meetTwo 9 = .ok (.aload_n 0, 1) := by decide +kernel
theorem dX0_meetTwo_10 : decode cX0_meetTwo 10 = .ok (.getfield 21, 3) := by decide +kernel
theorem dX0_meetTwo_13 : decode cX0_meetTwo 13 = .ok (.iload_n 1, 1) := by decide +kernel
theorem dX0_meetTwo_14 : decode cX0_meetTwo 14 = .ok (.iaload, 1) := by decide +kernel
theorem dX0_meetTwo_15 : decode cX0_meetTwo 15 = .ok (.invokestatic 45, 3) := by decide +kernel
theorem dX0_meetTwo_18 : decode cX0_meetTwo 18 = .ok (.if_icmp .gt 4, 3) := by decide +kernel
theorem dX0_meetTwo_21 : decode cX0_meetTwo 21 = .ok (.return_, 1) := by decide +kernel
theorem dX0_meetTwo_22 : decode cX0_meetTwo 22 = .ok (.aload_n 0, 1) := by decide +kernel
theorem dX0_meetTwo_23 : decode cX0_meetTwo 23 = .ok (.getfield 21, 3) := by decide +kernel
theorem dX0_meetTwo_26 : decode cX0_meetTwo 26 = .ok (.iload_n 2, 1) := by decide +kernel
theorem dX0_meetTwo_27 : decode cX0_meetTwo 27 = .ok (.iaload, 1) := by decide +kernel
theorem dX0_meetTwo_28 : decode cX0_meetTwo 28 = .ok (.aload_n 0, 1) := by decide +kernel
theorem dX0_meetTwo_29 : decode cX0_meetTwo 29 = .ok (.getfield 21, 3) := by decide +kernel
theorem dX0_meetTwo_32 : decode cX0_meetTwo 32 = .ok (.iload_n 1, 1) := by decide +kernel
theorem dX0_meetTwo_33 : decode cX0_meetTwo 33 = .ok (.iaload, 1) := by decide +kernel
theorem dX0_meetTwo_34 : decode cX0_meetTwo 34 = .ok (.iconst (-1), 1) := by decide +kernel
theorem dX0_meetTwo_35 : decode cX0_meetTwo 35 = .ok (.ixor, 1) := by decide +kernel
theorem dX0_meetTwo_36 : decode cX0_meetTwo 36 = .ok (.iand, 1) := by decide +kernel
theorem dX0_meetTwo_37 : decode cX0_meetTwo 37 = .ok (.istore_n 3, 1) := by decide +kernel
theorem dX0_meetTwo_38 : decode cX0_meetTwo 38 = .ok (.aload_n 0, 1) := by decide +kernel
theorem dX0_meetTwo_39 : decode cX0_meetTwo 39 = .ok (.iload_n 2, 1) := by decide +kernel
theorem dX0_meetTwo_40 : decode cX0_meetTwo 40 = .ok (.iload_n 1, 1) := by decide +kernel
theorem dX0_meetTwo_41 : decode cX0_meetTwo 41 = .ok (.iload_n 3, 1) := by decide +kernel
theorem dX0_meetTwo_42 : decode cX0_meetTwo 42 = .ok (.iload_n 3, 1) := by decide +kernel
theorem dX0_meetTwo_43 : decode cX0_meetTwo 43 = .ok (.ineg, 1) := by decide +kernel
theorem dX0_meetTwo_44 : decode cX0_meetTwo 44 = .ok (.iand, 1) := by decide +kernel
theorem dX0_meetTwo_45 : decode cX0_meetTwo 45 = .ok (.invokevirtual 89, 3) := by decide +kernel
theorem dX0_meetTwo_48 : decode cX0_meetTwo 48 = .ok (.return_, 1) := by decide +kernel
theorem dX0_handsOver_0 : decode cX0_handsOver 0 = .ok (.aload_n 0, 1) := by decide +kernel
theorem dX0_handsOver_1 : decode cX0_handsOver 1 = .ok (.getfield 21, 3) := by decide +kernel
theorem dX0_handsOver_4 : decode cX0_handsOver 4 = .ok (.iload_n 1, 1) := by decide +kernel
theorem dX0_handsOver_5 : decode cX0_handsOver 5 = .ok (.dup2, 1) := by decide +kernel
theorem dX0_handsOver_6 : decode cX0_handsOver 6 = .ok (.iaload, 1) := by decide +kernel
theorem dX0_handsOver_7 : decode cX0_handsOver 7 = .ok (.iload_n 3, 1) := by decide +kernel
theorem dX0_handsOver_8 : decode cX0_handsOver 8 = .ok (.iconst (-1), 1) := by decide +kernel
theorem dX0_handsOver_9 : decode cX0_handsOver 9 = .ok (.ixor, 1) := by decide +kernel
theorem dX0_handsOver_10 : decode cX0_handsOver 10 = .ok (.iand, 1) := by decide +kernel
theorem dX0_handsOver_11 : decode cX0_handsOver 11 = .ok (.iastore, 1) := by decide +kernel
theorem dX0_handsOver_12 : decode cX0_handsOver 12 = .ok (.aload_n 0, 1) := by decide +kernel
theorem dX0_handsOver_13 : decode cX0_handsOver 13 = .ok (.getfield 21, 3) := by decide +kernel
theorem dX0_handsOver_16 : decode cX0_handsOver 16 = .ok (.iload_n 2, 1) := by decide +kernel
theorem dX0_handsOver_17 : decode cX0_handsOver 17 = .ok (.dup2, 1) := by decide +kernel
theorem dX0_handsOver_18 : decode cX0_handsOver 18 = .ok (.iaload, 1) := by decide +kernel
theorem dX0_handsOver_19 : decode cX0_handsOver 19 = .ok (.iload_n 3, 1) := by decide +kernel
theorem dX0_handsOver_20 : decode cX0_handsOver 20 = .ok (.ior, 1) := by decide +kernel
theorem dX0_handsOver_21 : decode cX0_handsOver 21 = .ok (.iastore, 1) := by decide +kernel
theorem dX0_handsOver_22 : decode cX0_handsOver 22 = .ok (.return_, 1) := by decide +kernel
theorem dX0_hoursTill_0 : decode cX0_hoursTill 0 = .ok (.iconst 0, 1) := by decide +kernel
theorem dX0_hoursTill_1 : decode cX0_hoursTill 1 = .ok (.istore 4, 2) := by decide +kernel
theorem dX0_hoursTill_3 : decode cX0_hoursTill 3 = .ok (.iload 4, 2) := by decide +kernel
theorem dX0_hoursTill_5 : decode cX0_hoursTill 5 = .ok (.iload_n 3, 1) := by decide +kernel
theorem dX0_hoursTill_6 : decode cX0_hoursTill 6 = .ok (.if_icmp .gt 27, 3) := by decide +kernel
theorem dX0_hoursTill_9 : decode cX0_hoursTill 9 = .ok (.aload_n 0, 1) := by decide +kernel
theorem dX0_hoursTill_10 : decode cX0_hoursTill 10 = .ok (.getfield 18, 3) := by decide +kernel
theorem dX0_hoursTill_13 : decode cX0_hoursTill 13 = .ok (.iload_n 1, 1) := by decide +kernel
theorem dX0_hoursTill_14 : decode cX0_hoursTill 14 = .ok (.iaload, 1) := by decide +kernel
theorem dX0_hoursTill_15 : decode cX0_hoursTill 15 = .ok (.iload_n 2, 1) := by decide +kernel
theorem dX0_hoursTill_16 : decode cX0_hoursTill 16 = .ok (.if_icmp .ne 6, 3) := by decide +kernel
theorem dX0_hoursTill_19 : decode cX0_hoursTill 19 = .ok (.iload 4, 2) := by decide +kernel
theorem dX0_hoursTill_21 : decode cX0_hoursTill 21 = .ok (.ireturn, 1) := by decide +kernel
theorem dX0_hoursTill_22 : decode cX0_hoursTill 22 = .ok (.aload_n 0, 1) := by decide +kernel
theorem dX0_hoursTill_23 : decode cX0_hoursTill 23 = .ok (.iload_n 1, 1) := by decide +kernel
theorem dX0_hoursTill_24 : decode cX0_hoursTill 24 = .ok (.invokevirtual 93, 3) := by decide +kernel
theorem dX0_hoursTill_27 : decode cX0_hoursTill 27 = .ok (.iinc 4 1, 3) := by decide +kernel
theorem dX0_hoursTill_30 : decode cX0_hoursTill 30 = .ok (.goto (-27), 3) := by decide +kernel
theorem dX0_hoursTill_33 : decode cX0_hoursTill 33 = .ok (.iconst (-1), 1) := by decide +kernel
theorem dX0_hoursTill_34 : decode cX0_hoursTill 34 = .ok (.ireturn, 1) := by decide +kernel
theorem dX0_hoursTillTogether_0 : decode cX0_hoursTillTogether 0 = .ok (.iconst 0, 1) := by decide +kernel
theorem dX0_hoursTillTogether_1 : decode cX0_hoursTillTogether 1 = .ok (.istore 4, 2) := by decide +kernel
theorem dX0_hoursTillTogether_3 : decode cX0_hoursTillTogether 3 = .ok (.iload 4, 2) := by decide +kernel
theorem dX0_hoursTillTogether_5 : decode cX0_hoursTillTogether 5 = .ok (.iload_n 3, 1) := by decide +kernel
theorem dX0_hoursTillTogether_6 : decode cX0_hoursTillTogether 6 = .ok (.if_icmp .gt 31, 3) := by decide +kernel
theorem dX0_hoursTillTogether_9 : decode cX0_hoursTillTogether 9 = .ok (.aload_n 0, 1) := by decide +kernel
theorem dX0_hoursTillTogether_10 : decode cX0_hoursTillTogether 10 = .ok (.getfield 18, 3) := by decide +kernel
theorem dX0_hoursTillTogether_13 : decode cX0_hoursTillTogether 13 = .ok (.iload_n 1, 1) := by decide +kernel
theorem dX0_hoursTillTogether_14 : decode cX0_hoursTillTogether 14 = .ok (.iaload, 1) := by decide +kernel
theorem dX0_hoursTillTogether_15 : decode cX0_hoursTillTogether 15 = .ok (.aload_n 0, 1) := by decide +kernel
theorem dX0_hoursTillTogether_16 : decode cX0_hoursTillTogether 16 = .ok (.getfield 18, 3) := by decide +kernel
theorem dX0_hoursTillTogether_19 : decode cX0_hoursTillTogether 19 = .ok (.iload_n 2, 1) := by decide +kernel
theorem dX0_hoursTillTogether_20 : decode cX0_hoursTillTogether 20 = .ok (.iaload, 1) := by decide +kernel
theorem dX0_hoursTillTogether_21 : decode cX0_hoursTillTogether 21 = .ok (.if_icmp .ne 6, 3) := by decide +kernel
theorem dX0_hoursTillTogether_24 : decode cX0_hoursTillTogether 24 = .ok (.iload 4, 2) := by decide +kernel
theorem dX0_hoursTillTogether_26 : decode cX0_hoursTillTogether 26 = .ok (.ireturn, 1) := by decide +kernel
theorem dX0_hoursTillTogether_27 : decode cX0_hoursTillTogether 27 = .ok (.aload_n 0, 1) := by decide +kernel
theorem dX0_hoursTillTogether_28 : decode cX0_hoursTillTogether 28 = .ok (.invokevirtual 62, 3) := by decide +kernel
theorem dX0_hoursTillTogether_31 : decode cX0_hoursTillTogether 31 = .ok (.iinc 4 1, 3) := by decide +kernel
theorem dX0_hoursTillTogether_34 : decode cX0_hoursTillTogether 34 = .ok (.goto (-31), 3) := by decide +kernel
theorem dX0_hoursTillTogether_37 : decode cX0_hoursTillTogether 37 = .ok (.iconst (-1), 1) := by decide +kernel
theorem dX0_hoursTillTogether_38 : decode cX0_hoursTillTogether 38 = .ok (.ireturn, 1) := by decide +kernel
theorem dX0_goesAsIn_0 : decode cX0_goesAsIn 0 = .ok (.iconst 0, 1) := by decide +kernel
theorem dX0_goesAsIn_1 : decode cX0_goesAsIn 1 = .ok (.istore_n 3, 1) := by decide +kernel
theorem dX0_goesAsIn_2 : decode cX0_goesAsIn 2 = .ok (.iload_n 3, 1) := by decide +kernel
theorem dX0_goesAsIn_3 : decode cX0_goesAsIn 3 = .ok (.aload_n 1, 1) := by decide +kernel
theorem dX0_goesAsIn_4 : decode cX0_goesAsIn 4 = .ok (.getfield 96, 3) := by decide +kernel
theorem dX0_goesAsIn_7 : decode cX0_goesAsIn 7 = .ok (.if_icmp .ge 33, 3) := by decide +kernel
theorem dX0_goesAsIn_10 : decode cX0_goesAsIn 10 = .ok (.aload_n 1, 1) := by decide +kernel
theorem dX0_goesAsIn_11 : decode cX0_goesAsIn 11 = .ok (.getfield 101, 3) := by decide +kernel
theorem dX0_goesAsIn_14 : decode cX0_goesAsIn 14 = .ok (.iload_n 3, 1) := by decide +kernel
theorem dX0_goesAsIn_15 : decode cX0_goesAsIn 15 = .ok (.laload, 1) := by decide +kernel
theorem dX0_goesAsIn_16 : decode cX0_goesAsIn 16 = .ok (.aload_n 0, 1) := by decide +kernel
theorem dX0_goesAsIn_17 : decode cX0_goesAsIn 17 = .ok (.getfield 18, 3) := by decide +kernel
theorem dX0_goesAsIn_20 : decode cX0_goesAsIn 20 = .ok (.iload_n 2, 1) := by decide +kernel
theorem dX0_goesAsIn_21 : decode cX0_goesAsIn 21 = .ok (.iaload, 1) := by decide +kernel
theorem dX0_goesAsIn_22 : decode cX0_goesAsIn 22 = .ok (.i2l, 1) := by decide +kernel
theorem dX0_goesAsIn_23 : decode cX0_goesAsIn 23 = .ok (.lcmp, 1) := by decide +kernel
theorem dX0_goesAsIn_24 : decode cX0_goesAsIn 24 = .ok (.ifCond .eq 5, 3) := by decide +kernel
theorem dX0_goesAsIn_27 : decode cX0_goesAsIn 27 = .ok (.iconst 0, 1) := by decide +kernel
theorem dX0_goesAsIn_28 : decode cX0_goesAsIn 28 = .ok (.ireturn, 1) := by decide +kernel
theorem dX0_goesAsIn_29 : decode cX0_goesAsIn 29 = .ok (.aload_n 0, 1) := by decide +kernel
theorem dX0_goesAsIn_30 : decode cX0_goesAsIn 30 = .ok (.iload_n 2, 1) := by decide +kernel
theorem dX0_goesAsIn_31 : decode cX0_goesAsIn 31 = .ok (.invokevirtual 93, 3) := by decide +kernel
theorem dX0_goesAsIn_34 : decode cX0_goesAsIn 34 = .ok (.iinc 3 1, 3) := by decide +kernel
theorem dX0_goesAsIn_37 : decode cX0_goesAsIn 37 = .ok (.goto (-35), 3) := by decide +kernel
theorem dX0_goesAsIn_40 : decode cX0_goesAsIn 40 = .ok (.iconst 1, 1) := by decide +kernel
theorem dX0_goesAsIn_41 : decode cX0_goesAsIn 41 = .ok (.ireturn, 1) := by decide +kernel
