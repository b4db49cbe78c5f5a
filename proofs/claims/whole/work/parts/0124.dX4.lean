theorem dX4_init_0 : decode cX4_init 0 = .ok (.aload_n 0, 1) := by decide +kernel
theorem dX4_init_1 : decode cX4_init 1 = .ok (.invokespecial 3, 3) := by decide +kernel
theorem dX4_init_4 : decode cX4_init 4 = .ok (.aload_n 0, 1) := by decide +kernel
theorem dX4_init_5 : decode cX4_init 5 = .ok (.new 9, 3) := by decide +kernel
theorem dX4_init_8 : decode cX4_init 8 = .ok (.dup, 1) := by decide +kernel
theorem dX4_init_9 : decode cX4_init 9 = .ok (.invokespecial 11, 3) := by decide +kernel
theorem dX4_init_12 : decode cX4_init 12 = .ok (.putfield 12, 3) := by decide +kernel
theorem dX4_init_15 : decode cX4_init 15 = .ok (.aload_n 0, 1) := by decide +kernel
theorem dX4_init_16 : decode cX4_init 16 = .ok (.new 9, 3) := by decide +kernel
theorem dX4_init_19 : decode cX4_init 19 = .ok (.dup, 1) := by decide +kernel
theorem dX4_init_20 : decode cX4_init 20 = .ok (.invokespecial 11, 3) := by decide +kernel
theorem dX4_init_23 : decode cX4_init 23 = .ok (.putfield 16, 3) := by decide +kernel
theorem dX4_init_26 : decode cX4_init 26 = .ok (.aload_n 0, 1) := by decide +kernel
theorem dX4_init_27 : decode cX4_init 27 = .ok (.new 9, 3) := by decide +kernel
theorem dX4_init_30 : decode cX4_init 30 = .ok (.dup, 1) := by decide +kernel
theorem dX4_init_31 : decode cX4_init 31 = .ok (.invokespecial 11, 3) := by decide +kernel
theorem dX4_init_34 : decode cX4_init 34 = .ok (.putfield 19, 3) := by decide +kernel
theorem dX4_init_37 : decode cX4_init 37 = .ok (.aload_n 0, 1) := by decide +kernel
theorem dX4_init_38 : decode cX4_init 38 = .ok (.new 22, 3) := by decide +kernel
theorem dX4_init_41 : decode cX4_init 41 = .ok (.dup, 1) := by decide +kernel
theorem dX4_init_42 : decode cX4_init 42 = .ok (.invokespecial 24, 3) := by decide +kernel
theorem dX4_init_45 : decode cX4_init 45 = .ok (.putfield 25, 3) := by decide +kernel
theorem dX4_init_48 : decode cX4_init 48 = .ok (.aload_n 0, 1) := by decide +kernel
theorem dX4_init_49 : decode cX4_init 49 = .ok (.new 29, 3) := by decide +kernel
theorem dX4_init_52 : decode cX4_init 52 = .ok (.dup, 1) := by decide +kernel
theorem dX4_init_53 : decode cX4_init 53 = .ok (.invokespecial 31, 3) := by decide +kernel
theorem dX4_init_56 : decode cX4_init 56 = .ok (.putfield 32, 3) := by decide +kernel
theorem dX4_init_59 : decode cX4_init 59 = .ok (.aload_n 0, 1) := by decide +kernel
theorem dX4_init_60 : decode cX4_init 60 = .ok (.iconst 4, 1) := by decide +kernel
theorem dX4_init_61 : decode cX4_init 61 = .ok (.anewarray 36, 3) := by decide +kernel
theorem dX4_init_64 : decode cX4_init 64 = .ok (.putfield 38, 3) := by decide +kernel
theorem dX4_init_67 : decode cX4_init 67 = .ok (.iconst 0, 1) := by decide +kernel
theorem dX4_init_68 : decode cX4_init 68 = .ok (.istore_n 1, 1) := by decide +kernel
theorem dX4_init_69 : decode cX4_init 69 = .ok (.iload_n 1, 1) := by decide +kernel
theorem dX4_init_70 : decode cX4_init 70 = .ok (.iconst 4, 1) := by decide +kernel
theorem dX4_init_71 : decode cX4_init 71 = .ok (.if_icmp .ge 22, 3) := by decide +kernel
theorem dX4_init_74 : decode cX4_init 74 = .ok (.aload_n 0, 1) := by decide +kernel
theorem dX4_init_75 : decode cX4_init 75 = .ok (.getfield 38, 3) := by decide +kernel
theorem dX4_init_78 : decode cX4_init 78 = .ok (.iload_n 1, 1) := by decide +kernel
theorem dX4_init_79 : decode cX4_init 79 = .ok (.new 36, 3) := by decide +kernel
theorem dX4_init_82 : decode cX4_init 82 = .ok (.dup, 1) := by decide +kernel
theorem dX4_init_83 : decode cX4_init 83 = .ok (.invokespecial 42, 3) := by decide +kernel
theorem dX4_init_86 : decode cX4_init 86 = .ok (.aastore, 1) := by decide +kernel
theorem dX4_init_87 : decode cX4_init 87 = .ok (.iinc 1 1, 3) := by decide +kernel
theorem dX4_init_90 : decode cX4_init 90 = .ok (.goto (-21), 3) := by decide +kernel
theorem dX4_init_93 : decode cX4_init 93 = .ok (.aload_n 0, 1) := by decide +kernel
theorem dX4_init_94 : decode cX4_init 94 = .ok (.bipush 7, 2) := by decide +kernel
theorem dX4_init_96 : decode cX4_init 96 = .ok (.newarray .int, 2) := by decide +kernel
theorem dX4_init_98 : decode cX4_init 98 = .ok (.putfield 43, 3) := by decide +kernel
theorem dX4_init_101 : decode cX4_init 101 = .ok (.aload_n 0, 1) := by decide +kernel
theorem dX4_init_102 : decode cX4_init 102 = .ok (.iconst 0, 1) := by decide +kernel
theorem dX4_init_103 : decode cX4_init 103 = .ok (.putfield 47, 3) := by decide +kernel
theorem dX4_init_106 : decode cX4_init 106 = .ok (.return_, 1) := by decide +kernel
theorem dX4_fence_0 : decode cX4_fence 0 = .ok (.iload_n 1, 1) := by decide +kernel
theorem dX4_fence_1 : decode cX4_fence 1 = .ok (.invokestatic 51, 3) := by decide +kernel
theorem dX4_fence_4 : decode cX4_fence 4 = .ok (.ifCond .eq 10, 3) := by decide +kernel
theorem dX4_fence_7 : decode cX4_fence 7 = .ok (.iload_n 2, 1) := by decide +kernel
theorem dX4_fence_8 : decode cX4_fence 8 = .ok (.invokestatic 55, 3) := by decide +kernel
theorem dX4_fence_11 : decode cX4_fence 11 = .ok (.ifCond .ne 9, 3) := by decide +kernel
theorem dX4_fence_14 : decode cX4_fence 14 = .ok (.aload_n 0, 1) := by decide +kernel
theorem dX4_fence_15 : decode cX4_fence 15 = .ok (.iconst 0, 1) := by decide +kernel
theorem dX4_fence_16 : decode cX4_fence 16 = .ok (.invokevirtual 58, 3) := by decide +kernel
theorem dX4_fence_19 : decode cX4_fence 19 = .ok (.ireturn, 1) := by decide +kernel
theorem dX4_fence_20 : decode cX4_fence 20 = .ok (.aload_n 0, 1) := by decide +kernel
theorem dX4_fence_21 : decode cX4_fence 21 = .ok (.getfield 12, 3) := by decide +kernel
theorem dX4_fence_24 : decode cX4_fence 24 = .ok (.iload_n 1, 1) := by decide +kernel
theorem dX4_fence_25 : decode cX4_fence 25 = .ok (.invokevirtual 62, 3) := by decide +kernel
theorem dX4_fence_28 : decode cX4_fence 28 = .ok (.ifCond .eq 7, 3) := by decide +kernel
theorem dX4_fence_31 : decode cX4_fence 31 = .ok (.iconst 1, 1) := by decide +kernel
theorem dX4_fence_32 : decode cX4_fence 32 = .ok (.goto 4, 3) := by decide +kernel
theorem dX4_fence_35 : decode cX4_fence 35 = .ok (.iconst 0, 1) := by decide +kernel
theorem dX4_fence_36 : decode cX4_fence 36 = .ok (.istore_n 3, 1) := by decide +kernel
theorem dX4_fence_37 : decode cX4_fence 37 = .ok (.aload_n 0, 1) := by decide +kernel
theorem dX4_fence_38 : decode cX4_fence 38 = .ok (.getfield 12, 3) := by decide +kernel
theorem dX4_fence_41 : decode cX4_fence 41 = .ok (.iload_n 1, 1) := by decide +kernel
theorem dX4_fence_42 : decode cX4_fence 42 = .ok (.iload_n 2, 1) := by decide +kernel
theorem dX4_fence_43 : decode cX4_fence 43 = .ok (.iconst 1, 1) := by decide +kernel
theorem dX4_fence_44 : decode cX4_fence 44 = .ok (.if_icmp .ne 7, 3) := by decide +kernel
theorem dX4_fence_47 : decode cX4_fence 47 = .ok (.iconst 1, 1) := by decide +kernel
theorem dX4_fence_48 : decode cX4_fence 48 = .ok (.goto 4, 3) := by decide +kernel
theorem dX4_fence_51 : decode cX4_fence 51 = .ok (.iconst 0, 1) := by decide +kernel
theorem dX4_fence_52 : decode cX4_fence 52 = .ok (.invokevirtual 65, 3) := by decide +kernel
theorem dX4_fence_55 : decode cX4_fence 55 = .ok (.iload_n 3, 1) := by decide +kernel
theorem dX4_fence_56 : decode cX4_fence 56 = .ok (.ireturn, 1) := by decide +kernel
theorem dX4_spot_0 : decode cX4_spot 0 = .ok (.iload_n 1, 1) := by decide +kernel
theorem dX4_spot_1 : decode cX4_spot 1 = .ok (.iconst 3, 1) := by decide +kernel
theorem dX4_spot_2 : decode cX4_spot 2 = .ok (.invokestatic 69, 3) := by decide +kernel
theorem dX4_spot_5 : decode cX4_spot 5 = .ok (.ifCond .eq 10, 3) := by decide +kernel
theorem dX4_spot_8 : decode cX4_spot 8 = .ok (.iload_n 2, 1) := by decide +kernel
theorem dX4_spot_9 : decode cX4_spot 9 = .ok (.invokestatic 51, 3) := by decide +kernel
theorem dX4_spot_12 : decode cX4_spot 12 = .ok (.ifCond .ne 9, 3) := by decide +kernel
theorem dX4_spot_15 : decode cX4_spot 15 = .ok (.aload_n 0, 1) := by decide +kernel
theorem dX4_spot_16 : decode cX4_spot 16 = .ok (.iconst 0, 1) := by decide +kernel
theorem dX4_spot_17 : decode cX4_spot 17 = .ok (.invokevirtual 58, 3) := by decide +kernel
theorem dX4_spot_20 : decode cX4_spot 20 = .ok (.ireturn, 1) := by decide +kernel
theorem dX4_spot_21 : decode cX4_spot 21 = .ok (.aload_n 0, 1) := by decide +kernel
theorem dX4_spot_22 : decode cX4_spot 22 = .ok (.getfield 12, 3) := by decide +kernel
theorem dX4_spot_25 : decode cX4_spot 25 = .ok (.getfield 73, 3) := by decide +kernel
theorem dX4_spot_28 : decode cX4_spot 28 = .ok (.iload_n 1, 1) := by decide +kernel
theorem dX4_spot_29 : decode cX4_spot 29 = .ok (.iaload, 1) := by decide +kernel
theorem dX4_spot_30 : decode cX4_spot 30 = .ok (.istore_n 3, 1) := by decide +kernel
theorem dX4_spot_31 : decode cX4_spot 31 = .ok (.aload_n 0, 1) := by decide +kernel
theorem dX4_spot_32 : decode cX4_spot 32 = .ok (.getfield 12, 3) := by decide +kernel
theorem dX4_spot_35 : decode cX4_spot 35 = .ok (.getfield 73, 3) := by decide +kernel
theorem dX4_spot_38 : decode cX4_spot 38 = .ok (.iload_n 1, 1) := by decide +kernel
theorem dX4_spot_39 : decode cX4_spot 39 = .ok (.iload_n 2, 1) := by decide +kernel
theorem dX4_spot_40 : decode cX4_spot 40 = .ok (.iastore, 1) := by decide +kernel
theorem dX4_spot_41 : decode cX4_spot 41 = .ok (.iload_n 3, 1) := by decide +kernel
theorem dX4_spot_42 : decode cX4_spot 42 = .ok (.ireturn, 1) := by decide +kernel
theorem dX4_rain_0 : decode cX4_rain 0 = .ok (.iload_n 1, 1) := by decide +kernel
theorem dX4_rain_1 : decode cX4_rain 1 = .ok (.ldc 76, 2) := by decide +kernel
theorem dX4_rain_3 : decode cX4_rain 3 = .ok (.invokestatic 77, 3) := by decide +kernel
theorem dX4_rain_6 : decode cX4_rain 6 = .ok (.ifCond .ne 9, 3) := by decide +kernel
theorem dX4_rain_9 : decode cX4_rain 9 = .ok (.aload_n 0, 1) := by decide +kernel
theorem dX4_rain_10 : decode cX4_rain 10 = .ok (.iconst 0, 1) := by decide +kernel
theorem dX4_rain_11 : decode cX4_rain 11 = .ok (.invokevirtual 58, 3) := by decide +kernel
theorem dX4_rain_14 : decode cX4_rain 14 = .ok (.ireturn, 1) := by decide +kernel
theorem dX4_rain_15 : decode cX4_rain 15 = .ok (.aload_n 0, 1) := by decide +kernel
theorem dX4_rain_16 : decode cX4_rain 16 = .ok (.getfield 12, 3) := by decide +kernel
theorem dX4_rain_19 : decode cX4_rain 19 = .ok (.getfield 80, 3) := by decide +kernel
theorem dX4_rain_22 : decode cX4_rain 22 = .ok (.istore_n 2, 1) := by decide +kernel
theorem dX4_rain_23 : decode cX4_rain 23 = .ok (.aload_n 0, 1) := by decide +kernel
theorem dX4_rain_24 : decode cX4_rain 24 = .ok (.getfield 12, 3) := by decide +kernel
theorem dX4_rain_27 : decode cX4_rain 27 = .ok (.iload_n 1, 1) := by decide +kernel
theorem dX4_rain_28 : decode cX4_rain 28 = .ok (.putfield 80, 3) := by decide +kernel
theorem dX4_rain_31 : decode cX4_rain 31 = .ok (.iload_n 2, 1) := by decide +kernel
theorem dX4_rain_32 : decode cX4_rain 32 = .ok (.ireturn, 1) := by decide +kernel
theorem dX4_cell_0 : decode cX4_cell 0 = .ok (.iload_n 1, 1) := by decide +kernel
theorem dX4_cell_1 : decode cX4_cell 1 = .ok (.invokestatic 51, 3) := by decide +kernel
theorem dX4_cell_4 : decode cX4_cell 4 = .ok (.ifCond .ne 9, 3) := by decide +kernel
theorem dX4_cell_7 : decode cX4_cell 7 = .ok (.aload_n 0, 1) := by decide +kernel
theorem dX4_cell_8 : decode cX4_cell 8 = .ok (.iconst 0, 1) := by decide +kernel
theorem dX4_cell_9 : decode cX4_cell 9 = .ok (.invokevirtual 58, 3) := by decide +kernel
theorem dX4_cell_12 : decode cX4_cell 12 = .ok (.ireturn, 1) := by decide +kernel
theorem dX4_cell_13 : decode cX4_cell 13 = .ok (.iload_n 2, 1) := by decide +kernel
theorem dX4_cell_14 : decode cX4_cell 14 = .ok (.tableswitch 63 0 2 #[26, 43, 52], 26) := by decide +kernel
theorem dX4_cell_40 : decode cX4_cell 40 = .ok (.aload_n 0, 1) := by decide +kernel
theorem dX4_cell_41 : decode cX4_cell 41 = .ok (.getfield 12, 3) := by decide +kernel
theorem dX4_cell_44 : decode cX4_cell 44 = .ok (.iload_n 1, 1) := by decide +kernel
theorem dX4_cell_45 : decode cX4_cell 45 = .ok (.invokevirtual 62, 3) := by decide +kernel
theorem dX4_cell_48 : decode cX4_cell 48 = .ok (.ifCond .eq 7, 3) := by decide +kernel
theorem dX4_cell_51 : decode cX4_cell 51 = .ok (.iconst 1, 1) := by decide +kernel
theorem dX4_cell_52 : decode cX4_cell 52 = .ok (.goto 4, 3) := by decide +kernel
theorem dX4_cell_55 : decode cX4_cell 55 = .ok (.iconst 0, 1) := by decide +kernel
theorem dX4_cell_56 : decode cX4_cell 56 = .ok (.ireturn, 1) := by decide +kernel
theorem dX4_cell_57 : decode cX4_cell 57 = .ok (.aload_n 0, 1) := by decide +kernel
theorem dX4_cell_58 : decode cX4_cell 58 = .ok (.getfield 12, 3) := by decide +kernel
theorem dX4_cell_61 : decode cX4_cell 61 = .ok (.iload_n 1, 1) := by decide +kernel
theorem dX4_cell_62 : decode cX4_cell 62 = .ok (.invokevirtual 84, 3) := by decide +kernel
theorem dX4_cell_65 : decode cX4_cell 65 = .ok (.ireturn, 1) := by decide +kernel
theorem dX4_cell_66 : decode cX4_cell 66 = .ok (.aload_n 0, 1) := by decide +kernel
theorem dX4_cell_67 : decode cX4_cell 67 = .ok (.getfield 12, 3) := by decide +kernel
theorem dX4_cell_70 : decode cX4_cell 70 = .ok (.iconst 1, 1) := by decide +kernel
theorem dX4_cell_71 : decode cX4_cell 71 = .ok (.iload_n 1, 1) := by decide +kernel
theorem dX4_cell_72 : decode cX4_cell 72 = .ok (.ishl, 1) := by decide +kernel
theorem dX4_cell_73 : decode cX4_cell 73 = .ok (.invokevirtual 87, 3) := by decide +kernel
theorem dX4_cell_76 : decode cX4_cell 76 = .ok (.ireturn, 1) := by decide +kernel
theorem dX4_cell_77 : decode cX4_cell 77 = .ok (.aload_n 0, 1) := by decide +kernel
theorem dX4_cell_78 : decode cX4_cell 78 = .ok (.iconst 0, 1) := by decide +kernel
theorem dX4_cell_79 : decode cX4_cell 79 = .ok (.invokevirtual 58, 3) := by decide +kernel
theorem dX4_cell_82 : decode cX4_cell 82 = .ok (.ireturn, 1) := by decide +kernel
theorem dX4_tortoise_0 : decode cX4_tortoise 0 = .ok (.iload_n 1, 1) := by decide +kernel
theorem dX4_tortoise_1 : decode cX4_tortoise 1 = .ok (.invokestatic 90, 3) := by decide +kernel
theorem dX4_tortoise_4 : decode cX4_tortoise 4 = .ok (.ifCond .eq 20, 3) := by decide +kernel
theorem dX4_tortoise_7 : decode cX4_tortoise 7 = .ok (.iload_n 2, 1) := by decide +kernel
theorem dX4_tortoise_8 : decode cX4_tortoise 8 = .ok (.invokestatic 51, 3) := by decide +kernel
theorem dX4_tortoise_11 : decode cX4_tortoise 11 = .ok (.ifCond .eq 13, 3) := by decide +kernel
theorem dX4_tortoise_14 : decode cX4_tortoise 14 = .ok (.iload_n 3, 1) := by decide +kernel
theorem dX4_tortoise_15 : decode cX4_tortoise 15 = .ok (.sipush 4095, 3) := by decide +kernel
theorem dX4_tortoise_18 : decode cX4_tortoise 18 = .ok (.invokestatic 77, 3) := by decide +kernel
theorem dX4_tortoise_21 : decode cX4_tortoise 21 = .ok (.ifCond .ne 9, 3) := by decide +kernel
theorem dX4_tortoise_24 : decode cX4_tortoise 24 = .ok (.aload_n 0, 1) := by decide +kernel
theorem dX4_tortoise_25 : decode cX4_tortoise 25 = .ok (.iconst 0, 1) := by decide +kernel
theorem dX4_tortoise_26 : decode cX4_tortoise 26 = .ok (.invokevirtual 58, 3) := by decide +kernel
theorem dX4_tortoise_29 : decode cX4_tortoise 29 = .ok (.ireturn, 1) := by decide +kernel
theorem dX4_tortoise_30 : decode cX4_tortoise 30 = .ok (.aload_n 0, 1) := by decide +kernel
theorem dX4_tortoise_31 : decode cX4_tortoise 31 = .ok (.getfield 12, 3) := by decide +kernel
theorem dX4_tortoise_34 : decode cX4_tortoise 34 = .ok (.invokevirtual 93, 3) := by decide +kernel
theorem dX4_tortoise_37 : decode cX4_tortoise 37 = .ok (.ifCond .eq 9, 3) := by decide +kernel
theorem dX4_tortoise_40 : decode cX4_tortoise 40 = .ok (.aload_n 0, 1) := by decide +kernel
theorem dX4_tortoise_41 : decode cX4_tortoise 41 = .ok (.iconst 1, 1) := by decide +kernel
theorem dX4_tortoise_42 : decode cX4_tortoise 42 = .ok (.invokevirtual 58, 3) := by decide +kernel
theorem dX4_tortoise_45 : decode cX4_tortoise 45 = .ok (.ireturn, 1) := by decide +kernel
theorem dX4_tortoise_46 : decode cX4_tortoise 46 = .ok (.aload_n 0, 1) := by decide +kernel
theorem dX4_tortoise_47 : decode cX4_tortoise 47 = .ok (.getfield 12, 3) := by decide +kernel
theorem dX4_tortoise_50 : decode cX4_tortoise 50 = .ok (.iload_n 1, 1) := by decide +kernel
theorem dX4_tortoise_51 : decode cX4_tortoise 51 = .ok (.iload_n 2, 1) := by decide +kernel
theorem dX4_tortoise_52 : decode cX4_tortoise 52 = .ok (.iload_n 3, 1) := by decide +kernel
theorem dX4_tortoise_53 : decode cX4_tortoise 53 = .ok (.invokevirtual 97, 3) := by decide +kernel
theorem dX4_tortoise_56 : decode cX4_tortoise 56 = .ok (.ireturn, 1) := by decide +kernel
theorem dX4_of_0 : decode cX4_of 0 = .ok (.aload_n 0, 1) := by decide +kernel
theorem dX4_of_1 : decode cX4_of 1 = .ok (.getfield 12, 3) := by decide +kernel
theorem dX4_of_4 : decode cX4_of 4 = .ok (.iload_n 1, 1) := by decide +kernel
theorem dX4_of_5 : decode cX4_of 5 = .ok (.invokevirtual 101, 3) := by decide +kernel
theorem dX4_of_8 : decode cX4_of 8 = .ok (.ifCond .ne 9, 3) := by decide +kernel
theorem dX4_of_11 : decode cX4_of 11 = .ok (.aload_n 0, 1) := by decide +kernel
theorem dX4_of_12 : decode cX4_of 12 = .ok (.iconst 0, 1) := by decide +kernel
theorem dX4_of_13 : decode cX4_of 13 = .ok (.invokevirtual 58, 3) := by decide +kernel
theorem dX4_of_16 : decode cX4_of 16 = .ok (.ireturn, 1) := by decide +kernel
theorem dX4_of_17 : decode cX4_of 17 = .ok (.iload_n 2, 1) := by decide +kernel
theorem dX4_of_18 : decode cX4_of 18 = .ok (.tableswitch 104 0 5 #[38, 48, 58, 68, 86, 95], 38) := by decide +kernel
theorem dX4_of_56 : decode cX4_of 56 = .ok (.aload_n 0, 1) := by decide +kernel
theorem dX4_of_57 : decode cX4_of 57 = .ok (.getfield 12, 3) := by decide +kernel
theorem dX4_of_60 : decode cX4_of 60 = .ok (.getfield 104, 3) := by decide +kernel
theorem dX4_of_63 : decode cX4_of 63 = .ok (.iload_n 1, 1) := by decide +kernel
theorem dX4_of_64 : decode cX4_of 64 = .ok (.iaload, 1) := by decide +kernel
theorem dX4_of_65 : decode cX4_of 65 = .ok (.ireturn, 1) := by decide +kernel
theorem dX4_of_66 : decode cX4_of 66 = .ok (.aload_n 0, 1) := by decide +kernel
theorem dX4_of_67 : decode cX4_of 67 = .ok (.getfield 12, 3) := by decide +kernel
theorem dX4_of_70 : decode cX4_of 70 = .ok (.getfield 107, 3) := by decide +kernel
theorem dX4_of_73 : decode cX4_of 73 = .ok (.iload_n 1, 1) := by decide +kernel
theorem dX4_of_74 : decode cX4_of 74 = .ok (.iaload, 1) := by decide +kernel
theorem dX4_of_75 : decode cX4_of 75 = .ok (.ireturn, 1) := by decide +kernel
theorem dX4_of_76 : decode cX4_of 76 = .ok (.aload_n 0, 1) := by decide +kernel
theorem dX4_of_77 : decode cX4_of 77 = .ok (.getfield 12, 3) := by decide +kernel
theorem dX4_of_80 : decode cX4_of 80 = .ok (.getfield 110, 3) := by decide +kernel
theorem dX4_of_83 : decode cX4_of 83 = .ok (.iload_n 1, 1) := by decide +kernel
theorem dX4_of_84 : decode cX4_of 84 = .ok (.iaload, 1) := by decide +kernel
theorem dX4_of_85 : decode cX4_of 85 = .ok (.ireturn, 1) := by decide +kernel
theorem dX4_of_86 : decode cX4_of 86 = .ok (.aload_n 0, 1) := by decide +kernel
theorem dX4_of_87 : decode cX4_of 87 = .ok (.getfield 12, 3) := by decide +kernel
theorem dX4_of_90 : decode cX4_of 90 = .ok (.getfield 113, 3) := by decide +kernel
theorem dX4_of_93 : decode cX4_of 93 = .ok (.iload_n 1, 1) := by decide +kernel
theorem dX4_of_94 : decode cX4_of 94 = .ok (.baload, 1) := by decide +kernel
theorem dX4_of_95 : decode cX4_of 95 = .ok (.ifCond .eq 7, 3) := by decide +kernel
theorem dX4_of_98 : decode cX4_of 98 = .ok (.iconst 1, 1) := by decide +kernel
theorem dX4_of_99 : decode cX4_of 99 = .ok (.goto 4, 3) := by decide +kernel
theorem dX4_of_102 : decode cX4_of 102 = .ok (.iconst 0, 1) := by decide +kernel
theorem dX4_of_103 : decode cX4_of 103 = .ok (.ireturn, 1) := by decide +kernel
theorem dX4_of_104 : decode cX4_of 104 = .ok (.aload_n 0, 1) := by decide +kernel
theorem dX4_of_105 : decode cX4_of 105 = .ok (.getfield 12, 3) := by decide +kernel
theorem dX4_of_108 : decode cX4_of 108 = .ok (.iload_n 1, 1) := by decide +kernel
theorem dX4_of_109 : decode cX4_of 109 = .ok (.invokevirtual 117, 3) := by decide +kernel
theorem dX4_of_112 : decode cX4_of 112 = .ok (.ireturn, 1) := by decide +kernel
theorem dX4_of_113 : decode cX4_of 113 = .ok (.aload_n 0, 1) := by decide +kernel
theorem dX4_of_114 : decode cX4_of 114 = .ok (.getfield 12, 3) := by decide +kernel
theorem dX4_of_117 : decode cX4_of 117 = .ok (.iload_n 1, 1) := by decide +kernel
theorem dX4_of_118 : decode cX4_of 118 = .ok (.invokevirtual 120, 3) := by decide +kernel
theorem dX4_of_121 : decode cX4_of 121 = .ok (.ireturn, 1) := by decide +kernel
theorem dX4_of_122 : decode cX4_of 122 = .ok (.aload_n 0, 1) := by decide +kernel
theorem dX4_of_123 : decode cX4_of 123 = .ok (.iconst 0, 1) := by decide +kernel
theorem dX4_of_124 : decode cX4_of 124 = .ok (.invokevirtual 58, 3) := by decide +kernel
theorem dX4_of_127 : decode cX4_of 127 = .ok (.ireturn, 1) := by decide +kernel
theorem dX4_set_0 : decode cX4_set 0 = .ok (.aload_n 0, 1) := by decide +kernel
theorem dX4_set_1 : decode cX4_set 1 = .ok (.getfield 12, 3) := by decide +kernel
theorem dX4_set_4 : decode cX4_set 4 = .ok (.iload_n 1, 1) := by decide +kernel
theorem dX4_set_5 : decode cX4_set 5 = .ok (.invokevirtual 101, 3) := by decide +kernel
theorem dX4_set_8 : decode cX4_set 8 = .ok (.ifCond .ne 9, 3) := by decide +kernel
theorem dX4_set_11 : decode cX4_set 11 = .ok (.aload_n 0, 1) := by decide +kernel
theorem dX4_set_12 : decode cX4_set 12 = .ok (.iconst 0, 1) := by decide +kernel
theorem dX4_set_13 : decode cX4_set 13 = .ok (.invokevirtual 58, 3) := by decide +kernel
theorem dX4_set_16 : decode cX4_set 16 = .ok (.ireturn, 1) := by decide +kernel
theorem dX4_set_17 : decode cX4_set 17 = .ok (.iload_n 2, 1) := by decide +kernel
theorem dX4_set_18 : decode cX4_set 18 = .ok (.iconst 1, 1) := by decide +kernel
theorem dX4_set_19 : decode cX4_set 19 = .ok (.if_icmp .ne 34, 3) := by decide +kernel
theorem dX4_set_22 : decode cX4_set 22 = .ok (.iload_n 3, 1) := by decide +kernel
theorem dX4_set_23 : decode cX4_set 23 = .ok (.invokestatic 51, 3) := by decide +kernel
theorem dX4_set_26 : decode cX4_set 26 = .ok (.ifCond .eq 27, 3) := by decide +kernel
theorem dX4_set_29 : decode cX4_set 29 = .ok (.aload_n 0, 1) := by decide +kernel
theorem dX4_set_30 : decode cX4_set 30 = .ok (.getfield 12, 3) := by decide +kernel
theorem dX4_set_33 : decode cX4_set 33 = .ok (.getfield 107, 3) := by decide +kernel
theorem dX4_set_36 : decode cX4_set 36 = .ok (.iload_n 1, 1) := by decide +kernel
theorem dX4_set_37 : decode cX4_set 37 = .ok (.iaload, 1) := by decide +kernel
theorem dX4_set_38 : decode cX4_set 38 = .ok (.istore 4, 2) := by decide +kernel
theorem dX4_set_40 : decode cX4_set 40 = .ok (.aload_n 0, 1) := by decide +kernel
theorem dX4_set_41 : decode cX4_set 41 = .ok (.getfield 12, 3) := by decide +kernel
theorem dX4_set_44 : decode cX4_set 44 = .ok (.getfield 107, 3) := by decide +kernel
theorem dX4_set_47 : decode cX4_set 47 = .ok (.iload_n 1, 1) := by decide +kernel
theorem dX4_set_48 : decode cX4_set 48 = .ok (.iload_n 3, 1) := by decide +kernel
theorem dX4_set_49 : decode cX4_set 49 = .ok (.iastore, 1) := by decide +kernel
theorem dX4_set_50 : decode cX4_set 50 = .ok (.iload 4, 2) := by decide +kernel
theorem dX4_set_52 : decode cX4_set 52 = .ok (.ireturn, 1) := by decide +kernel
theorem dX4_set_53 : decode cX4_set 53 = .ok (.iload_n 2, 1) := by decide +kernel
theorem dX4_set_54 : decode cX4_set 54 = .ok (.iconst 2, 1) := by decide +kernel
theorem dX4_set_55 : decode cX4_set 55 = .ok (.if_icmp .ne 37, 3) := by decide +kernel
theorem dX4_set_58 : decode cX4_set 58 = .ok (.iload_n 3, 1) := by decide +kernel
theorem dX4_set_59 : decode cX4_set 59 = .ok (.sipush 4095, 3) := by decide +kernel
theorem dX4_set_62 : decode cX4_set 62 = .ok (.invokestatic 77, 3) := by decide +kernel
theorem dX4_set_65 : decode cX4_set 65 = .ok (.ifCond .eq 27, 3) := by decide +kernel
theorem dX4_set_68 : decode cX4_set 68 = .ok (.aload_n 0, 1) := by decide +kernel
theorem dX4_set_69 : decode cX4_set 69 = .ok (.getfield 12, 3) := by decide +kernel
theorem dX4_set_72 : decode cX4_set 72 = .ok (.getfield 110, 3) := by decide +kernel
theorem dX4_set_75 : decode cX4_set 75 = .ok (.iload_n 1, 1) := by decide +kernel
theorem dX4_set_76 : decode cX4_set 76 = .ok (.iaload, 1) := by decide +kernel
theorem dX4_set_77 : decode cX4_set 77 = .ok (.istore 4, 2) := by decide +kernel
theorem dX4_set_79 : decode cX4_set 79 = .ok (.aload_n 0, 1) := by decide +kernel
theorem dX4_set_80 : decode cX4_set 80 = .ok (.getfield 12, 3) := by decide +kernel
theorem dX4_set_83 : decode cX4_set 83 = .ok (.getfield 110, 3) := by decide +kernel
theorem dX4_set_86 : decode cX4_set 86 = .ok (.iload_n 1, 1) := by decide +kernel
theorem dX4_set_87 : decode cX4_set 87 = .ok (.iload_n 3, 1) := by decide +kernel
theorem dX4_set_88 : decode cX4_set 88 = .ok (.iastore, 1) := by decide +kernel
theorem dX4_set_89 : decode cX4_set 89 = .ok (.iload 4, 2) := by decide +kernel
theorem dX4_set_91 : decode cX4_set 91 = .ok (.ireturn, 1) := by decide +kernel
theorem dX4_set_92 : decode cX4_set 92 = .ok (.iload_n 2, 1) := by decide +kernel
theorem dX4_set_93 : decode cX4_set 93 = .ok (.iconst 3, 1) := by decide +kernel
theorem dX4_set_94 : decode cX4_set 94 = .ok (.if_icmp .ne 51, 3) := by decide +kernel
theorem dX4_set_97 : decode cX4_set 97 = .ok (.iload_n 3, 1) := by decide +kernel
theorem dX4_set_98 : decode cX4_set 98 = .ok (.invokestatic 55, 3) := by decide +kernel
theorem dX4_set_101 : decode cX4_set 101 = .ok (.ifCond .eq 44, 3) := by decide +kernel
theorem dX4_set_104 : decode cX4_set 104 = .ok (.aload_n 0, 1) := by decide +kernel
theorem dX4_set_105 : decode cX4_set 105 = .ok (.getfield 12, 3) := by decide +kernel
theorem dX4_set_108 : decode cX4_set 108 = .ok (.getfield 113, 3) := by decide +kernel
theorem dX4_set_111 : decode cX4_set 111 = .ok (.iload_n 1, 1) := by decide +kernel
theorem dX4_set_112 : decode cX4_set 112 = .ok (.baload, 1) := by decide +kernel
theorem dX4_set_113 : decode cX4_set 113 = .ok (.ifCond .eq 7, 3) := by decide +kernel
theorem dX4_set_116 : decode cX4_set 116 = .ok (.iconst 1, 1) := by decide +kernel
theorem dX4_set_117 : decode cX4_set 117 = .ok (.goto 4, 3) := by decide +kernel
theorem dX4_set_120 : decode cX4_set 120 = .ok (.iconst 0, 1) := by decide +kernel
theorem dX4_set_121 : decode cX4_set 121 = .ok (.istore 4, 2) := by decide +kernel
theorem dX4_set_123 : decode cX4_set 123 = .ok (.aload_n 0, 1) := by decide +kernel
theorem dX4_set_124 : decode cX4_set 124 = .ok (.getfield 12, 3) := by decide +kernel
theorem dX4_set_127 : decode cX4_set 127 = .ok (.getfield 113, 3) := by decide +kernel
theorem dX4_set_130 : decode cX4_set 130 = .ok (.iload_n 1, 1) := by decide +kernel
theorem dX4_set_131 : decode cX4_set 131 = .ok (.iload_n 3, 1) := by decide +kernel
theorem dX4_set_132 : decode cX4_set 132 = .ok (.iconst 1, 1) := by decide +kernel
theorem dX4_set_133 : decode cX4_set 133 = .ok (.if_icmp .ne 7, 3) := by decide +kernel
theorem dX4_set_136 : decode cX4_set 136 = .ok (.iconst 1, 1) := by decide +kernel
theorem dX4_set_137 : decode cX4_set 137 = .ok (.goto 4, 3) := by decide +kernel
theorem dX4_set_140 : decode cX4_set 140 = .ok (.iconst 0, 1) := by decide +kernel
theorem dX4_set_141 : decode cX4_set 141 = .ok (.bastore, 1) := by decide +kernel
theorem dX4_set_142 : decode cX4_set 142 = .ok (.iload 4, 2) := by decide +kernel
theorem dX4_set_144 : decode cX4_set 144 = .ok (.ireturn, 1) := by decide +kernel
theorem dX4_set_145 : decode cX4_set 145 = .ok (.aload_n 0, 1) := by decide +kernel
theorem dX4_set_146 : decode cX4_set 146 = .ok (.iconst 0, 1) := by decide +kernel
theorem dX4_set_147 : decode cX4_set 147 = .ok (.invokevirtual 58, 3) := by decide +kernel
theorem dX4_set_150 : decode cX4_set 150 = .ok (.ireturn, 1) := by decide +kernel
theorem dX4_turn_0 : decode cX4_turn 0 = .ok (.aload_n 0, 1) := by decide +kernel
theorem dX4_turn_1 : decode cX4_turn 1 = .ok (.getfield 12, 3) := by decide +kernel
theorem dX4_turn_4 : decode cX4_turn 4 = .ok (.iload_n 1, 1) := by decide +kernel
theorem dX4_turn_5 : decode cX4_turn 5 = .ok (.invokevirtual 101, 3) := by decide +kernel
theorem dX4_turn_8 : decode cX4_turn 8 = .ok (.ifCond .eq 10, 3) := by decide +kernel
theorem dX4_turn_11 : decode cX4_turn 11 = .ok (.iload_n 2, 1) := by decide +kernel
theorem dX4_turn_12 : decode cX4_turn 12 = .ok (.invokestatic 90, 3) := by decide +kernel
theorem dX4_turn_15 : decode cX4_turn 15 = .ok (.ifCond .ne 9, 3) := by decide +kernel
theorem dX4_turn_18 : decode cX4_turn 18 = .ok (.aload_n 0, 1) := by decide +kernel
theorem dX4_turn_19 : decode cX4_turn 19 = .ok (.iconst 0, 1) := by decide +kernel
theorem dX4_turn_20 : decode cX4_turn 20 = .ok (.invokevirtual 58, 3) := by decide +kernel
theorem dX4_turn_23 : decode cX4_turn 23 = .ok (.ireturn, 1) := by decide +kernel
theorem dX4_turn_24 : decode cX4_turn 24 = .ok (.aload_n 0, 1) := by decide +kernel
theorem dX4_turn_25 : decode cX4_turn 25 = .ok (.getfield 12, 3) := by decide +kernel
theorem dX4_turn_28 : decode cX4_turn 28 = .ok (.getfield 104, 3) := by decide +kernel
theorem dX4_turn_31 : decode cX4_turn 31 = .ok (.iload_n 1, 1) := by decide +kernel
theorem dX4_turn_32 : decode cX4_turn 32 = .ok (.iaload, 1) := by decide +kernel
theorem dX4_turn_33 : decode cX4_turn 33 = .ok (.istore_n 3, 1) := by decide +kernel
theorem dX4_turn_34 : decode cX4_turn 34 = .ok (.aload_n 0, 1) := by decide +kernel
theorem dX4_turn_35 : decode cX4_turn 35 = .ok (.getfield 12, 3) := by decide +kernel
theorem dX4_turn_38 : decode cX4_turn 38 = .ok (.getfield 104, 3) := by decide +kernel
theorem dX4_turn_41 : decode cX4_turn 41 = .ok (.iload_n 1, 1) := by decide +kernel
theorem dX4_turn_42 : decode cX4_turn 42 = .ok (.iload_n 2, 1) := by decide +kernel
theorem dX4_turn_43 : decode cX4_turn 43 = .ok (.iastore, 1) := by decide +kernel
theorem dX4_turn_44 : decode cX4_turn 44 = .ok (.iload_n 3, 1) := by decide +kernel
theorem dX4_turn_45 : decode cX4_turn 45 = .ok (.ireturn, 1) := by decide +kernel
theorem dX4_as_0 : decode cX4_as 0 = .ok (.aload_n 0, 1) := by decide +kernel
theorem dX4_as_1 : decode cX4_as 1 = .ok (.getfield 12, 3) := by decide +kernel
theorem dX4_as_4 : decode cX4_as 4 = .ok (.iload_n 1, 1) := by decide +kernel
theorem dX4_as_5 : decode cX4_as 5 = .ok (.invokevirtual 101, 3) := by decide +kernel
theorem dX4_as_8 : decode cX4_as 8 = .ok (.ifCond .eq 10, 3) := by decide +kernel
theorem dX4_as_11 : decode cX4_as 11 = .ok (.iload_n 2, 1) := by decide +kernel
theorem dX4_as_12 : decode cX4_as 12 = .ok (.invokestatic 90, 3) := by decide +kernel
theorem dX4_as_15 : decode cX4_as 15 = .ok (.ifCond .ne 9, 3) := by decide +kernel
theorem dX4_as_18 : decode cX4_as 18 = .ok (.aload_n 0, 1) := by decide +kernel
theorem dX4_as_19 : decode cX4_as 19 = .ok (.iconst 0, 1) := by decide +kernel
theorem dX4_as_20 : decode cX4_as 20 = .ok (.invokevirtual 58, 3) := by decide +kernel
theorem dX4_as_23 : decode cX4_as 23 = .ok (.ireturn, 1) := by decide +kernel
theorem dX4_as_24 : decode cX4_as 24 = .ok (.aload_n 0, 1) := by decide +kernel
theorem dX4_as_25 : decode cX4_as 25 = .ok (.getfield 12, 3) := by decide +kernel
theorem dX4_as_28 : decode cX4_as 28 = .ok (.getfield 104, 3) := by decide +kernel
theorem dX4_as_31 : decode cX4_as 31 = .ok (.iload_n 1, 1) := by decide +kernel
theorem dX4_as_32 : decode cX4_as 32 = .ok (.iaload, 1) := by decide +kernel
theorem dX4_as_33 : decode cX4_as 33 = .ok (.iload_n 2, 1) := by decide +kernel
theorem dX4_as_34 : decode cX4_as 34 = .ok (.invokestatic 123, 3) := by decide +kernel
theorem dX4_as_37 : decode cX4_as 37 = .ok (.ifCond .ne 9, 3) := by decide +kernel
theorem dX4_as_40 : decode cX4_as 40 = .ok (.aload_n 0, 1) := by decide +kernel
theorem dX4_as_41 : decode cX4_as 41 = .ok (.iconst 2, 1) := by decide +kernel
theorem dX4_as_42 : decode cX4_as 42 = .ok (.invokevirtual 58, 3) := by decide +kernel
theorem dX4_as_45 : decode cX4_as 45 = .ok (.ireturn, 1) := by decide +kernel
theorem dX4_as_46 : decode cX4_as 46 = .ok (.aload_n 0, 1) := by decide +kernel
theorem dX4_as_47 : decode cX4_as 47 = .ok (.getfield 12, 3) := by decide +kernel
theorem dX4_as_50 : decode cX4_as 50 = .ok (.getfield 110, 3) := by decide +kernel
theorem dX4_as_53 : decode cX4_as 53 = .ok (.iload_n 1, 1) := by decide +kernel
theorem dX4_as_54 : decode cX4_as 54 = .ok (.iaload, 1) := by decide +kernel
theorem dX4_as_55 : decode cX4_as 55 = .ok (.ireturn, 1) := by decide +kernel
theorem dX4_lend_0 : decode cX4_lend 0 = .ok (.aload_n 0, 1) := by decide +kernel
theorem dX4_lend_1 : decode cX4_lend 1 = .ok (.iload_n 1, 1) := by decide +kernel
theorem dX4_lend_2 : decode cX4_lend 2 = .ok (.iload_n 2, 1) := by decide +kernel
theorem dX4_lend_3 : decode cX4_lend 3 = .ok (.invokevirtual 126, 3) := by decide +kernel
theorem dX4_lend_6 : decode cX4_lend 6 = .ok (.ifCond .eq 10, 3) := by decide +kernel
theorem dX4_lend_9 : decode cX4_lend 9 = .ok (.iload_n 3, 1) := by decide +kernel
theorem dX4_lend_10 : decode cX4_lend 10 = .ok (.invokestatic 129, 3) := by decide +kernel
theorem dX4_lend_13 : decode cX4_lend 13 = .ok (.ifCond .ne 9, 3) := by decide +kernel
theorem dX4_lend_16 : decode cX4_lend 16 = .ok (.aload_n 0, 1) := by decide +kernel
theorem dX4_lend_17 : decode cX4_lend 17 = .ok (.iconst 0, 1) := by decide +kernel
theorem dX4_lend_18 : decode cX4_lend 18 = .ok (.invokevirtual 58, 3) := by decide +kernel
theorem dX4_lend_21 : decode cX4_lend 21 = .ok (.ireturn, 1) := by decide +kernel
theorem dX4_lend_22 : decode cX4_lend 22 = .ok (.aload_n 0, 1) := by decide +kernel
theorem dX4_lend_23 : decode cX4_lend 23 = .ok (.getfield 12, 3) := by decide +kernel
theorem dX4_lend_26 : decode cX4_lend 26 = .ok (.getfield 107, 3) := by decide +kernel
theorem dX4_lend_29 : decode cX4_lend 29 = .ok (.iload_n 1, 1) := by decide +kernel
theorem dX4_lend_30 : decode cX4_lend 30 = .ok (.iaload, 1) := by decide +kernel
theorem dX4_lend_31 : decode cX4_lend 31 = .ok (.aload_n 0, 1) := by decide +kernel
theorem dX4_lend_32 : decode cX4_lend 32 = .ok (.getfield 12, 3) := by decide +kernel
theorem dX4_lend_35 : decode cX4_lend 35 = .ok (.getfield 107, 3) := by decide +kernel
theorem dX4_lend_38 : decode cX4_lend 38 = .ok (.iload_n 2, 1) := by decide +kernel
theorem dX4_lend_39 : decode cX4_lend 39 = .ok (.iaload, 1) := by decide +kernel
theorem dX4_lend_40 : decode cX4_lend 40 = .ok (.if_icmp .eq 9, 3) := by decide +kernel
theorem dX4_lend_43 : decode cX4_lend 43 = .ok (.aload_n 0, 1) := by decide +kernel
theorem dX4_lend_44 : decode cX4_lend 44 = .ok (.iconst 4, 1) := by decide +kernel
theorem dX4_lend_45 : decode cX4_lend 45 = .ok (.invokevirtual 58, 3) := by decide +kernel
theorem dX4_lend_48 : decode cX4_lend 48 = .ok (.ireturn, 1) := by decide +kernel
theorem dX4_lend_49 : decode cX4_lend 49 = .ok (.iconst 1, 1) := by decide +kernel
theorem dX4_lend_50 : decode cX4_lend 50 = .ok (.iload_n 3, 1) := by decide +kernel
theorem dX4_lend_51 : decode cX4_lend 51 = .ok (.ishl, 1) := by decide +kernel
theorem dX4_lend_52 : decode cX4_lend 52 = .ok (.istore 4, 2) := by decide +kernel
theorem dX4_lend_54 : decode cX4_lend 54 = .ok (.aload_n 0, 1) := by decide +kernel
theorem dX4_lend_55 : decode cX4_lend 55 = .ok (.getfield 12, 3) := by decide +kernel
theorem dX4_lend_58 : decode cX4_lend 58 = .ok (.getfield 110, 3) := by decide +kernel
theorem dX4_lend_61 : decode cX4_lend 61 = .ok (.iload_n 1, 1) := by decide +kernel
theorem dX4_lend_62 : decode cX4_lend 62 = .ok (.iaload, 1) := by decide +kernel
theorem dX4_lend_63 : decode cX4_lend 63 = .ok (.iload 4, 2) := by decide +kernel
theorem dX4_lend_65 : decode cX4_lend 65 = .ok (.iand, 1) := by decide +kernel
theorem dX4_lend_66 : decode cX4_lend 66 = .ok (.ifCond .eq 18, 3) := by decide +kernel
theorem dX4_lend_69 : decode cX4_lend 69 = .ok (.aload_n 0, 1) := by decide +kernel
theorem dX4_lend_70 : decode cX4_lend 70 = .ok (.getfield 12, 3) := by decide +kernel
theorem dX4_lend_73 : decode cX4_lend 73 = .ok (.getfield 110, 3) := by decide +kernel
theorem dX4_lend_76 : decode cX4_lend 76 = .ok (.iload_n 2, 1) := by decide +kernel
theorem dX4_lend_77 : decode cX4_lend 77 = .ok (.iaload, 1) := by decide +kernel
theorem dX4_lend_78 : decode cX4_lend 78 = .ok (.iload 4, 2) := by decide +kernel
theorem dX4_lend_80 : decode cX4_lend 80 = .ok (.iand, 1) := by decide +kernel
theorem dX4_lend_81 : decode cX4_lend 81 = .ok (.ifCond .eq 9, 3) := by decide +kernel
theorem dX4_lend_84 : decode cX4_lend 84 = .ok (.aload_n 0, 1) := by decide +kernel
theorem dX4_lend_85 : decode cX4_lend 85 = .ok (.iconst 3, 1) := by decide +kernel
theorem dX4_lend_86 : decode cX4_lend 86 = .ok (.invokevirtual 58, 3) := by decide +kernel
theorem dX4_lend_89 : decode cX4_lend 89 = .ok (.ireturn, 1) := by decide +kernel
theorem dX4_lend_90 : decode cX4_lend 90 = .ok (.aload_n 0, 1) := by decide +kernel
theorem dX4_lend_91 : decode cX4_lend 91 = .ok (.getfield 12, 3) := by decide +kernel
theorem dX4_lend_94 : decode cX4_lend 94 = .ok (.iload_n 1, 1) := by decide +kernel
theorem dX4_lend_95 : decode cX4_lend 95 = .ok (.iload_n 2, 1) := by decide +kernel
theorem dX4_lend_96 : decode cX4_lend 96 = .ok (.iload 4, 2) := by decide +kernel
theorem dX4_lend_98 : decode cX4_lend 98 = .ok (.invokevirtual 132, 3) := by decide +kernel
theorem dX4_lend_101 : decode cX4_lend 101 = .ok (.iconst 1, 1) := by decide +kernel
theorem dX4_lend_102 : decode cX4_lend 102 = .ok (.ireturn, 1) := by decide +kernel
theorem dX4_hours_0 : decode cX4_hours 0 = .ok (.iload_n 1, 1) := by decide +kernel
theorem dX4_hours_1 : decode cX4_hours 1 = .ok (.iconst 1, 1) := by decide +kernel
theorem dX4_hours_2 : decode cX4_hours 2 = .ok (.if_icmp .lt 9, 3) := by decide +kernel
theorem dX4_hours_5 : decode cX4_hours 5 = .ok (.iload_n 1, 1) := by decide +kernel
theorem dX4_hours_6 : decode cX4_hours 6 = .ok (.bipush 72, 2) := by decide +kernel
theorem dX4_hours_8 : decode cX4_hours 8 = .ok (.if_icmp .le 9, 3) := by decide +kernel
theorem dX4_hours_11 : decode cX4_hours 11 = .ok (.aload_n 0, 1) := by decide +kernel
theorem dX4_hours_12 : decode cX4_hours 12 = .ok (.iconst 0, 1) := by decide +kernel
theorem dX4_hours_13 : decode cX4_hours 13 = .ok (.invokevirtual 58, 3) := by decide +kernel
theorem dX4_hours_16 : decode cX4_hours 16 = .ok (.ireturn, 1) := by decide +kernel
theorem dX4_hours_17 : decode cX4_hours 17 = .ok (.aload_n 0, 1) := by decide +kernel
theorem dX4_hours_18 : decode cX4_hours 18 = .ok (.getfield 12, 3) := by decide +kernel
theorem dX4_hours_21 : decode cX4_hours 21 = .ok (.getfield 136, 3) := by decide +kernel
theorem dX4_hours_24 : decode cX4_hours 24 = .ok (.iload_n 1, 1) := by decide +kernel
theorem dX4_hours_25 : decode cX4_hours 25 = .ok (.iadd, 1) := by decide +kernel
theorem dX4_hours_26 : decode cX4_hours 26 = .ok (.sipush 9999, 3) := by decide +kernel
theorem dX4_hours_29 : decode cX4_hours 29 = .ok (.if_icmp .le 9, 3) := by decide +kernel
theorem dX4_hours_32 : decode cX4_hours 32 = .ok (.aload_n 0, 1) := by decide +kernel
theorem dX4_hours_33 : decode cX4_hours 33 = .ok (.iconst 4, 1) := by decide +kernel
theorem dX4_hours_34 : decode cX4_hours 34 = .ok (.invokevirtual 58, 3) := by decide +kernel
theorem dX4_hours_37 : decode cX4_hours 37 = .ok (.ireturn, 1) := by decide +kernel
theorem dX4_hours_38 : decode cX4_hours 38 = .ok (.aload_n 0, 1) := by decide +kernel
theorem dX4_hours_39 : decode cX4_hours 39 = .ok (.getfield 12, 3) := by decide +kernel
theorem dX4_hours_42 : decode cX4_hours 42 = .ok (.iload_n 1, 1) := by decide +kernel
theorem dX4_hours_43 : decode cX4_hours 43 = .ok (.invokevirtual 139, 3) := by decide +kernel
theorem dX4_hours_46 : decode cX4_hours 46 = .ok (.aload_n 0, 1) := by decide +kernel
theorem dX4_hours_47 : decode cX4_hours 47 = .ok (.getfield 12, 3) := by decide +kernel
theorem dX4_hours_50 : decode cX4_hours 50 = .ok (.invokevirtual 143, 3) := by decide +kernel
theorem dX4_hours_53 : decode cX4_hours 53 = .ok (.ireturn, 1) := by decide +kernel
theorem dX4_now_0 : decode cX4_now 0 = .ok (.iload_n 1, 1) := by decide +kernel
theorem dX4_now_1 : decode cX4_now 1 = .ok (.tableswitch 111 0 5 #[39, 47, 55, 78, 86, 96], 39) := by decide +kernel
theorem dX4_now_40 : decode cX4_now 40 = .ok (.aload_n 0, 1) := by decide +kernel
theorem dX4_now_41 : decode cX4_now 41 = .ok (.getfield 12, 3) := by decide +kernel
theorem dX4_now_44 : decode cX4_now 44 = .ok (.getfield 136, 3) := by decide +kernel
theorem dX4_now_47 : decode cX4_now 47 = .ok (.ireturn, 1) := by decide +kernel
theorem dX4_now_48 : decode cX4_now 48 = .ok (.aload_n 0, 1) := by decide +kernel
theorem dX4_now_49 : decode cX4_now 49 = .ok (.getfield 12, 3) := by decide +kernel
theorem dX4_now_52 : decode cX4_now 52 = .ok (.invokevirtual 147, 3) := by decide +kernel
theorem dX4_now_55 : decode cX4_now 55 = .ok (.ireturn, 1) := by decide +kernel
theorem dX4_now_56 : decode cX4_now 56 = .ok (.aload_n 0, 1) := by decide +kernel
theorem dX4_now_57 : decode cX4_now 57 = .ok (.getfield 12, 3) := by decide +kernel
theorem dX4_now_60 : decode cX4_now 60 = .ok (.aload_n 0, 1) := by decide +kernel
theorem dX4_now_61 : decode cX4_now 61 = .ok (.getfield 12, 3) := by decide +kernel
theorem dX4_now_64 : decode cX4_now 64 = .ok (.invokevirtual 147, 3) := by decide +kernel
theorem dX4_now_67 : decode cX4_now 67 = .ok (.invokevirtual 150, 3) := by decide +kernel
theorem dX4_now_70 : decode cX4_now 70 = .ok (.ifCond .eq 7, 3) := by decide +kernel
theorem dX4_now_73 : decode cX4_now 73 = .ok (.iconst 1, 1) := by decide +kernel
theorem dX4_now_74 : decode cX4_now 74 = .ok (.goto 4, 3) := by decide +kernel
theorem dX4_now_77 : decode cX4_now 77 = .ok (.iconst 0, 1) := by decide +kernel
theorem dX4_now_78 : decode cX4_now 78 = .ok (.ireturn, 1) := by decide +kernel
theorem dX4_now_79 : decode cX4_now 79 = .ok (.aload_n 0, 1) := by decide +kernel
theorem dX4_now_80 : decode cX4_now 80 = .ok (.getfield 12, 3) := by decide +kernel
theorem dX4_now_83 : decode cX4_now 83 = .ok (.invokevirtual 143, 3) := by decide +kernel
theorem dX4_now_86 : decode cX4_now 86 = .ok (.ireturn, 1) := by decide +kernel
theorem dX4_now_87 : decode cX4_now 87 = .ok (.aload_n 0, 1) := by decide +kernel
theorem dX4_now_88 : decode cX4_now 88 = .ok (.getfield 12, 3) := by decide +kernel
theorem dX4_now_91 : decode cX4_now 91 = .ok (.ldc 153, 2) := by decide +kernel
theorem dX4_now_93 : decode cX4_now 93 = .ok (.invokevirtual 87, 3) := by decide +kernel
theorem dX4_now_96 : decode cX4_now 96 = .ok (.ireturn, 1) := by decide +kernel
theorem dX4_now_97 : decode cX4_now 97 = .ok (.aload_n 0, 1) := by decide +kernel
theorem dX4_now_98 : decode cX4_now 98 = .ok (.getfield 12, 3) := by decide +kernel
theorem dX4_now_101 : decode cX4_now 101 = .ok (.aload_n 0, 1) := by decide +kernel
theorem dX4_now_102 : decode cX4_now 102 = .ok (.getfield 12, 3) := by decide +kernel
theorem dX4_now_105 : decode cX4_now 105 = .ok (.invokevirtual 154, 3) := by decide +kernel
theorem dX4_now_108 : decode cX4_now 108 = .ok (.invokevirtual 157, 3) := by decide +kernel
theorem dX4_now_111 : decode cX4_now 111 = .ok (.ireturn, 1) := by decide +kernel
theorem dX4_now_112 : decode cX4_now 112 = .ok (.aload_n 0, 1) := by decide +kernel
theorem dX4_now_113 : decode cX4_now 113 = .ok (.iconst 0, 1) := by decide +kernel
theorem dX4_now_114 : decode cX4_now 114 = .ok (.invokevirtual 58, 3) := by decide +kernel
theorem dX4_now_117 : decode cX4_now 117 = .ok (.ireturn, 1) := by decide +kernel
theorem dX4_on_0 : decode cX4_on 0 = .ok (.aload_n 0, 1) := by decide +kernel
theorem dX4_on_1 : decode cX4_on 1 = .ok (.getfield 12, 3) := by decide +kernel
theorem dX4_on_4 : decode cX4_on 4 = .ok (.iload_n 1, 1) := by decide +kernel
theorem dX4_on_5 : decode cX4_on 5 = .ok (.invokevirtual 101, 3) := by decide +kernel
theorem dX4_on_8 : decode cX4_on 8 = .ok (.ifCond .eq 17, 3) := by decide +kernel
theorem dX4_on_11 : decode cX4_on 11 = .ok (.iload_n 2, 1) := by decide +kernel
theorem dX4_on_12 : decode cX4_on 12 = .ok (.invokestatic 160, 3) := by decide +kernel
theorem dX4_on_15 : decode cX4_on 15 = .ok (.ifCond .eq 10, 3) := by decide +kernel
theorem dX4_on_18 : decode cX4_on 18 = .ok (.iload_n 3, 1) := by decide +kernel
theorem dX4_on_19 : decode cX4_on 19 = .ok (.invokestatic 55, 3) := by decide +kernel
theorem dX4_on_22 : decode cX4_on 22 = .ok (.ifCond .ne 9, 3) := by decide +kernel
theorem dX4_on_25 : decode cX4_on 25 = .ok (.aload_n 0, 1) := by decide +kernel
theorem dX4_on_26 : decode cX4_on 26 = .ok (.iconst 0, 1) := by decide +kernel
theorem dX4_on_27 : decode cX4_on 27 = .ok (.invokevirtual 58, 3) := by decide +kernel
theorem dX4_on_30 : decode cX4_on 30 = .ok (.ireturn, 1) := by decide +kernel
theorem dX4_on_31 : decode cX4_on 31 = .ok (.aload_n 0, 1) := by decide +kernel
theorem dX4_on_32 : decode cX4_on 32 = .ok (.getfield 16, 3) := by decide +kernel
theorem dX4_on_35 : decode cX4_on 35 = .ok (.aload_n 0, 1) := by decide +kernel
theorem dX4_on_36 : decode cX4_on 36 = .ok (.getfield 12, 3) := by decide +kernel
theorem dX4_on_39 : decode cX4_on 39 = .ok (.invokevirtual 163, 3) := by decide +kernel
theorem dX4_on_42 : decode cX4_on 42 = .ok (.aload_n 0, 1) := by decide +kernel
theorem dX4_on_43 : decode cX4_on 43 = .ok (.getfield 16, 3) := by decide +kernel
theorem dX4_on_46 : decode cX4_on 46 = .ok (.iload_n 2, 1) := by decide +kernel
theorem dX4_on_47 : decode cX4_on 47 = .ok (.invokevirtual 139, 3) := by decide +kernel
theorem dX4_on_50 : decode cX4_on 50 = .ok (.iload_n 3, 1) := by decide +kernel
theorem dX4_on_51 : decode cX4_on 51 = .ok (.ifCond .ne 15, 3) := by decide +kernel
theorem dX4_on_54 : decode cX4_on 54 = .ok (.aload_n 0, 1) := by decide +kernel
theorem dX4_on_55 : decode cX4_on 55 = .ok (.getfield 16, 3) := by decide +kernel
theorem dX4_on_58 : decode cX4_on 58 = .ok (.getfield 107, 3) := by decide +kernel
theorem dX4_on_61 : decode cX4_on 61 = .ok (.iload_n 1, 1) := by decide +kernel
theorem dX4_on_62 : decode cX4_on 62 = .ok (.iaload, 1) := by decide +kernel
theorem dX4_on_63 : decode cX4_on 63 = .ok (.goto 12, 3) := by decide +kernel
theorem dX4_on_66 : decode cX4_on 66 = .ok (.aload_n 0, 1) := by decide +kernel
theorem dX4_on_67 : decode cX4_on 67 = .ok (.getfield 16, 3) := by decide +kernel
theorem dX4_on_70 : decode cX4_on 70 = .ok (.getfield 110, 3) := by decide +kernel
theorem dX4_on_73 : decode cX4_on 73 = .ok (.iload_n 1, 1) := by decide +kernel
theorem dX4_on_74 : decode cX4_on 74 = .ok (.iaload, 1) := by decide +kernel
theorem dX4_on_75 : decode cX4_on 75 = .ok (.ireturn, 1) := by decide +kernel
theorem dX4_when_0 : decode cX4_when 0 = .ok (.aload_n 0, 1) := by decide +kernel
theorem dX4_when_1 : decode cX4_when 1 = .ok (.getfield 12, 3) := by decide +kernel
theorem dX4_when_4 : decode cX4_when 4 = .ok (.iload_n 1, 1) := by decide +kernel
theorem dX4_when_5 : decode cX4_when 5 = .ok (.invokevirtual 101, 3) := by decide +kernel
theorem dX4_when_8 : decode cX4_when 8 = .ok (.ifCond .eq 10, 3) := by decide +kernel
theorem dX4_when_11 : decode cX4_when 11 = .ok (.iload_n 2, 1) := by decide +kernel
theorem dX4_when_12 : decode cX4_when 12 = .ok (.invokestatic 51, 3) := by decide +kernel
theorem dX4_when_15 : decode cX4_when 15 = .ok (.ifCond .ne 9, 3) := by decide +kernel
theorem dX4_when_18 : decode cX4_when 18 = .ok (.aload_n 0, 1) := by decide +kernel
theorem dX4_when_19 : decode cX4_when 19 = .ok (.iconst 0, 1) := by decide +kernel
theorem dX4_when_20 : decode cX4_when 20 = .ok (.invokevirtual 58, 3) := by decide +kernel
theorem dX4_when_23 : decode cX4_when 23 = .ok (.ireturn, 1) := by decide +kernel
theorem dX4_when_24 : decode cX4_when 24 = .ok (.aload_n 0, 1) := by decide +kernel
theorem dX4_when_25 : decode cX4_when 25 = .ok (.getfield 16, 3) := by decide +kernel
theorem dX4_when_28 : decode cX4_when 28 = .ok (.aload_n 0, 1) := by decide +kernel
theorem dX4_when_29 : decode cX4_when 29 = .ok (.getfield 12, 3) := by decide +kernel
theorem dX4_when_32 : decode cX4_when 32 = .ok (.invokevirtual 163, 3) := by decide +kernel
theorem dX4_when_35 : decode cX4_when 35 = .ok (.aload_n 0, 1) := by decide +kernel
theorem dX4_when_36 : decode cX4_when 36 = .ok (.aload_n 0, 1) := by decide +kernel
theorem dX4_when_37 : decode cX4_when 37 = .ok (.getfield 16, 3) := by decide +kernel
theorem dX4_when_40 : decode cX4_when 40 = .ok (.iload_n 1, 1) := by decide +kernel
theorem dX4_when_41 : decode cX4_when 41 = .ok (.iload_n 2, 1) := by decide +kernel
theorem dX4_when_42 : decode cX4_when 42 = .ok (.bipush 72, 2) := by decide +kernel
theorem dX4_when_44 : decode cX4_when 44 = .ok (.invokevirtual 167, 3) := by decide +kernel
theorem dX4_when_47 : decode cX4_when 47 = .ok (.invokevirtual 170, 3) := by decide +kernel
theorem dX4_when_50 : decode cX4_when 50 = .ok (.ireturn, 1) := by decide +kernel
theorem dX4_meet_0 : decode cX4_meet 0 = .ok (.aload_n 0, 1) := by decide +kernel
theorem dX4_meet_1 : decode cX4_meet 1 = .ok (.iload_n 1, 1) := by decide +kernel
theorem dX4_meet_2 : decode cX4_meet 2 = .ok (.iload_n 2, 1) := by decide +kernel
theorem dX4_meet_3 : decode cX4_meet 3 = .ok (.invokevirtual 126, 3) := by decide +kernel
theorem dX4_meet_6 : decode cX4_meet 6 = .ok (.ifCond .ne 9, 3) := by decide +kernel
theorem dX4_meet_9 : decode cX4_meet 9 = .ok (.aload_n 0, 1) := by decide +kernel
theorem dX4_meet_10 : decode cX4_meet 10 = .ok (.iconst 0, 1) := by decide +kernel
theorem dX4_meet_11 : decode cX4_meet 11 = .ok (.invokevirtual 58, 3) := by decide +kernel
theorem dX4_meet_14 : decode cX4_meet 14 = .ok (.ireturn, 1) := by decide +kernel
theorem dX4_meet_15 : decode cX4_meet 15 = .ok (.aload_n 0, 1) := by decide +kernel
theorem dX4_meet_16 : decode cX4_meet 16 = .ok (.getfield 16, 3) := by decide +kernel
theorem dX4_meet_19 : decode cX4_meet 19 = .ok (.aload_n 0, 1) := by decide +kernel
theorem dX4_meet_20 : decode cX4_meet 20 = .ok (.getfield 12, 3) := by decide +kernel
theorem dX4_meet_23 : decode cX4_meet 23 = .ok (.invokevirtual 163, 3) := by decide +kernel
theorem dX4_meet_26 : decode cX4_meet 26 = .ok (.aload_n 0, 1) := by decide +kernel
theorem dX4_meet_27 : decode cX4_meet 27 = .ok (.aload_n 0, 1) := by decide +kernel
theorem dX4_meet_28 : decode cX4_meet 28 = .ok (.getfield 16, 3) := by decide +kernel
theorem dX4_meet_31 : decode cX4_meet 31 = .ok (.iload_n 1, 1) := by decide +kernel
theorem dX4_meet_32 : decode cX4_meet 32 = .ok (.iload_n 2, 1) := by decide +kernel
theorem dX4_meet_33 : decode cX4_meet 33 = .ok (.bipush 72, 2) := by decide +kernel
theorem dX4_meet_35 : decode cX4_meet 35 = .ok (.invokevirtual 173, 3) := by decide +kernel
theorem dX4_meet_38 : decode cX4_meet 38 = .ok (.invokevirtual 170, 3) := by decide +kernel
theorem dX4_meet_41 : decode cX4_meet 41 = .ok (.ireturn, 1) := by decide +kernel
theorem dX4_carries_0 : decode cX4_carries 0 = .ok (.iload_n 1, 1) := by decide +kernel
theorem dX4_carries_1 : decode cX4_carries 1 = .ok (.invokestatic 129, 3) := by decide +kernel
