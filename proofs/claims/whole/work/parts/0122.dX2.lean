theorem dX2_init_0 : decode cX2_init 0 = .ok (.aload_n 0, 1) := by decide +kernel
theorem dX2_init_1 : decode cX2_init 1 = .ok (.invokespecial 3, 3) := by decide +kernel
theorem dX2_init_4 : decode cX2_init 4 = .ok (.aload_n 0, 1) := by decide +kernel
theorem dX2_init_5 : decode cX2_init 5 = .ok (.bipush 40, 2) := by decide +kernel
theorem dX2_init_7 : decode cX2_init 7 = .ok (.newarray .long, 2) := by decide +kernel
theorem dX2_init_9 : decode cX2_init 9 = .ok (.putfield 9, 3) := by decide +kernel
theorem dX2_init_12 : decode cX2_init 12 = .ok (.return_, 1) := by decide +kernel
theorem dX2_isMissing_0 : decode cX2_isMissing 0 = .ok (.aload_n 0, 1) := by decide +kernel
theorem dX2_isMissing_1 : decode cX2_isMissing 1 = .ok (.getfield 15, 3) := by decide +kernel
theorem dX2_isMissing_4 : decode cX2_isMissing 4 = .ok (.ifCond .ne 7, 3) := by decide +kernel
theorem dX2_isMissing_7 : decode cX2_isMissing 7 = .ok (.iconst 1, 1) := by decide +kernel
theorem dX2_isMissing_8 : decode cX2_isMissing 8 = .ok (.goto 4, 3) := by decide +kernel
theorem dX2_isMissing_11 : decode cX2_isMissing 11 = .ok (.iconst 0, 1) := by decide +kernel
theorem dX2_isMissing_12 : decode cX2_isMissing 12 = .ok (.ireturn, 1) := by decide +kernel
theorem dX2_becomesBlank_0 : decode cX2_becomesBlank 0 = .ok (.aload_n 0, 1) := by decide +kernel
theorem dX2_becomesBlank_1 : decode cX2_becomesBlank 1 = .ok (.iload_n 1, 1) := by decide +kernel
theorem dX2_becomesBlank_2 : decode cX2_becomesBlank 2 = .ok (.putfield 15, 3) := by decide +kernel
theorem dX2_becomesBlank_5 : decode cX2_becomesBlank 5 = .ok (.aload_n 0, 1) := by decide +kernel
theorem dX2_becomesBlank_6 : decode cX2_becomesBlank 6 = .ok (.iload_n 2, 1) := by decide +kernel
theorem dX2_becomesBlank_7 : decode cX2_becomesBlank 7 = .ok (.putfield 19, 3) := by decide +kernel
theorem dX2_becomesBlank_10 : decode cX2_becomesBlank 10 = .ok (.iconst 0, 1) := by decide +kernel
theorem dX2_becomesBlank_11 : decode cX2_becomesBlank 11 = .ok (.istore_n 3, 1) := by decide +kernel
theorem dX2_becomesBlank_12 : decode cX2_becomesBlank 12 = .ok (.iload_n 3, 1) := by decide +kernel
theorem dX2_becomesBlank_13 : decode cX2_becomesBlank 13 = .ok (.bipush 40, 2) := by decide +kernel
theorem dX2_becomesBlank_15 : decode cX2_becomesBlank 15 = .ok (.if_icmp .ge 16, 3) := by decide +kernel
theorem dX2_becomesBlank_18 : decode cX2_becomesBlank 18 = .ok (.aload_n 0, 1) := by decide +kernel
theorem dX2_becomesBlank_19 : decode cX2_becomesBlank 19 = .ok (.getfield 9, 3) := by decide +kernel
theorem dX2_becomesBlank_22 : decode cX2_becomesBlank 22 = .ok (.iload_n 3, 1) := by decide +kernel
theorem dX2_becomesBlank_23 : decode cX2_becomesBlank 23 = .ok (.lconst 0, 1) := by decide +kernel
theorem dX2_becomesBlank_24 : decode cX2_becomesBlank 24 = .ok (.lastore, 1) := by decide +kernel
theorem dX2_becomesBlank_25 : decode cX2_becomesBlank 25 = .ok (.iinc 3 1, 3) := by decide +kernel
theorem dX2_becomesBlank_28 : decode cX2_becomesBlank 28 = .ok (.goto (-16), 3) := by decide +kernel
theorem dX2_becomesBlank_31 : decode cX2_becomesBlank 31 = .ok (.return_, 1) := by decide +kernel
theorem dX2_lowestBits_0 : decode cX2_lowestBits 0 = .ok (.aload_n 0, 1) := by decide +kernel
theorem dX2_lowestBits_1 : decode cX2_lowestBits 1 = .ok (.getfield 15, 3) := by decide +kernel
theorem dX2_lowestBits_4 : decode cX2_lowestBits 4 = .ok (.bipush 8, 2) := by decide +kernel
theorem dX2_lowestBits_6 : decode cX2_lowestBits 6 = .ok (.if_icmp .ne 8, 3) := by decide +kernel
theorem dX2_lowestBits_9 : decode cX2_lowestBits 9 = .ok (.lload_n 1, 1) := by decide +kernel
theorem dX2_lowestBits_10 : decode cX2_lowestBits 10 = .ok (.l2i, 1) := by decide +kernel
theorem dX2_lowestBits_11 : decode cX2_lowestBits 11 = .ok (.i2b, 1) := by decide +kernel
theorem dX2_lowestBits_12 : decode cX2_lowestBits 12 = .ok (.i2l, 1) := by decide +kernel
theorem dX2_lowestBits_13 : decode cX2_lowestBits 13 = .ok (.lreturn, 1) := by decide +kernel
theorem dX2_lowestBits_14 : decode cX2_lowestBits 14 = .ok (.aload_n 0, 1) := by decide +kernel
theorem dX2_lowestBits_15 : decode cX2_lowestBits 15 = .ok (.getfield 15, 3) := by decide +kernel
theorem dX2_lowestBits_18 : decode cX2_lowestBits 18 = .ok (.bipush 16, 2) := by decide +kernel
theorem dX2_lowestBits_20 : decode cX2_lowestBits 20 = .ok (.if_icmp .ne 10, 3) := by decide +kernel
theorem dX2_lowestBits_23 : decode cX2_lowestBits 23 = .ok (.lload_n 1, 1) := by decide +kernel
theorem dX2_lowestBits_24 : decode cX2_lowestBits 24 = .ok (.l2i, 1) := by decide +kernel
theorem dX2_lowestBits_25 : decode cX2_lowestBits 25 = .ok (.i2s, 1) := by decide +kernel
theorem dX2_lowestBits_26 : decode cX2_lowestBits 26 = .ok (.i2l, 1) := by decide +kernel
theorem dX2_lowestBits_27 : decode cX2_lowestBits 27 = .ok (.goto 4, 3) := by decide +kernel
theorem dX2_lowestBits_30 : decode cX2_lowestBits 30 = .ok (.lload_n 1, 1) := by decide +kernel
theorem dX2_lowestBits_31 : decode cX2_lowestBits 31 = .ok (.lreturn, 1) := by decide +kernel
theorem dX2_hasFrom_0 : decode cX2_hasFrom 0 = .ok (.iload_n 1, 1) := by decide +kernel
theorem dX2_hasFrom_1 : decode cX2_hasFrom 1 = .ok (.ifCond .lt 29, 3) := by decide +kernel
theorem dX2_hasFrom_4 : decode cX2_hasFrom 4 = .ok (.iload_n 2, 1) := by decide +kernel
theorem dX2_hasFrom_5 : decode cX2_hasFrom 5 = .ok (.ifCond .lt 25, 3) := by decide +kernel
theorem dX2_hasFrom_8 : decode cX2_hasFrom 8 = .ok (.iload_n 2, 1) := by decide +kernel
theorem dX2_hasFrom_9 : decode cX2_hasFrom 9 = .ok (.aload_n 0, 1) := by decide +kernel
theorem dX2_hasFrom_10 : decode cX2_hasFrom 10 = .ok (.getfield 19, 3) := by decide +kernel
theorem dX2_hasFrom_13 : decode cX2_hasFrom 13 = .ok (.if_icmp .gt 17, 3) := by decide +kernel
theorem dX2_hasFrom_16 : decode cX2_hasFrom 16 = .ok (.iload_n 1, 1) := by decide +kernel
theorem dX2_hasFrom_17 : decode cX2_hasFrom 17 = .ok (.aload_n 0, 1) := by decide +kernel
theorem dX2_hasFrom_18 : decode cX2_hasFrom 18 = .ok (.getfield 19, 3) := by decide +kernel
theorem dX2_hasFrom_21 : decode cX2_hasFrom 21 = .ok (.iload_n 2, 1) := by decide +kernel
theorem dX2_hasFrom_22 : decode cX2_hasFrom 22 = .ok (.isub, 1) := by decide +kernel
theorem dX2_hasFrom_23 : decode cX2_hasFrom 23 = .ok (.if_icmp .gt 7, 3) := by decide +kernel
theorem dX2_hasFrom_26 : decode cX2_hasFrom 26 = .ok (.iconst 1, 1) := by decide +kernel
theorem dX2_hasFrom_27 : decode cX2_hasFrom 27 = .ok (.goto 4, 3) := by decide +kernel
theorem dX2_hasFrom_30 : decode cX2_hasFrom 30 = .ok (.iconst 0, 1) := by decide +kernel
theorem dX2_hasFrom_31 : decode cX2_hasFrom 31 = .ok (.ireturn, 1) := by decide +kernel
