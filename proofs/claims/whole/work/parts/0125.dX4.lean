theorem dX4_carries_4 : decode cX4_carries 4 = .ok (.ifCond .eq 10, 3) := by decide +kernel
theorem dX4_carries_7 : decode cX4_carries 7 = .ok (.iload_n 2, 1) := by decide +kernel
theorem dX4_carries_8 : decode cX4_carries 8 = .ok (.invokestatic 160, 3) := by decide +kernel
theorem dX4_carries_11 : decode cX4_carries 11 = .ok (.ifCond .ne 9, 3) := by decide +kernel
theorem dX4_carries_14 : decode cX4_carries 14 = .ok (.aload_n 0, 1) := by decide +kernel
theorem dX4_carries_15 : decode cX4_carries 15 = .ok (.iconst 0, 1) := by decide +kernel
theorem dX4_carries_16 : decode cX4_carries 16 = .ok (.invokevirtual 58, 3) := by decide +kernel
theorem dX4_carries_19 : decode cX4_carries 19 = .ok (.ireturn, 1) := by decide +kernel
theorem dX4_carries_20 : decode cX4_carries 20 = .ok (.aload_n 0, 1) := by decide +kernel
theorem dX4_carries_21 : decode cX4_carries 21 = .ok (.getfield 16, 3) := by decide +kernel
theorem dX4_carries_24 : decode cX4_carries 24 = .ok (.aload_n 0, 1) := by decide +kernel
theorem dX4_carries_25 : decode cX4_carries 25 = .ok (.getfield 12, 3) := by decide +kernel
theorem dX4_carries_28 : decode cX4_carries 28 = .ok (.invokevirtual 163, 3) := by decide +kernel
theorem dX4_carries_31 : decode cX4_carries 31 = .ok (.aload_n 0, 1) := by decide +kernel
theorem dX4_carries_32 : decode cX4_carries 32 = .ok (.getfield 16, 3) := by decide +kernel
theorem dX4_carries_35 : decode cX4_carries 35 = .ok (.iload_n 2, 1) := by decide +kernel
theorem dX4_carries_36 : decode cX4_carries 36 = .ok (.invokevirtual 139, 3) := by decide +kernel
theorem dX4_carries_39 : decode cX4_carries 39 = .ok (.aload_n 0, 1) := by decide +kernel
theorem dX4_carries_40 : decode cX4_carries 40 = .ok (.getfield 16, 3) := by decide +kernel
theorem dX4_carries_43 : decode cX4_carries 43 = .ok (.iload_n 1, 1) := by decide +kernel
theorem dX4_carries_44 : decode cX4_carries 44 = .ok (.invokevirtual 176, 3) := by decide +kernel
theorem dX4_carries_47 : decode cX4_carries 47 = .ok (.ireturn, 1) := by decide +kernel
theorem dX4_soonest_0 : decode cX4_soonest 0 = .ok (.aload_n 0, 1) := by decide +kernel
theorem dX4_soonest_1 : decode cX4_soonest 1 = .ok (.iload_n 1, 1) := by decide +kernel
theorem dX4_soonest_2 : decode cX4_soonest 2 = .ok (.iload_n 2, 1) := by decide +kernel
theorem dX4_soonest_3 : decode cX4_soonest 3 = .ok (.invokevirtual 179, 3) := by decide +kernel
theorem dX4_soonest_6 : decode cX4_soonest 6 = .ok (.istore_n 3, 1) := by decide +kernel
theorem dX4_soonest_7 : decode cX4_soonest 7 = .ok (.iload_n 3, 1) := by decide +kernel
theorem dX4_soonest_8 : decode cX4_soonest 8 = .ok (.ifCond .eq 5, 3) := by decide +kernel
theorem dX4_soonest_11 : decode cX4_soonest 11 = .ok (.iload_n 3, 1) := by decide +kernel
theorem dX4_soonest_12 : decode cX4_soonest 12 = .ok (.ireturn, 1) := by decide +kernel
theorem dX4_soonest_13 : decode cX4_soonest 13 = .ok (.aload_n 0, 1) := by decide +kernel
theorem dX4_soonest_14 : decode cX4_soonest 14 = .ok (.getfield 25, 3) := by decide +kernel
theorem dX4_soonest_17 : decode cX4_soonest 17 = .ok (.iload_n 1, 1) := by decide +kernel
theorem dX4_soonest_18 : decode cX4_soonest 18 = .ok (.aload_n 0, 1) := by decide +kernel
theorem dX4_soonest_19 : decode cX4_soonest 19 = .ok (.getfield 12, 3) := by decide +kernel
theorem dX4_soonest_22 : decode cX4_soonest 22 = .ok (.invokevirtual 183, 3) := by decide +kernel
theorem dX4_soonest_25 : decode cX4_soonest 25 = .ok (.aload_n 0, 1) := by decide +kernel
theorem dX4_soonest_26 : decode cX4_soonest 26 = .ok (.aload_n 0, 1) := by decide +kernel
theorem dX4_soonest_27 : decode cX4_soonest 27 = .ok (.getfield 25, 3) := by decide +kernel
theorem dX4_soonest_30 : decode cX4_soonest 30 = .ok (.iload_n 2, 1) := by decide +kernel
theorem dX4_soonest_31 : decode cX4_soonest 31 = .ok (.bipush 48, 2) := by decide +kernel
theorem dX4_soonest_33 : decode cX4_soonest 33 = .ok (.invokevirtual 187, 3) := by decide +kernel
theorem dX4_soonest_36 : decode cX4_soonest 36 = .ok (.invokevirtual 170, 3) := by decide +kernel
theorem dX4_soonest_39 : decode cX4_soonest 39 = .ok (.ireturn, 1) := by decide +kernel
theorem dX4_where_0 : decode cX4_where 0 = .ok (.aload_n 0, 1) := by decide +kernel
theorem dX4_where_1 : decode cX4_where 1 = .ok (.iload_n 1, 1) := by decide +kernel
theorem dX4_where_2 : decode cX4_where 2 = .ok (.iload_n 2, 1) := by decide +kernel
theorem dX4_where_3 : decode cX4_where 3 = .ok (.invokevirtual 179, 3) := by decide +kernel
theorem dX4_where_6 : decode cX4_where 6 = .ok (.istore_n 3, 1) := by decide +kernel
theorem dX4_where_7 : decode cX4_where 7 = .ok (.iload_n 3, 1) := by decide +kernel
theorem dX4_where_8 : decode cX4_where 8 = .ok (.ifCond .eq 5, 3) := by decide +kernel
theorem dX4_where_11 : decode cX4_where 11 = .ok (.iload_n 3, 1) := by decide +kernel
theorem dX4_where_12 : decode cX4_where 12 = .ok (.ireturn, 1) := by decide +kernel
theorem dX4_where_13 : decode cX4_where 13 = .ok (.aload_n 0, 1) := by decide +kernel
theorem dX4_where_14 : decode cX4_where 14 = .ok (.getfield 25, 3) := by decide +kernel
theorem dX4_where_17 : decode cX4_where 17 = .ok (.iload_n 1, 1) := by decide +kernel
theorem dX4_where_18 : decode cX4_where 18 = .ok (.aload_n 0, 1) := by decide +kernel
theorem dX4_where_19 : decode cX4_where 19 = .ok (.getfield 12, 3) := by decide +kernel
theorem dX4_where_22 : decode cX4_where 22 = .ok (.invokevirtual 183, 3) := by decide +kernel
theorem dX4_where_25 : decode cX4_where 25 = .ok (.aload_n 0, 1) := by decide +kernel
theorem dX4_where_26 : decode cX4_where 26 = .ok (.aload_n 0, 1) := by decide +kernel
theorem dX4_where_27 : decode cX4_where 27 = .ok (.getfield 25, 3) := by decide +kernel
theorem dX4_where_30 : decode cX4_where 30 = .ok (.iload_n 2, 1) := by decide +kernel
theorem dX4_where_31 : decode cX4_where 31 = .ok (.bipush 48, 2) := by decide +kernel
theorem dX4_where_33 : decode cX4_where 33 = .ok (.invokevirtual 187, 3) := by decide +kernel
theorem dX4_where_36 : decode cX4_where 36 = .ok (.invokevirtual 190, 3) := by decide +kernel
theorem dX4_where_39 : decode cX4_where 39 = .ok (.ireturn, 1) := by decide +kernel
theorem dX4_waits_0 : decode cX4_waits 0 = .ok (.aload_n 0, 1) := by decide +kernel
theorem dX4_waits_1 : decode cX4_waits 1 = .ok (.iload_n 1, 1) := by decide +kernel
theorem dX4_waits_2 : decode cX4_waits 2 = .ok (.iload_n 2, 1) := by decide +kernel
theorem dX4_waits_3 : decode cX4_waits 3 = .ok (.invokevirtual 179, 3) := by decide +kernel
theorem dX4_waits_6 : decode cX4_waits 6 = .ok (.istore_n 3, 1) := by decide +kernel
theorem dX4_waits_7 : decode cX4_waits 7 = .ok (.iload_n 3, 1) := by decide +kernel
theorem dX4_waits_8 : decode cX4_waits 8 = .ok (.ifCond .eq 5, 3) := by decide +kernel
theorem dX4_waits_11 : decode cX4_waits 11 = .ok (.iload_n 3, 1) := by decide +kernel
theorem dX4_waits_12 : decode cX4_waits 12 = .ok (.ireturn, 1) := by decide +kernel
theorem dX4_waits_13 : decode cX4_waits 13 = .ok (.aload_n 0, 1) := by decide +kernel
theorem dX4_waits_14 : decode cX4_waits 14 = .ok (.getfield 25, 3) := by decide +kernel
theorem dX4_waits_17 : decode cX4_waits 17 = .ok (.iconst 1, 1) := by decide +kernel
theorem dX4_waits_18 : decode cX4_waits 18 = .ok (.iload_n 1, 1) := by decide +kernel
theorem dX4_waits_19 : decode cX4_waits 19 = .ok (.ishl, 1) := by decide +kernel
theorem dX4_waits_20 : decode cX4_waits 20 = .ok (.aload_n 0, 1) := by decide +kernel
theorem dX4_waits_21 : decode cX4_waits 21 = .ok (.getfield 12, 3) := by decide +kernel
theorem dX4_waits_24 : decode cX4_waits 24 = .ok (.invokevirtual 193, 3) := by decide +kernel
theorem dX4_waits_27 : decode cX4_waits 27 = .ok (.aload_n 0, 1) := by decide +kernel
theorem dX4_waits_28 : decode cX4_waits 28 = .ok (.aload_n 0, 1) := by decide +kernel
theorem dX4_waits_29 : decode cX4_waits 29 = .ok (.getfield 25, 3) := by decide +kernel
theorem dX4_waits_32 : decode cX4_waits 32 = .ok (.iload_n 2, 1) := by decide +kernel
theorem dX4_waits_33 : decode cX4_waits 33 = .ok (.bipush 48, 2) := by decide +kernel
theorem dX4_waits_35 : decode cX4_waits 35 = .ok (.invokevirtual 187, 3) := by decide +kernel
theorem dX4_waits_38 : decode cX4_waits 38 = .ok (.invokevirtual 170, 3) := by decide +kernel
theorem dX4_waits_41 : decode cX4_waits 41 = .ok (.ireturn, 1) := by decide +kernel
theorem dX4_waterhole_0 : decode cX4_waterhole 0 = .ok (.iload_n 1, 1) := by decide +kernel
theorem dX4_waterhole_1 : decode cX4_waterhole 1 = .ok (.invokestatic 129, 3) := by decide +kernel
theorem dX4_waterhole_4 : decode cX4_waterhole 4 = .ok (.ifCond .ne 9, 3) := by decide +kernel
theorem dX4_waterhole_7 : decode cX4_waterhole 7 = .ok (.aload_n 0, 1) := by decide +kernel
theorem dX4_waterhole_8 : decode cX4_waterhole 8 = .ok (.iconst 0, 1) := by decide +kernel
theorem dX4_waterhole_9 : decode cX4_waterhole 9 = .ok (.invokevirtual 58, 3) := by decide +kernel
theorem dX4_waterhole_12 : decode cX4_waterhole 12 = .ok (.ireturn, 1) := by decide +kernel
theorem dX4_waterhole_13 : decode cX4_waterhole 13 = .ok (.aload_n 0, 1) := by decide +kernel
theorem dX4_waterhole_14 : decode cX4_waterhole 14 = .ok (.getfield 25, 3) := by decide +kernel
theorem dX4_waterhole_17 : decode cX4_waterhole 17 = .ok (.ldc 153, 2) := by decide +kernel
theorem dX4_waterhole_19 : decode cX4_waterhole 19 = .ok (.aload_n 0, 1) := by decide +kernel
theorem dX4_waterhole_20 : decode cX4_waterhole 20 = .ok (.getfield 12, 3) := by decide +kernel
theorem dX4_waterhole_23 : decode cX4_waterhole 23 = .ok (.getfield 196, 3) := by decide +kernel
theorem dX4_waterhole_26 : decode cX4_waterhole 26 = .ok (.iconst (-1), 1) := by decide +kernel
theorem dX4_waterhole_27 : decode cX4_waterhole 27 = .ok (.ixor, 1) := by decide +kernel
theorem dX4_waterhole_28 : decode cX4_waterhole 28 = .ok (.iand, 1) := by decide +kernel
theorem dX4_waterhole_29 : decode cX4_waterhole 29 = .ok (.aload_n 0, 1) := by decide +kernel
theorem dX4_waterhole_30 : decode cX4_waterhole 30 = .ok (.getfield 12, 3) := by decide +kernel
theorem dX4_waterhole_33 : decode cX4_waterhole 33 = .ok (.invokevirtual 193, 3) := by decide +kernel
theorem dX4_waterhole_36 : decode cX4_waterhole 36 = .ok (.aload_n 0, 1) := by decide +kernel
theorem dX4_waterhole_37 : decode cX4_waterhole 37 = .ok (.aload_n 0, 1) := by decide +kernel
theorem dX4_waterhole_38 : decode cX4_waterhole 38 = .ok (.getfield 25, 3) := by decide +kernel
theorem dX4_waterhole_41 : decode cX4_waterhole 41 = .ok (.iload_n 1, 1) := by decide +kernel
theorem dX4_waterhole_42 : decode cX4_waterhole 42 = .ok (.bipush 48, 2) := by decide +kernel
theorem dX4_waterhole_44 : decode cX4_waterhole 44 = .ok (.invokevirtual 187, 3) := by decide +kernel
theorem dX4_waterhole_47 : decode cX4_waterhole 47 = .ok (.invokevirtual 190, 3) := by decide +kernel
theorem dX4_waterhole_50 : decode cX4_waterhole 50 = .ok (.ireturn, 1) := by decide +kernel
theorem dX4_many_0 : decode cX4_many 0 = .ok (.iload_n 1, 1) := by decide +kernel
theorem dX4_many_1 : decode cX4_many 1 = .ok (.invokestatic 51, 3) := by decide +kernel
theorem dX4_many_4 : decode cX4_many 4 = .ok (.ifCond .eq 13, 3) := by decide +kernel
theorem dX4_many_7 : decode cX4_many 7 = .ok (.iload_n 2, 1) := by decide +kernel
theorem dX4_many_8 : decode cX4_many 8 = .ok (.ifCond .lt 9, 3) := by decide +kernel
theorem dX4_many_11 : decode cX4_many 11 = .ok (.iload_n 2, 1) := by decide +kernel
theorem dX4_many_12 : decode cX4_many 12 = .ok (.bipush 48, 2) := by decide +kernel
theorem dX4_many_14 : decode cX4_many 14 = .ok (.if_icmp .le 9, 3) := by decide +kernel
theorem dX4_many_17 : decode cX4_many 17 = .ok (.aload_n 0, 1) := by decide +kernel
theorem dX4_many_18 : decode cX4_many 18 = .ok (.iconst 0, 1) := by decide +kernel
theorem dX4_many_19 : decode cX4_many 19 = .ok (.invokevirtual 58, 3) := by decide +kernel
theorem dX4_many_22 : decode cX4_many 22 = .ok (.ireturn, 1) := by decide +kernel
theorem dX4_many_23 : decode cX4_many 23 = .ok (.aload_n 0, 1) := by decide +kernel
theorem dX4_many_24 : decode cX4_many 24 = .ok (.getfield 12, 3) := by decide +kernel
theorem dX4_many_27 : decode cX4_many 27 = .ok (.iload_n 1, 1) := by decide +kernel
theorem dX4_many_28 : decode cX4_many 28 = .ok (.invokevirtual 62, 3) := by decide +kernel
theorem dX4_many_31 : decode cX4_many 31 = .ok (.ifCond .eq 9, 3) := by decide +kernel
theorem dX4_many_34 : decode cX4_many 34 = .ok (.aload_n 0, 1) := by decide +kernel
theorem dX4_many_35 : decode cX4_many 35 = .ok (.iconst 4, 1) := by decide +kernel
theorem dX4_many_36 : decode cX4_many 36 = .ok (.invokevirtual 58, 3) := by decide +kernel
theorem dX4_many_39 : decode cX4_many 39 = .ok (.ireturn, 1) := by decide +kernel
theorem dX4_many_40 : decode cX4_many 40 = .ok (.aload_n 0, 1) := by decide +kernel
theorem dX4_many_41 : decode cX4_many 41 = .ok (.getfield 25, 3) := by decide +kernel
theorem dX4_many_44 : decode cX4_many 44 = .ok (.iload_n 1, 1) := by decide +kernel
theorem dX4_many_45 : decode cX4_many 45 = .ok (.aload_n 0, 1) := by decide +kernel
theorem dX4_many_46 : decode cX4_many 46 = .ok (.getfield 12, 3) := by decide +kernel
theorem dX4_many_49 : decode cX4_many 49 = .ok (.invokevirtual 183, 3) := by decide +kernel
theorem dX4_many_52 : decode cX4_many 52 = .ok (.aload_n 0, 1) := by decide +kernel
theorem dX4_many_53 : decode cX4_many 53 = .ok (.getfield 25, 3) := by decide +kernel
theorem dX4_many_56 : decode cX4_many 56 = .ok (.iload_n 2, 1) := by decide +kernel
theorem dX4_many_57 : decode cX4_many 57 = .ok (.invokevirtual 199, 3) := by decide +kernel
theorem dX4_many_60 : decode cX4_many 60 = .ok (.invokestatic 202, 3) := by decide +kernel
theorem dX4_many_63 : decode cX4_many 63 = .ok (.ireturn, 1) := by decide +kernel
theorem dX4_both_0 : decode cX4_both 0 = .ok (.iload_n 3, 1) := by decide +kernel
theorem dX4_both_1 : decode cX4_both 1 = .ok (.invokestatic 129, 3) := by decide +kernel
theorem dX4_both_4 : decode cX4_both 4 = .ok (.ifCond .eq 8, 3) := by decide +kernel
theorem dX4_both_7 : decode cX4_both 7 = .ok (.iload_n 2, 1) := by decide +kernel
theorem dX4_both_8 : decode cX4_both 8 = .ok (.iload_n 3, 1) := by decide +kernel
theorem dX4_both_9 : decode cX4_both 9 = .ok (.if_icmp .ne 9, 3) := by decide +kernel
theorem dX4_both_12 : decode cX4_both 12 = .ok (.aload_n 0, 1) := by decide +kernel
theorem dX4_both_13 : decode cX4_both 13 = .ok (.iconst 0, 1) := by decide +kernel
theorem dX4_both_14 : decode cX4_both 14 = .ok (.invokevirtual 58, 3) := by decide +kernel
theorem dX4_both_17 : decode cX4_both 17 = .ok (.ireturn, 1) := by decide +kernel
theorem dX4_both_18 : decode cX4_both 18 = .ok (.aload_n 0, 1) := by decide +kernel
theorem dX4_both_19 : decode cX4_both 19 = .ok (.iload_n 1, 1) := by decide +kernel
theorem dX4_both_20 : decode cX4_both 20 = .ok (.iload_n 2, 1) := by decide +kernel
theorem dX4_both_21 : decode cX4_both 21 = .ok (.invokevirtual 179, 3) := by decide +kernel
theorem dX4_both_24 : decode cX4_both 24 = .ok (.istore 4, 2) := by decide +kernel
theorem dX4_both_26 : decode cX4_both 26 = .ok (.iload 4, 2) := by decide +kernel
theorem dX4_both_28 : decode cX4_both 28 = .ok (.ifCond .eq 6, 3) := by decide +kernel
theorem dX4_both_31 : decode cX4_both 31 = .ok (.iload 4, 2) := by decide +kernel
theorem dX4_both_33 : decode cX4_both 33 = .ok (.ireturn, 1) := by decide +kernel
theorem dX4_both_34 : decode cX4_both 34 = .ok (.aload_n 0, 1) := by decide +kernel
theorem dX4_both_35 : decode cX4_both 35 = .ok (.getfield 25, 3) := by decide +kernel
theorem dX4_both_38 : decode cX4_both 38 = .ok (.iload_n 1, 1) := by decide +kernel
theorem dX4_both_39 : decode cX4_both 39 = .ok (.aload_n 0, 1) := by decide +kernel
theorem dX4_both_40 : decode cX4_both 40 = .ok (.getfield 12, 3) := by decide +kernel
theorem dX4_both_43 : decode cX4_both 43 = .ok (.invokevirtual 183, 3) := by decide +kernel
theorem dX4_both_46 : decode cX4_both 46 = .ok (.aload_n 0, 1) := by decide +kernel
theorem dX4_both_47 : decode cX4_both 47 = .ok (.aload_n 0, 1) := by decide +kernel
theorem dX4_both_48 : decode cX4_both 48 = .ok (.getfield 25, 3) := by decide +kernel
theorem dX4_both_51 : decode cX4_both 51 = .ok (.iload_n 2, 1) := by decide +kernel
theorem dX4_both_52 : decode cX4_both 52 = .ok (.iload_n 3, 1) := by decide +kernel
theorem dX4_both_53 : decode cX4_both 53 = .ok (.bipush 48, 2) := by decide +kernel
theorem dX4_both_55 : decode cX4_both 55 = .ok (.invokevirtual 207, 3) := by decide +kernel
theorem dX4_both_58 : decode cX4_both 58 = .ok (.invokevirtual 170, 3) := by decide +kernel
theorem dX4_both_61 : decode cX4_both 61 = .ok (.ireturn, 1) := by decide +kernel
theorem dX4_censors_0 : decode cX4_censors 0 = .ok (.iload_n 3, 1) := by decide +kernel
theorem dX4_censors_1 : decode cX4_censors 1 = .ok (.invokestatic 51, 3) := by decide +kernel
theorem dX4_censors_4 : decode cX4_censors 4 = .ok (.ifCond .eq 8, 3) := by decide +kernel
theorem dX4_censors_7 : decode cX4_censors 7 = .ok (.iload_n 3, 1) := by decide +kernel
theorem dX4_censors_8 : decode cX4_censors 8 = .ok (.iload_n 1, 1) := by decide +kernel
theorem dX4_censors_9 : decode cX4_censors 9 = .ok (.if_icmp .ne 9, 3) := by decide +kernel
theorem dX4_censors_12 : decode cX4_censors 12 = .ok (.aload_n 0, 1) := by decide +kernel
theorem dX4_censors_13 : decode cX4_censors 13 = .ok (.iconst 0, 1) := by decide +kernel
theorem dX4_censors_14 : decode cX4_censors 14 = .ok (.invokevirtual 58, 3) := by decide +kernel
theorem dX4_censors_17 : decode cX4_censors 17 = .ok (.ireturn, 1) := by decide +kernel
theorem dX4_censors_18 : decode cX4_censors 18 = .ok (.aload_n 0, 1) := by decide +kernel
theorem dX4_censors_19 : decode cX4_censors 19 = .ok (.iload_n 1, 1) := by decide +kernel
theorem dX4_censors_20 : decode cX4_censors 20 = .ok (.iload_n 2, 1) := by decide +kernel
theorem dX4_censors_21 : decode cX4_censors 21 = .ok (.invokevirtual 179, 3) := by decide +kernel
theorem dX4_censors_24 : decode cX4_censors 24 = .ok (.istore 4, 2) := by decide +kernel
theorem dX4_censors_26 : decode cX4_censors 26 = .ok (.iload 4, 2) := by decide +kernel
theorem dX4_censors_28 : decode cX4_censors 28 = .ok (.ifCond .eq 6, 3) := by decide +kernel
theorem dX4_censors_31 : decode cX4_censors 31 = .ok (.iload 4, 2) := by decide +kernel
theorem dX4_censors_33 : decode cX4_censors 33 = .ok (.ireturn, 1) := by decide +kernel
theorem dX4_censors_34 : decode cX4_censors 34 = .ok (.aload_n 0, 1) := by decide +kernel
theorem dX4_censors_35 : decode cX4_censors 35 = .ok (.getfield 25, 3) := by decide +kernel
theorem dX4_censors_38 : decode cX4_censors 38 = .ok (.iload_n 1, 1) := by decide +kernel
theorem dX4_censors_39 : decode cX4_censors 39 = .ok (.aload_n 0, 1) := by decide +kernel
theorem dX4_censors_40 : decode cX4_censors 40 = .ok (.getfield 12, 3) := by decide +kernel
theorem dX4_censors_43 : decode cX4_censors 43 = .ok (.invokevirtual 183, 3) := by decide +kernel
theorem dX4_censors_46 : decode cX4_censors 46 = .ok (.aload_n 0, 1) := by decide +kernel
theorem dX4_censors_47 : decode cX4_censors 47 = .ok (.getfield 25, 3) := by decide +kernel
theorem dX4_censors_50 : decode cX4_censors 50 = .ok (.iload_n 2, 1) := by decide +kernel
theorem dX4_censors_51 : decode cX4_censors 51 = .ok (.bipush 48, 2) := by decide +kernel
theorem dX4_censors_53 : decode cX4_censors 53 = .ok (.invokevirtual 187, 3) := by decide +kernel
theorem dX4_censors_56 : decode cX4_censors 56 = .ok (.istore 5, 2) := by decide +kernel
theorem dX4_censors_58 : decode cX4_censors 58 = .ok (.iload 5, 2) := by decide +kernel
theorem dX4_censors_60 : decode cX4_censors 60 = .ok (.iconst (-1), 1) := by decide +kernel
theorem dX4_censors_61 : decode cX4_censors 61 = .ok (.if_icmp .ne 9, 3) := by decide +kernel
theorem dX4_censors_64 : decode cX4_censors 64 = .ok (.aload_n 0, 1) := by decide +kernel
theorem dX4_censors_65 : decode cX4_censors 65 = .ok (.iconst 3, 1) := by decide +kernel
theorem dX4_censors_66 : decode cX4_censors 66 = .ok (.invokevirtual 58, 3) := by decide +kernel
theorem dX4_censors_69 : decode cX4_censors 69 = .ok (.ireturn, 1) := by decide +kernel
theorem dX4_censors_70 : decode cX4_censors 70 = .ok (.aload_n 0, 1) := by decide +kernel
theorem dX4_censors_71 : decode cX4_censors 71 = .ok (.getfield 25, 3) := by decide +kernel
theorem dX4_censors_74 : decode cX4_censors 74 = .ok (.iload_n 1, 1) := by decide +kernel
theorem dX4_censors_75 : decode cX4_censors 75 = .ok (.aload_n 0, 1) := by decide +kernel
theorem dX4_censors_76 : decode cX4_censors 76 = .ok (.getfield 12, 3) := by decide +kernel
theorem dX4_censors_79 : decode cX4_censors 79 = .ok (.invokevirtual 183, 3) := by decide +kernel
theorem dX4_censors_82 : decode cX4_censors 82 = .ok (.aload_n 0, 1) := by decide +kernel
theorem dX4_censors_83 : decode cX4_censors 83 = .ok (.getfield 25, 3) := by decide +kernel
theorem dX4_censors_86 : decode cX4_censors 86 = .ok (.getfield 210, 3) := by decide +kernel
theorem dX4_censors_89 : decode cX4_censors 89 = .ok (.iload_n 3, 1) := by decide +kernel
theorem dX4_censors_90 : decode cX4_censors 90 = .ok (.iconst 1, 1) := by decide +kernel
theorem dX4_censors_91 : decode cX4_censors 91 = .ok (.invokevirtual 65, 3) := by decide +kernel
theorem dX4_censors_94 : decode cX4_censors 94 = .ok (.aload_n 0, 1) := by decide +kernel
theorem dX4_censors_95 : decode cX4_censors 95 = .ok (.getfield 25, 3) := by decide +kernel
theorem dX4_censors_98 : decode cX4_censors 98 = .ok (.iload_n 2, 1) := by decide +kernel
theorem dX4_censors_99 : decode cX4_censors 99 = .ok (.bipush 48, 2) := by decide +kernel
theorem dX4_censors_101 : decode cX4_censors 101 = .ok (.invokevirtual 187, 3) := by decide +kernel
theorem dX4_censors_104 : decode cX4_censors 104 = .ok (.istore 6, 2) := by decide +kernel
theorem dX4_censors_106 : decode cX4_censors 106 = .ok (.iload 6, 2) := by decide +kernel
theorem dX4_censors_108 : decode cX4_censors 108 = .ok (.iconst (-1), 1) := by decide +kernel
theorem dX4_censors_109 : decode cX4_censors 109 = .ok (.if_icmp .ne 8, 3) := by decide +kernel
theorem dX4_censors_112 : decode cX4_censors 112 = .ok (.bipush 99, 2) := by decide +kernel
theorem dX4_censors_114 : decode cX4_censors 114 = .ok (.goto 8, 3) := by decide +kernel
theorem dX4_censors_117 : decode cX4_censors 117 = .ok (.iload 6, 2) := by decide +kernel
theorem dX4_censors_119 : decode cX4_censors 119 = .ok (.iload 5, 2) := by decide +kernel
theorem dX4_censors_121 : decode cX4_censors 121 = .ok (.isub, 1) := by decide +kernel
theorem dX4_censors_122 : decode cX4_censors 122 = .ok (.ireturn, 1) := by decide +kernel
theorem dX4_tips_0 : decode cX4_tips 0 = .ok (.aload_n 0, 1) := by decide +kernel
theorem dX4_tips_1 : decode cX4_tips 1 = .ok (.iload_n 1, 1) := by decide +kernel
theorem dX4_tips_2 : decode cX4_tips 2 = .ok (.iload_n 2, 1) := by decide +kernel
theorem dX4_tips_3 : decode cX4_tips 3 = .ok (.invokevirtual 179, 3) := by decide +kernel
theorem dX4_tips_6 : decode cX4_tips 6 = .ok (.istore_n 3, 1) := by decide +kernel
theorem dX4_tips_7 : decode cX4_tips 7 = .ok (.iload_n 3, 1) := by decide +kernel
theorem dX4_tips_8 : decode cX4_tips 8 = .ok (.ifCond .eq 5, 3) := by decide +kernel
theorem dX4_tips_11 : decode cX4_tips 11 = .ok (.iload_n 3, 1) := by decide +kernel
theorem dX4_tips_12 : decode cX4_tips 12 = .ok (.ireturn, 1) := by decide +kernel
theorem dX4_tips_13 : decode cX4_tips 13 = .ok (.aload_n 0, 1) := by decide +kernel
theorem dX4_tips_14 : decode cX4_tips 14 = .ok (.iload_n 1, 1) := by decide +kernel
theorem dX4_tips_15 : decode cX4_tips 15 = .ok (.iload_n 2, 1) := by decide +kernel
theorem dX4_tips_16 : decode cX4_tips 16 = .ok (.invokevirtual 211, 3) := by decide +kernel
theorem dX4_tips_19 : decode cX4_tips 19 = .ok (.istore 4, 2) := by decide +kernel
theorem dX4_tips_21 : decode cX4_tips 21 = .ok (.iload 4, 2) := by decide +kernel
theorem dX4_tips_23 : decode cX4_tips 23 = .ok (.iconst (-1), 1) := by decide +kernel
theorem dX4_tips_24 : decode cX4_tips 24 = .ok (.if_icmp .ne 11, 3) := by decide +kernel
theorem dX4_tips_27 : decode cX4_tips 27 = .ok (.aload_n 0, 1) := by decide +kernel
theorem dX4_tips_28 : decode cX4_tips 28 = .ok (.iconst 3, 1) := by decide +kernel
theorem dX4_tips_29 : decode cX4_tips 29 = .ok (.invokevirtual 58, 3) := by decide +kernel
theorem dX4_tips_32 : decode cX4_tips 32 = .ok (.goto 5, 3) := by decide +kernel
theorem dX4_tips_35 : decode cX4_tips 35 = .ok (.iload 4, 2) := by decide +kernel
theorem dX4_tips_37 : decode cX4_tips 37 = .ok (.ireturn, 1) := by decide +kernel
theorem dX4_spring_0 : decode cX4_spring 0 = .ok (.aload_n 0, 1) := by decide +kernel
theorem dX4_spring_1 : decode cX4_spring 1 = .ok (.iload_n 1, 1) := by decide +kernel
theorem dX4_spring_2 : decode cX4_spring 2 = .ok (.iload_n 2, 1) := by decide +kernel
theorem dX4_spring_3 : decode cX4_spring 3 = .ok (.invokevirtual 179, 3) := by decide +kernel
theorem dX4_spring_6 : decode cX4_spring 6 = .ok (.istore_n 3, 1) := by decide +kernel
theorem dX4_spring_7 : decode cX4_spring 7 = .ok (.iload_n 3, 1) := by decide +kernel
theorem dX4_spring_8 : decode cX4_spring 8 = .ok (.ifCond .eq 5, 3) := by decide +kernel
theorem dX4_spring_11 : decode cX4_spring 11 = .ok (.iload_n 3, 1) := by decide +kernel
theorem dX4_spring_12 : decode cX4_spring 12 = .ok (.ireturn, 1) := by decide +kernel
theorem dX4_spring_13 : decode cX4_spring 13 = .ok (.aload_n 0, 1) := by decide +kernel
theorem dX4_spring_14 : decode cX4_spring 14 = .ok (.iload_n 1, 1) := by decide +kernel
theorem dX4_spring_15 : decode cX4_spring 15 = .ok (.iload_n 2, 1) := by decide +kernel
theorem dX4_spring_16 : decode cX4_spring 16 = .ok (.invokevirtual 214, 3) := by decide +kernel
theorem dX4_spring_19 : decode cX4_spring 19 = .ok (.istore 4, 2) := by decide +kernel
theorem dX4_spring_21 : decode cX4_spring 21 = .ok (.iload 4, 2) := by decide +kernel
theorem dX4_spring_23 : decode cX4_spring 23 = .ok (.iconst (-1), 1) := by decide +kernel
theorem dX4_spring_24 : decode cX4_spring 24 = .ok (.if_icmp .ne 11, 3) := by decide +kernel
theorem dX4_spring_27 : decode cX4_spring 27 = .ok (.aload_n 0, 1) := by decide +kernel
theorem dX4_spring_28 : decode cX4_spring 28 = .ok (.iconst 3, 1) := by decide +kernel
theorem dX4_spring_29 : decode cX4_spring 29 = .ok (.invokevirtual 58, 3) := by decide +kernel
theorem dX4_spring_32 : decode cX4_spring 32 = .ok (.goto 5, 3) := by decide +kernel
theorem dX4_spring_35 : decode cX4_spring 35 = .ok (.iload 4, 2) := by decide +kernel
theorem dX4_spring_37 : decode cX4_spring 37 = .ok (.ireturn, 1) := by decide +kernel
theorem dX4_kind_0 : decode cX4_kind 0 = .ok (.aload_n 0, 1) := by decide +kernel
theorem dX4_kind_1 : decode cX4_kind 1 = .ok (.getfield 12, 3) := by decide +kernel
theorem dX4_kind_4 : decode cX4_kind 4 = .ok (.iload_n 1, 1) := by decide +kernel
theorem dX4_kind_5 : decode cX4_kind 5 = .ok (.invokevirtual 101, 3) := by decide +kernel
theorem dX4_kind_8 : decode cX4_kind 8 = .ok (.ifCond .eq 10, 3) := by decide +kernel
theorem dX4_kind_11 : decode cX4_kind 11 = .ok (.iload_n 2, 1) := by decide +kernel
theorem dX4_kind_12 : decode cX4_kind 12 = .ok (.invokestatic 51, 3) := by decide +kernel
theorem dX4_kind_15 : decode cX4_kind 15 = .ok (.ifCond .ne 9, 3) := by decide +kernel
theorem dX4_kind_18 : decode cX4_kind 18 = .ok (.aload_n 0, 1) := by decide +kernel
theorem dX4_kind_19 : decode cX4_kind 19 = .ok (.iconst 0, 1) := by decide +kernel
theorem dX4_kind_20 : decode cX4_kind 20 = .ok (.invokevirtual 58, 3) := by decide +kernel
theorem dX4_kind_23 : decode cX4_kind 23 = .ok (.ireturn, 1) := by decide +kernel
theorem dX4_kind_24 : decode cX4_kind 24 = .ok (.aload_n 0, 1) := by decide +kernel
theorem dX4_kind_25 : decode cX4_kind 25 = .ok (.iload_n 1, 1) := by decide +kernel
theorem dX4_kind_26 : decode cX4_kind 26 = .ok (.iload_n 2, 1) := by decide +kernel
theorem dX4_kind_27 : decode cX4_kind 27 = .ok (.invokevirtual 217, 3) := by decide +kernel
theorem dX4_kind_30 : decode cX4_kind 30 = .ok (.istore_n 3, 1) := by decide +kernel
theorem dX4_kind_31 : decode cX4_kind 31 = .ok (.iload_n 3, 1) := by decide +kernel
theorem dX4_kind_32 : decode cX4_kind 32 = .ok (.iconst (-1), 1) := by decide +kernel
theorem dX4_kind_33 : decode cX4_kind 33 = .ok (.if_icmp .ne 11, 3) := by decide +kernel
theorem dX4_kind_36 : decode cX4_kind 36 = .ok (.aload_n 0, 1) := by decide +kernel
theorem dX4_kind_37 : decode cX4_kind 37 = .ok (.iconst 3, 1) := by decide +kernel
theorem dX4_kind_38 : decode cX4_kind 38 = .ok (.invokevirtual 58, 3) := by decide +kernel
theorem dX4_kind_41 : decode cX4_kind 41 = .ok (.goto 4, 3) := by decide +kernel
theorem dX4_kind_44 : decode cX4_kind 44 = .ok (.iload_n 3, 1) := by decide +kernel
theorem dX4_kind_45 : decode cX4_kind 45 = .ok (.ireturn, 1) := by decide +kernel
theorem dX4_feed_0 : decode cX4_feed 0 = .ok (.iload_n 2, 1) := by decide +kernel
theorem dX4_feed_1 : decode cX4_feed 1 = .ok (.iconst 1, 1) := by decide +kernel
theorem dX4_feed_2 : decode cX4_feed 2 = .ok (.if_icmp .lt 8, 3) := by decide +kernel
theorem dX4_feed_5 : decode cX4_feed 5 = .ok (.iload_n 2, 1) := by decide +kernel
theorem dX4_feed_6 : decode cX4_feed 6 = .ok (.iconst 4, 1) := by decide +kernel
theorem dX4_feed_7 : decode cX4_feed 7 = .ok (.if_icmp .le 9, 3) := by decide +kernel
theorem dX4_feed_10 : decode cX4_feed 10 = .ok (.aload_n 0, 1) := by decide +kernel
theorem dX4_feed_11 : decode cX4_feed 11 = .ok (.iconst 0, 1) := by decide +kernel
theorem dX4_feed_12 : decode cX4_feed 12 = .ok (.invokevirtual 58, 3) := by decide +kernel
theorem dX4_feed_15 : decode cX4_feed 15 = .ok (.ireturn, 1) := by decide +kernel
theorem dX4_feed_16 : decode cX4_feed 16 = .ok (.aload_n 0, 1) := by decide +kernel
theorem dX4_feed_17 : decode cX4_feed 17 = .ok (.getfield 32, 3) := by decide +kernel
theorem dX4_feed_20 : decode cX4_feed 20 = .ok (.getfield 220, 3) := by decide +kernel
theorem dX4_feed_23 : decode cX4_feed 23 = .ok (.iload_n 2, 1) := by decide +kernel
theorem dX4_feed_24 : decode cX4_feed 24 = .ok (.iadd, 1) := by decide +kernel
theorem dX4_feed_25 : decode cX4_feed 25 = .ok (.bipush 120, 2) := by decide +kernel
theorem dX4_feed_27 : decode cX4_feed 27 = .ok (.if_icmp .le 9, 3) := by decide +kernel
theorem dX4_feed_30 : decode cX4_feed 30 = .ok (.aload_n 0, 1) := by decide +kernel
theorem dX4_feed_31 : decode cX4_feed 31 = .ok (.iconst 1, 1) := by decide +kernel
theorem dX4_feed_32 : decode cX4_feed 32 = .ok (.invokevirtual 58, 3) := by decide +kernel
theorem dX4_feed_35 : decode cX4_feed 35 = .ok (.ireturn, 1) := by decide +kernel
theorem dX4_feed_36 : decode cX4_feed 36 = .ok (.aload_n 0, 1) := by decide +kernel
theorem dX4_feed_37 : decode cX4_feed 37 = .ok (.getfield 32, 3) := by decide +kernel
theorem dX4_feed_40 : decode cX4_feed 40 = .ok (.iload_n 1, 1) := by decide +kernel
theorem dX4_feed_41 : decode cX4_feed 41 = .ok (.iload_n 2, 1) := by decide +kernel
theorem dX4_feed_42 : decode cX4_feed 42 = .ok (.invokevirtual 223, 3) := by decide +kernel
theorem dX4_feed_45 : decode cX4_feed 45 = .ok (.aload_n 0, 1) := by decide +kernel
theorem dX4_feed_46 : decode cX4_feed 46 = .ok (.getfield 32, 3) := by decide +kernel
theorem dX4_feed_49 : decode cX4_feed 49 = .ok (.getfield 220, 3) := by decide +kernel
theorem dX4_feed_52 : decode cX4_feed 52 = .ok (.ireturn, 1) := by decide +kernel
theorem dX4_wipe_0 : decode cX4_wipe 0 = .ok (.aload_n 0, 1) := by decide +kernel
theorem dX4_wipe_1 : decode cX4_wipe 1 = .ok (.getfield 32, 3) := by decide +kernel
theorem dX4_wipe_4 : decode cX4_wipe 4 = .ok (.getfield 220, 3) := by decide +kernel
theorem dX4_wipe_7 : decode cX4_wipe 7 = .ok (.istore_n 1, 1) := by decide +kernel
theorem dX4_wipe_8 : decode cX4_wipe 8 = .ok (.aload_n 0, 1) := by decide +kernel
theorem dX4_wipe_9 : decode cX4_wipe 9 = .ok (.getfield 32, 3) := by decide +kernel
theorem dX4_wipe_12 : decode cX4_wipe 12 = .ok (.iconst 0, 1) := by decide +kernel
theorem dX4_wipe_13 : decode cX4_wipe 13 = .ok (.putfield 220, 3) := by decide +kernel
theorem dX4_wipe_16 : decode cX4_wipe 16 = .ok (.iload_n 1, 1) := by decide +kernel
theorem dX4_wipe_17 : decode cX4_wipe 17 = .ok (.ireturn, 1) := by decide +kernel
theorem dX4_island_0 : decode cX4_island 0 = .ok (.aload_n 0, 1) := by decide +kernel
theorem dX4_island_1 : decode cX4_island 1 = .ok (.getfield 16, 3) := by decide +kernel
theorem dX4_island_4 : decode cX4_island 4 = .ok (.aload_n 0, 1) := by decide +kernel
theorem dX4_island_5 : decode cX4_island 5 = .ok (.getfield 12, 3) := by decide +kernel
theorem dX4_island_8 : decode cX4_island 8 = .ok (.invokevirtual 163, 3) := by decide +kernel
theorem dX4_island_11 : decode cX4_island 11 = .ok (.aload_n 0, 1) := by decide +kernel
theorem dX4_island_12 : decode cX4_island 12 = .ok (.getfield 32, 3) := by decide +kernel
theorem dX4_island_15 : decode cX4_island 15 = .ok (.aload_n 0, 1) := by decide +kernel
theorem dX4_island_16 : decode cX4_island 16 = .ok (.getfield 16, 3) := by decide +kernel
theorem dX4_island_19 : decode cX4_island 19 = .ok (.invokevirtual 227, 3) := by decide +kernel
theorem dX4_island_22 : decode cX4_island 22 = .ok (.istore_n 1, 1) := by decide +kernel
theorem dX4_island_23 : decode cX4_island 23 = .ok (.aload_n 0, 1) := by decide +kernel
theorem dX4_island_24 : decode cX4_island 24 = .ok (.getfield 32, 3) := by decide +kernel
theorem dX4_island_27 : decode cX4_island 27 = .ok (.iconst 0, 1) := by decide +kernel
theorem dX4_island_28 : decode cX4_island 28 = .ok (.putfield 220, 3) := by decide +kernel
theorem dX4_island_31 : decode cX4_island 31 = .ok (.iload_n 1, 1) := by decide +kernel
theorem dX4_island_32 : decode cX4_island 32 = .ok (.ifCond .le 14, 3) := by decide +kernel
theorem dX4_island_35 : decode cX4_island 35 = .ok (.aload_n 0, 1) := by decide +kernel
theorem dX4_island_36 : decode cX4_island 36 = .ok (.getfield 12, 3) := by decide +kernel
theorem dX4_island_39 : decode cX4_island 39 = .ok (.aload_n 0, 1) := by decide +kernel
theorem dX4_island_40 : decode cX4_island 40 = .ok (.getfield 16, 3) := by decide +kernel
theorem dX4_island_43 : decode cX4_island 43 = .ok (.invokevirtual 163, 3) := by decide +kernel
theorem dX4_island_46 : decode cX4_island 46 = .ok (.iload_n 1, 1) := by decide +kernel
theorem dX4_island_47 : decode cX4_island 47 = .ok (.ireturn, 1) := by decide +kernel
theorem dX4_sheet_0 : decode cX4_sheet 0 = .ok (.iload_n 1, 1) := by decide +kernel
theorem dX4_sheet_1 : decode cX4_sheet 1 = .ok (.iconst 4, 1) := by decide +kernel
theorem dX4_sheet_2 : decode cX4_sheet 2 = .ok (.invokestatic 69, 3) := by decide +kernel
theorem dX4_sheet_5 : decode cX4_sheet 5 = .ok (.ifCond .eq 25, 3) := by decide +kernel
theorem dX4_sheet_8 : decode cX4_sheet 8 = .ok (.iload_n 2, 1) := by decide +kernel
theorem dX4_sheet_9 : decode cX4_sheet 9 = .ok (.ifCond .eq 27, 3) := by decide +kernel
theorem dX4_sheet_12 : decode cX4_sheet 12 = .ok (.iload_n 2, 1) := by decide +kernel
theorem dX4_sheet_13 : decode cX4_sheet 13 = .ok (.bipush 8, 2) := by decide +kernel
theorem dX4_sheet_15 : decode cX4_sheet 15 = .ok (.if_icmp .eq 21, 3) := by decide +kernel
theorem dX4_sheet_18 : decode cX4_sheet 18 = .ok (.iload_n 2, 1) := by decide +kernel
theorem dX4_sheet_19 : decode cX4_sheet 19 = .ok (.bipush 16, 2) := by decide +kernel
theorem dX4_sheet_21 : decode cX4_sheet 21 = .ok (.if_icmp .eq 15, 3) := by decide +kernel
theorem dX4_sheet_24 : decode cX4_sheet 24 = .ok (.iload_n 2, 1) := by decide +kernel
theorem dX4_sheet_25 : decode cX4_sheet 25 = .ok (.bipush 64, 2) := by decide +kernel
theorem dX4_sheet_27 : decode cX4_sheet 27 = .ok (.if_icmp .eq 9, 3) := by decide +kernel
theorem dX4_sheet_30 : decode cX4_sheet 30 = .ok (.aload_n 0, 1) := by decide +kernel
theorem dX4_sheet_31 : decode cX4_sheet 31 = .ok (.iconst 0, 1) := by decide +kernel
theorem dX4_sheet_32 : decode cX4_sheet 32 = .ok (.invokevirtual 58, 3) := by decide +kernel
theorem dX4_sheet_35 : decode cX4_sheet 35 = .ok (.ireturn, 1) := by decide +kernel
theorem dX4_sheet_36 : decode cX4_sheet 36 = .ok (.iload_n 3, 1) := by decide +kernel
theorem dX4_sheet_37 : decode cX4_sheet 37 = .ok (.ifCond .ge 10, 3) := by decide +kernel
theorem dX4_sheet_40 : decode cX4_sheet 40 = .ok (.aload_n 0, 1) := by decide +kernel
theorem dX4_sheet_41 : decode cX4_sheet 41 = .ok (.bipush 6, 2) := by decide +kernel
theorem dX4_sheet_43 : decode cX4_sheet 43 = .ok (.invokevirtual 58, 3) := by decide +kernel
theorem dX4_sheet_46 : decode cX4_sheet 46 = .ok (.ireturn, 1) := by decide +kernel
theorem dX4_sheet_47 : decode cX4_sheet 47 = .ok (.iload_n 3, 1) := by decide +kernel
theorem dX4_sheet_48 : decode cX4_sheet 48 = .ok (.bipush 40, 2) := by decide +kernel
theorem dX4_sheet_50 : decode cX4_sheet 50 = .ok (.if_icmp .le 9, 3) := by decide +kernel
theorem dX4_sheet_53 : decode cX4_sheet 53 = .ok (.aload_n 0, 1) := by decide +kernel
theorem dX4_sheet_54 : decode cX4_sheet 54 = .ok (.iconst 0, 1) := by decide +kernel
theorem dX4_sheet_55 : decode cX4_sheet 55 = .ok (.invokevirtual 58, 3) := by decide +kernel
theorem dX4_sheet_58 : decode cX4_sheet 58 = .ok (.ireturn, 1) := by decide +kernel
theorem dX4_sheet_59 : decode cX4_sheet 59 = .ok (.aload_n 0, 1) := by decide +kernel
theorem dX4_sheet_60 : decode cX4_sheet 60 = .ok (.getfield 38, 3) := by decide +kernel
theorem dX4_sheet_63 : decode cX4_sheet 63 = .ok (.iload_n 1, 1) := by decide +kernel
theorem dX4_sheet_64 : decode cX4_sheet 64 = .ok (.aaload, 1) := by decide +kernel
theorem dX4_sheet_65 : decode cX4_sheet 65 = .ok (.iload_n 2, 1) := by decide +kernel
theorem dX4_sheet_66 : decode cX4_sheet 66 = .ok (.iload_n 2, 1) := by decide +kernel
theorem dX4_sheet_67 : decode cX4_sheet 67 = .ok (.ifCond .ne 7, 3) := by decide +kernel
theorem dX4_sheet_70 : decode cX4_sheet 70 = .ok (.iconst 0, 1) := by decide +kernel
theorem dX4_sheet_71 : decode cX4_sheet 71 = .ok (.goto 4, 3) := by decide +kernel
theorem dX4_sheet_74 : decode cX4_sheet 74 = .ok (.iload_n 3, 1) := by decide +kernel
theorem dX4_sheet_75 : decode cX4_sheet 75 = .ok (.invokevirtual 231, 3) := by decide +kernel
theorem dX4_sheet_78 : decode cX4_sheet 78 = .ok (.aload_n 0, 1) := by decide +kernel
theorem dX4_sheet_79 : decode cX4_sheet 79 = .ok (.getfield 38, 3) := by decide +kernel
theorem dX4_sheet_82 : decode cX4_sheet 82 = .ok (.iload_n 1, 1) := by decide +kernel
theorem dX4_sheet_83 : decode cX4_sheet 83 = .ok (.aaload, 1) := by decide +kernel
theorem dX4_sheet_84 : decode cX4_sheet 84 = .ok (.getfield 234, 3) := by decide +kernel
theorem dX4_sheet_87 : decode cX4_sheet 87 = .ok (.ireturn, 1) := by decide +kernel
theorem dX4_write_0 : decode cX4_write 0 = .ok (.aload_n 0, 1) := by decide +kernel
theorem dX4_write_1 : decode cX4_write 1 = .ok (.iload_n 1, 1) := by decide +kernel
theorem dX4_write_2 : decode cX4_write 2 = .ok (.invokevirtual 235, 3) := by decide +kernel
theorem dX4_write_5 : decode cX4_write 5 = .ok (.istore 5, 2) := by decide +kernel
theorem dX4_write_7 : decode cX4_write 7 = .ok (.iload 5, 2) := by decide +kernel
theorem dX4_write_9 : decode cX4_write 9 = .ok (.ifCond .eq 7, 3) := by decide +kernel
theorem dX4_write_12 : decode cX4_write 12 = .ok (.iload 5, 2) := by decide +kernel
theorem dX4_write_14 : decode cX4_write 14 = .ok (.i2l, 1) := by decide +kernel
theorem dX4_write_15 : decode cX4_write 15 = .ok (.lreturn, 1) := by decide +kernel
theorem dX4_write_16 : decode cX4_write 16 = .ok (.aload_n 0, 1) := by decide +kernel
theorem dX4_write_17 : decode cX4_write 17 = .ok (.getfield 38, 3) := by decide +kernel
theorem dX4_write_20 : decode cX4_write 20 = .ok (.iload_n 1, 1) := by decide +kernel
theorem dX4_write_21 : decode cX4_write 21 = .ok (.aaload, 1) := by decide +kernel
theorem dX4_write_22 : decode cX4_write 22 = .ok (.astore 6, 2) := by decide +kernel
theorem dX4_write_24 : decode cX4_write 24 = .ok (.iload_n 2, 1) := by decide +kernel
theorem dX4_write_25 : decode cX4_write 25 = .ok (.aload 6, 2) := by decide +kernel
theorem dX4_write_27 : decode cX4_write 27 = .ok (.getfield 234, 3) := by decide +kernel
theorem dX4_write_30 : decode cX4_write 30 = .ok (.invokestatic 69, 3) := by decide +kernel
theorem dX4_write_33 : decode cX4_write 33 = .ok (.ifCond .ne 10, 3) := by decide +kernel
theorem dX4_write_36 : decode cX4_write 36 = .ok (.aload_n 0, 1) := by decide +kernel
theorem dX4_write_37 : decode cX4_write 37 = .ok (.iconst 0, 1) := by decide +kernel
theorem dX4_write_38 : decode cX4_write 38 = .ok (.invokevirtual 58, 3) := by decide +kernel
theorem dX4_write_41 : decode cX4_write 41 = .ok (.i2l, 1) := by decide +kernel
theorem dX4_write_42 : decode cX4_write 42 = .ok (.lreturn, 1) := by decide +kernel
theorem dX4_write_43 : decode cX4_write 43 = .ok (.aload 6, 2) := by decide +kernel
theorem dX4_write_45 : decode cX4_write 45 = .ok (.getfield 238, 3) := by decide +kernel
theorem dX4_write_48 : decode cX4_write 48 = .ok (.iload_n 2, 1) := by decide +kernel
theorem dX4_write_49 : decode cX4_write 49 = .ok (.laload, 1) := by decide +kernel
theorem dX4_write_50 : decode cX4_write 50 = .ok (.lstore 7, 2) := by decide +kernel
theorem dX4_write_52 : decode cX4_write 52 = .ok (.aload 6, 2) := by decide +kernel
theorem dX4_write_54 : decode cX4_write 54 = .ok (.getfield 238, 3) := by decide +kernel
theorem dX4_write_57 : decode cX4_write 57 = .ok (.iload_n 2, 1) := by decide +kernel
theorem dX4_write_58 : decode cX4_write 58 = .ok (.aload 6, 2) := by decide +kernel
theorem dX4_write_60 : decode cX4_write 60 = .ok (.lload_n 3, 1) := by decide +kernel
theorem dX4_write_61 : decode cX4_write 61 = .ok (.invokevirtual 242, 3) := by decide +kernel
theorem dX4_write_64 : decode cX4_write 64 = .ok (.lastore, 1) := by decide +kernel
theorem dX4_write_65 : decode cX4_write 65 = .ok (.lload 7, 2) := by decide +kernel
theorem dX4_write_67 : decode cX4_write 67 = .ok (.lreturn, 1) := by decide +kernel
theorem dX4_copy_0 : decode cX4_copy 0 = .ok (.iload_n 1, 1) := by decide +kernel
theorem dX4_copy_1 : decode cX4_copy 1 = .ok (.iconst 4, 1) := by decide +kernel
theorem dX4_copy_2 : decode cX4_copy 2 = .ok (.invokestatic 69, 3) := by decide +kernel
theorem dX4_copy_5 : decode cX4_copy 5 = .ok (.ifCond .eq 11, 3) := by decide +kernel
theorem dX4_copy_8 : decode cX4_copy 8 = .ok (.iload_n 3, 1) := by decide +kernel
theorem dX4_copy_9 : decode cX4_copy 9 = .ok (.iconst 4, 1) := by decide +kernel
theorem dX4_copy_10 : decode cX4_copy 10 = .ok (.invokestatic 69, 3) := by decide +kernel
theorem dX4_copy_13 : decode cX4_copy 13 = .ok (.ifCond .ne 9, 3) := by decide +kernel
theorem dX4_copy_16 : decode cX4_copy 16 = .ok (.aload_n 0, 1) := by decide +kernel
theorem dX4_copy_17 : decode cX4_copy 17 = .ok (.iconst 0, 1) := by decide +kernel
theorem dX4_copy_18 : decode cX4_copy 18 = .ok (.invokevirtual 58, 3) := by decide +kernel
theorem dX4_copy_21 : decode cX4_copy 21 = .ok (.ireturn, 1) := by decide +kernel
theorem dX4_copy_22 : decode cX4_copy 22 = .ok (.aload_n 0, 1) := by decide +kernel
theorem dX4_copy_23 : decode cX4_copy 23 = .ok (.getfield 38, 3) := by decide +kernel
theorem dX4_copy_26 : decode cX4_copy 26 = .ok (.iload_n 1, 1) := by decide +kernel
theorem dX4_copy_27 : decode cX4_copy 27 = .ok (.aaload, 1) := by decide +kernel
theorem dX4_copy_28 : decode cX4_copy 28 = .ok (.astore 6, 2) := by decide +kernel
theorem dX4_copy_30 : decode cX4_copy 30 = .ok (.aload_n 0, 1) := by decide +kernel
theorem dX4_copy_31 : decode cX4_copy 31 = .ok (.getfield 38, 3) := by decide +kernel
theorem dX4_copy_34 : decode cX4_copy 34 = .ok (.iload_n 3, 1) := by decide +kernel
theorem dX4_copy_35 : decode cX4_copy 35 = .ok (.aaload, 1) := by decide +kernel
theorem dX4_copy_36 : decode cX4_copy 36 = .ok (.astore 7, 2) := by decide +kernel
theorem dX4_copy_38 : decode cX4_copy 38 = .ok (.aload 6, 2) := by decide +kernel
theorem dX4_copy_40 : decode cX4_copy 40 = .ok (.invokevirtual 246, 3) := by decide +kernel
theorem dX4_copy_43 : decode cX4_copy 43 = .ok (.ifCond .ne 11, 3) := by decide +kernel
theorem dX4_copy_46 : decode cX4_copy 46 = .ok (.aload 7, 2) := by decide +kernel
theorem dX4_copy_48 : decode cX4_copy 48 = .ok (.invokevirtual 246, 3) := by decide +kernel
theorem dX4_copy_51 : decode cX4_copy 51 = .ok (.ifCond .eq 9, 3) := by decide +kernel
theorem dX4_copy_54 : decode cX4_copy 54 = .ok (.aload_n 0, 1) := by decide +kernel
theorem dX4_copy_55 : decode cX4_copy 55 = .ok (.iconst 5, 1) := by decide +kernel
theorem dX4_copy_56 : decode cX4_copy 56 = .ok (.invokevirtual 58, 3) := by decide +kernel
theorem dX4_copy_59 : decode cX4_copy 59 = .ok (.ireturn, 1) := by decide +kernel
theorem dX4_copy_60 : decode cX4_copy 60 = .ok (.aload 6, 2) := by decide +kernel
theorem dX4_copy_62 : decode cX4_copy 62 = .ok (.getfield 249, 3) := by decide +kernel
theorem dX4_copy_65 : decode cX4_copy 65 = .ok (.aload 7, 2) := by decide +kernel
theorem dX4_copy_67 : decode cX4_copy 67 = .ok (.getfield 249, 3) := by decide +kernel
theorem dX4_copy_70 : decode cX4_copy 70 = .ok (.if_icmp .eq 9, 3) := by decide +kernel
theorem dX4_copy_73 : decode cX4_copy 73 = .ok (.aload_n 0, 1) := by decide +kernel
theorem dX4_copy_74 : decode cX4_copy 74 = .ok (.iconst 2, 1) := by decide +kernel
theorem dX4_copy_75 : decode cX4_copy 75 = .ok (.invokevirtual 58, 3) := by decide +kernel
theorem dX4_copy_78 : decode cX4_copy 78 = .ok (.ireturn, 1) := by decide +kernel
theorem dX4_copy_79 : decode cX4_copy 79 = .ok (.aload 6, 2) := by decide +kernel
theorem dX4_copy_81 : decode cX4_copy 81 = .ok (.iload_n 2, 1) := by decide +kernel
theorem dX4_copy_82 : decode cX4_copy 82 = .ok (.iload 5, 2) := by decide +kernel
theorem dX4_copy_84 : decode cX4_copy 84 = .ok (.invokevirtual 252, 3) := by decide +kernel
theorem dX4_copy_87 : decode cX4_copy 87 = .ok (.ifCond .eq 15, 3) := by decide +kernel
theorem dX4_copy_90 : decode cX4_copy 90 = .ok (.aload 7, 2) := by decide +kernel
theorem dX4_copy_92 : decode cX4_copy 92 = .ok (.iload 4, 2) := by decide +kernel
theorem dX4_copy_94 : decode cX4_copy 94 = .ok (.iload 5, 2) := by decide +kernel
theorem dX4_copy_96 : decode cX4_copy 96 = .ok (.invokevirtual 252, 3) := by decide +kernel
theorem dX4_copy_99 : decode cX4_copy 99 = .ok (.ifCond .ne 9, 3) := by decide +kernel
theorem dX4_copy_102 : decode cX4_copy 102 = .ok (.aload_n 0, 1) := by decide +kernel
theorem dX4_copy_103 : decode cX4_copy 103 = .ok (.iconst 0, 1) := by decide +kernel
theorem dX4_copy_104 : decode cX4_copy 104 = .ok (.invokevirtual 58, 3) := by decide +kernel
theorem dX4_copy_107 : decode cX4_copy 107 = .ok (.ireturn, 1) := by decide +kernel
theorem dX4_copy_108 : decode cX4_copy 108 = .ok (.aload 6, 2) := by decide +kernel
theorem dX4_copy_110 : decode cX4_copy 110 = .ok (.getfield 238, 3) := by decide +kernel
theorem dX4_copy_113 : decode cX4_copy 113 = .ok (.iload_n 2, 1) := by decide +kernel
theorem dX4_copy_114 : decode cX4_copy 114 = .ok (.aload 7, 2) := by decide +kernel
theorem dX4_copy_116 : decode cX4_copy 116 = .ok (.getfield 238, 3) := by decide +kernel
theorem dX4_copy_119 : decode cX4_copy 119 = .ok (.iload 4, 2) := by decide +kernel
theorem dX4_copy_121 : decode cX4_copy 121 = .ok (.iload 5, 2) := by decide +kernel
theorem dX4_copy_123 : decode cX4_copy 123 = .ok (.invokestatic 255, 3) := by decide +kernel
theorem dX4_copy_126 : decode cX4_copy 126 = .ok (.iload 5, 2) := by decide +kernel
theorem dX4_copy_128 : decode cX4_copy 128 = .ok (.ireturn, 1) := by decide +kernel
theorem dX4_lays_0 : decode cX4_lays 0 = .ok (.aload_n 0, 1) := by decide +kernel
theorem dX4_lays_1 : decode cX4_lays 1 = .ok (.iload_n 1, 1) := by decide +kernel
theorem dX4_lays_2 : decode cX4_lays 2 = .ok (.invokevirtual 235, 3) := by decide +kernel
theorem dX4_lays_5 : decode cX4_lays 5 = .ok (.istore_n 2, 1) := by decide +kernel
theorem dX4_lays_6 : decode cX4_lays 6 = .ok (.iload_n 2, 1) := by decide +kernel
theorem dX4_lays_7 : decode cX4_lays 7 = .ok (.ifCond .eq 5, 3) := by decide +kernel
theorem dX4_lays_10 : decode cX4_lays 10 = .ok (.iload_n 2, 1) := by decide +kernel
theorem dX4_lays_11 : decode cX4_lays 11 = .ok (.ireturn, 1) := by decide +kernel
theorem dX4_lays_12 : decode cX4_lays 12 = .ok (.aload_n 0, 1) := by decide +kernel
theorem dX4_lays_13 : decode cX4_lays 13 = .ok (.aload_n 0, 1) := by decide +kernel
theorem dX4_lays_14 : decode cX4_lays 14 = .ok (.getfield 38, 3) := by decide +kernel
theorem dX4_lays_17 : decode cX4_lays 17 = .ok (.iload_n 1, 1) := by decide +kernel
theorem dX4_lays_18 : decode cX4_lays 18 = .ok (.aaload, 1) := by decide +kernel
theorem dX4_lays_19 : decode cX4_lays 19 = .ok (.invokevirtual 261, 3) := by decide +kernel
theorem dX4_lays_22 : decode cX4_lays 22 = .ok (.ireturn, 1) := by decide +kernel
theorem dX4_book_0 : decode cX4_book 0 = .ok (.aload_n 0, 1) := by decide +kernel
theorem dX4_book_1 : decode cX4_book 1 = .ok (.iload_n 1, 1) := by decide +kernel
theorem dX4_book_2 : decode cX4_book 2 = .ok (.invokevirtual 235, 3) := by decide +kernel
theorem dX4_book_5 : decode cX4_book 5 = .ok (.istore_n 3, 1) := by decide +kernel
theorem dX4_book_6 : decode cX4_book 6 = .ok (.iload_n 3, 1) := by decide +kernel
theorem dX4_book_7 : decode cX4_book 7 = .ok (.ifCond .eq 5, 3) := by decide +kernel
theorem dX4_book_10 : decode cX4_book 10 = .ok (.iload_n 3, 1) := by decide +kernel
theorem dX4_book_11 : decode cX4_book 11 = .ok (.ireturn, 1) := by decide +kernel
theorem dX4_book_12 : decode cX4_book 12 = .ok (.aload_n 0, 1) := by decide +kernel
theorem dX4_book_13 : decode cX4_book 13 = .ok (.getfield 38, 3) := by decide +kernel
theorem dX4_book_16 : decode cX4_book 16 = .ok (.iload_n 1, 1) := by decide +kernel
theorem dX4_book_17 : decode cX4_book 17 = .ok (.aaload, 1) := by decide +kernel
theorem dX4_book_18 : decode cX4_book 18 = .ok (.astore 4, 2) := by decide +kernel
theorem dX4_book_20 : decode cX4_book 20 = .ok (.aload_n 0, 1) := by decide +kernel
theorem dX4_book_21 : decode cX4_book 21 = .ok (.getfield 12, 3) := by decide +kernel
theorem dX4_book_24 : decode cX4_book 24 = .ok (.iload_n 2, 1) := by decide +kernel
theorem dX4_book_25 : decode cX4_book 25 = .ok (.invokevirtual 101, 3) := by decide +kernel
theorem dX4_book_28 : decode cX4_book 28 = .ok (.ifCond .ne 9, 3) := by decide +kernel
theorem dX4_book_31 : decode cX4_book 31 = .ok (.aload_n 0, 1) := by decide +kernel
theorem dX4_book_32 : decode cX4_book 32 = .ok (.iconst 0, 1) := by decide +kernel
theorem dX4_book_33 : decode cX4_book 33 = .ok (.invokevirtual 58, 3) := by decide +kernel
theorem dX4_book_36 : decode cX4_book 36 = .ok (.ireturn, 1) := by decide +kernel
theorem dX4_book_37 : decode cX4_book 37 = .ok (.aload_n 0, 1) := by decide +kernel
theorem dX4_book_38 : decode cX4_book 38 = .ok (.getfield 16, 3) := by decide +kernel
theorem dX4_book_41 : decode cX4_book 41 = .ok (.aload_n 0, 1) := by decide +kernel
theorem dX4_book_42 : decode cX4_book 42 = .ok (.getfield 12, 3) := by decide +kernel
theorem dX4_book_45 : decode cX4_book 45 = .ok (.invokevirtual 163, 3) := by decide +kernel
theorem dX4_book_48 : decode cX4_book 48 = .ok (.iconst 0, 1) := by decide +kernel
theorem dX4_book_49 : decode cX4_book 49 = .ok (.istore 5, 2) := by decide +kernel
theorem dX4_book_51 : decode cX4_book 51 = .ok (.iload 5, 2) := by decide +kernel
theorem dX4_book_53 : decode cX4_book 53 = .ok (.aload 4, 2) := by decide +kernel
theorem dX4_book_55 : decode cX4_book 55 = .ok (.getfield 234, 3) := by decide +kernel
theorem dX4_book_58 : decode cX4_book 58 = .ok (.if_icmp .ge 35, 3) := by decide +kernel
theorem dX4_book_61 : decode cX4_book 61 = .ok (.aload 4, 2) := by decide +kernel
theorem dX4_book_63 : decode cX4_book 63 = .ok (.getfield 238, 3) := by decide +kernel
theorem dX4_book_66 : decode cX4_book 66 = .ok (.iload 5, 2) := by decide +kernel
theorem dX4_book_68 : decode cX4_book 68 = .ok (.aload_n 0, 1) := by decide +kernel
theorem dX4_book_69 : decode cX4_book 69 = .ok (.getfield 16, 3) := by decide +kernel
theorem dX4_book_72 : decode cX4_book 72 = .ok (.getfield 107, 3) := by decide +kernel
theorem dX4_book_75 : decode cX4_book 75 = .ok (.iload_n 2, 1) := by decide +kernel
theorem dX4_book_76 : decode cX4_book 76 = .ok (.iaload, 1) := by decide +kernel
theorem dX4_book_77 : decode cX4_book 77 = .ok (.i2l, 1) := by decide +kernel
theorem dX4_book_78 : decode cX4_book 78 = .ok (.lastore, 1) := by decide +kernel
theorem dX4_book_79 : decode cX4_book 79 = .ok (.aload_n 0, 1) := by decide +kernel
theorem dX4_book_80 : decode cX4_book 80 = .ok (.getfield 16, 3) := by decide +kernel
