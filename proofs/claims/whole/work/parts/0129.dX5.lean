theorem dX5_spread_86 : decode cX5_spread 86 = .ok (.bipush 6, 2) := by decide +kernel
theorem dX5_spread_88 : decode cX5_spread 88 = .ok (.iadd, 1) := by decide +kernel
theorem dX5_spread_89 : decode cX5_spread 89 = .ok (.ishl, 1) := by decide +kernel
theorem dX5_spread_90 : decode cX5_spread 90 = .ok (.goto 4, 3) := by decide +kernel
theorem dX5_spread_93 : decode cX5_spread 93 = .ok (.iconst 0, 1) := by decide +kernel
theorem dX5_spread_94 : decode cX5_spread 94 = .ok (.ior, 1) := by decide +kernel
theorem dX5_spread_95 : decode cX5_spread 95 = .ok (.istore_n 2, 1) := by decide +kernel
theorem dX5_spread_96 : decode cX5_spread 96 = .ok (.iinc 3 1, 3) := by decide +kernel
theorem dX5_spread_99 : decode cX5_spread 99 = .ok (.goto (-95), 3) := by decide +kernel
theorem dX5_spread_102 : decode cX5_spread 102 = .ok (.iload_n 2, 1) := by decide +kernel
theorem dX5_spread_103 : decode cX5_spread 103 = .ok (.aload_n 0, 1) := by decide +kernel
theorem dX5_spread_104 : decode cX5_spread 104 = .ok (.invokevirtual 188, 3) := by decide +kernel
theorem dX5_spread_107 : decode cX5_spread 107 = .ok (.iand, 1) := by decide +kernel
theorem dX5_spread_108 : decode cX5_spread 108 = .ok (.ireturn, 1) := by decide +kernel
theorem dX5_places_0 : decode cX5_places 0 = .ok (.iconst 0, 1) := by decide +kernel
theorem dX5_places_1 : decode cX5_places 1 = .ok (.istore_n 2, 1) := by decide +kernel
theorem dX5_places_2 : decode cX5_places 2 = .ok (.iconst 0, 1) := by decide +kernel
theorem dX5_places_3 : decode cX5_places 3 = .ok (.istore_n 3, 1) := by decide +kernel
theorem dX5_places_4 : decode cX5_places 4 = .ok (.iload_n 3, 1) := by decide +kernel
theorem dX5_places_5 : decode cX5_places 5 = .ok (.aload_n 0, 1) := by decide +kernel
theorem dX5_places_6 : decode cX5_places 6 = .ok (.getfield 7, 3) := by decide +kernel
theorem dX5_places_9 : decode cX5_places 9 = .ok (.iconst 1, 1) := by decide +kernel
theorem dX5_places_10 : decode cX5_places 10 = .ok (.iaload, 1) := by decide +kernel
theorem dX5_places_11 : decode cX5_places 11 = .ok (.if_icmp .ge 29, 3) := by decide +kernel
theorem dX5_places_14 : decode cX5_places 14 = .ok (.iload_n 2, 1) := by decide +kernel
theorem dX5_places_15 : decode cX5_places 15 = .ok (.aload_n 0, 1) := by decide +kernel
theorem dX5_places_16 : decode cX5_places 16 = .ok (.iload_n 3, 1) := by decide +kernel
theorem dX5_places_17 : decode cX5_places 17 = .ok (.iconst 2, 1) := by decide +kernel
theorem dX5_places_18 : decode cX5_places 18 = .ok (.invokevirtual 83, 3) := by decide +kernel
theorem dX5_places_21 : decode cX5_places 21 = .ok (.iload_n 1, 1) := by decide +kernel
theorem dX5_places_22 : decode cX5_places 22 = .ok (.ishr, 1) := by decide +kernel
theorem dX5_places_23 : decode cX5_places 23 = .ok (.iconst 1, 1) := by decide +kernel
theorem dX5_places_24 : decode cX5_places 24 = .ok (.iand, 1) := by decide +kernel
theorem dX5_places_25 : decode cX5_places 25 = .ok (.aload_n 0, 1) := by decide +kernel
theorem dX5_places_26 : decode cX5_places 26 = .ok (.iload_n 3, 1) := by decide +kernel
theorem dX5_places_27 : decode cX5_places 27 = .ok (.iconst 1, 1) := by decide +kernel
theorem dX5_places_28 : decode cX5_places 28 = .ok (.invokevirtual 83, 3) := by decide +kernel
theorem dX5_places_31 : decode cX5_places 31 = .ok (.ishl, 1) := by decide +kernel
theorem dX5_places_32 : decode cX5_places 32 = .ok (.ior, 1) := by decide +kernel
theorem dX5_places_33 : decode cX5_places 33 = .ok (.istore_n 2, 1) := by decide +kernel
theorem dX5_places_34 : decode cX5_places 34 = .ok (.iinc 3 1, 3) := by decide +kernel
theorem dX5_places_37 : decode cX5_places 37 = .ok (.goto (-33), 3) := by decide +kernel
theorem dX5_places_40 : decode cX5_places 40 = .ok (.iload_n 2, 1) := by decide +kernel
theorem dX5_places_41 : decode cX5_places 41 = .ok (.ireturn, 1) := by decide +kernel
theorem dX5_soonestOf_0 : decode cX5_soonestOf 0 = .ok (.aload_n 0, 1) := by decide +kernel
theorem dX5_soonestOf_1 : decode cX5_soonestOf 1 = .ok (.invokevirtual 172, 3) := by decide +kernel
theorem dX5_soonestOf_4 : decode cX5_soonestOf 4 = .ok (.iconst 1, 1) := by decide +kernel
theorem dX5_soonestOf_5 : decode cX5_soonestOf 5 = .ok (.iload_n 1, 1) := by decide +kernel
theorem dX5_soonestOf_6 : decode cX5_soonestOf 6 = .ok (.ishl, 1) := by decide +kernel
theorem dX5_soonestOf_7 : decode cX5_soonestOf 7 = .ok (.istore_n 3, 1) := by decide +kernel
theorem dX5_soonestOf_8 : decode cX5_soonestOf 8 = .ok (.iconst (-1), 1) := by decide +kernel
theorem dX5_soonestOf_9 : decode cX5_soonestOf 9 = .ok (.istore 4, 2) := by decide +kernel
theorem dX5_soonestOf_11 : decode cX5_soonestOf 11 = .ok (.iconst 0, 1) := by decide +kernel
theorem dX5_soonestOf_12 : decode cX5_soonestOf 12 = .ok (.istore 5, 2) := by decide +kernel
theorem dX5_soonestOf_14 : decode cX5_soonestOf 14 = .ok (.iload 5, 2) := by decide +kernel
theorem dX5_soonestOf_16 : decode cX5_soonestOf 16 = .ok (.bipush 48, 2) := by decide +kernel
theorem dX5_soonestOf_18 : decode cX5_soonestOf 18 = .ok (.if_icmp .gt 50, 3) := by decide +kernel
theorem dX5_soonestOf_21 : decode cX5_soonestOf 21 = .ok (.iload 4, 2) := by decide +kernel
theorem dX5_soonestOf_23 : decode cX5_soonestOf 23 = .ok (.ifCond .ge 45, 3) := by decide +kernel
theorem dX5_soonestOf_26 : decode cX5_soonestOf 26 = .ok (.aload_n 0, 1) := by decide +kernel
theorem dX5_soonestOf_27 : decode cX5_soonestOf 27 = .ok (.iload_n 3, 1) := by decide +kernel
theorem dX5_soonestOf_28 : decode cX5_soonestOf 28 = .ok (.aload_n 0, 1) := by decide +kernel
theorem dX5_soonestOf_29 : decode cX5_soonestOf 29 = .ok (.iload_n 2, 1) := by decide +kernel
theorem dX5_soonestOf_30 : decode cX5_soonestOf 30 = .ok (.invokevirtual 191, 3) := by decide +kernel
theorem dX5_soonestOf_33 : decode cX5_soonestOf 33 = .ok (.iand, 1) := by decide +kernel
theorem dX5_soonestOf_34 : decode cX5_soonestOf 34 = .ok (.putfield 194, 3) := by decide +kernel
theorem dX5_soonestOf_37 : decode cX5_soonestOf 37 = .ok (.aload_n 0, 1) := by decide +kernel
theorem dX5_soonestOf_38 : decode cX5_soonestOf 38 = .ok (.getfield 194, 3) := by decide +kernel
theorem dX5_soonestOf_41 : decode cX5_soonestOf 41 = .ok (.ifCond .eq 8, 3) := by decide +kernel
theorem dX5_soonestOf_44 : decode cX5_soonestOf 44 = .ok (.iload 5, 2) := by decide +kernel
theorem dX5_soonestOf_46 : decode cX5_soonestOf 46 = .ok (.goto 4, 3) := by decide +kernel
theorem dX5_soonestOf_49 : decode cX5_soonestOf 49 = .ok (.iconst (-1), 1) := by decide +kernel
theorem dX5_soonestOf_50 : decode cX5_soonestOf 50 = .ok (.istore 4, 2) := by decide +kernel
theorem dX5_soonestOf_52 : decode cX5_soonestOf 52 = .ok (.aload_n 0, 1) := by decide +kernel
theorem dX5_soonestOf_53 : decode cX5_soonestOf 53 = .ok (.iload_n 3, 1) := by decide +kernel
theorem dX5_soonestOf_54 : decode cX5_soonestOf 54 = .ok (.invokevirtual 198, 3) := by decide +kernel
theorem dX5_soonestOf_57 : decode cX5_soonestOf 57 = .ok (.istore_n 3, 1) := by decide +kernel
theorem dX5_soonestOf_58 : decode cX5_soonestOf 58 = .ok (.aload_n 0, 1) := by decide +kernel
theorem dX5_soonestOf_59 : decode cX5_soonestOf 59 = .ok (.invokevirtual 155, 3) := by decide +kernel
theorem dX5_soonestOf_62 : decode cX5_soonestOf 62 = .ok (.iinc 5 1, 3) := by decide +kernel
theorem dX5_soonestOf_65 : decode cX5_soonestOf 65 = .ok (.goto (-51), 3) := by decide +kernel
theorem dX5_soonestOf_68 : decode cX5_soonestOf 68 = .ok (.aload_n 0, 1) := by decide +kernel
theorem dX5_soonestOf_69 : decode cX5_soonestOf 69 = .ok (.iload 4, 2) := by decide +kernel
theorem dX5_soonestOf_71 : decode cX5_soonestOf 71 = .ok (.invokevirtual 175, 3) := by decide +kernel
theorem dX5_soonestOf_74 : decode cX5_soonestOf 74 = .ok (.ireturn, 1) := by decide +kernel
theorem dX5_wrongReader_0 : decode cX5_wrongReader 0 = .ok (.iload_n 1, 1) := by decide +kernel
theorem dX5_wrongReader_1 : decode cX5_wrongReader 1 = .ok (.invokestatic 62, 3) := by decide +kernel
theorem dX5_wrongReader_4 : decode cX5_wrongReader 4 = .ok (.ifCond .eq 10, 3) := by decide +kernel
theorem dX5_wrongReader_7 : decode cX5_wrongReader 7 = .ok (.iload_n 2, 1) := by decide +kernel
theorem dX5_wrongReader_8 : decode cX5_wrongReader 8 = .ok (.invokestatic 133, 3) := by decide +kernel
theorem dX5_wrongReader_11 : decode cX5_wrongReader 11 = .ok (.ifCond .ne 8, 3) := by decide +kernel
theorem dX5_wrongReader_14 : decode cX5_wrongReader 14 = .ok (.ldc 41, 2) := by decide +kernel
theorem dX5_wrongReader_16 : decode cX5_wrongReader 16 = .ok (.goto 17, 3) := by decide +kernel
theorem dX5_wrongReader_19 : decode cX5_wrongReader 19 = .ok (.aload_n 0, 1) := by decide +kernel
theorem dX5_wrongReader_20 : decode cX5_wrongReader 20 = .ok (.iload_n 1, 1) := by decide +kernel
theorem dX5_wrongReader_21 : decode cX5_wrongReader 21 = .ok (.invokevirtual 69, 3) := by decide +kernel
theorem dX5_wrongReader_24 : decode cX5_wrongReader 24 = .ok (.ifCond .eq 8, 3) := by decide +kernel
theorem dX5_wrongReader_27 : decode cX5_wrongReader 27 = .ok (.ldc 136, 2) := by decide +kernel
theorem dX5_wrongReader_29 : decode cX5_wrongReader 29 = .ok (.goto 4, 3) := by decide +kernel
theorem dX5_wrongReader_32 : decode cX5_wrongReader 32 = .ok (.iconst 0, 1) := by decide +kernel
theorem dX5_wrongReader_33 : decode cX5_wrongReader 33 = .ok (.ireturn, 1) := by decide +kernel
theorem dX5_soonest_0 : decode cX5_soonest 0 = .ok (.aload_n 0, 1) := by decide +kernel
theorem dX5_soonest_1 : decode cX5_soonest 1 = .ok (.iload_n 1, 1) := by decide +kernel
theorem dX5_soonest_2 : decode cX5_soonest 2 = .ok (.iload_n 2, 1) := by decide +kernel
theorem dX5_soonest_3 : decode cX5_soonest 3 = .ok (.invokevirtual 201, 3) := by decide +kernel
theorem dX5_soonest_6 : decode cX5_soonest 6 = .ok (.istore_n 3, 1) := by decide +kernel
theorem dX5_soonest_7 : decode cX5_soonest 7 = .ok (.iload_n 3, 1) := by decide +kernel
theorem dX5_soonest_8 : decode cX5_soonest 8 = .ok (.ifCond .eq 11, 3) := by decide +kernel
theorem dX5_soonest_11 : decode cX5_soonest 11 = .ok (.aload_n 0, 1) := by decide +kernel
theorem dX5_soonest_12 : decode cX5_soonest 12 = .ok (.iload_n 3, 1) := by decide +kernel
theorem dX5_soonest_13 : decode cX5_soonest 13 = .ok (.invokevirtual 65, 3) := by decide +kernel
theorem dX5_soonest_16 : decode cX5_soonest 16 = .ok (.goto 15, 3) := by decide +kernel
theorem dX5_soonest_19 : decode cX5_soonest 19 = .ok (.aload_n 0, 1) := by decide +kernel
theorem dX5_soonest_20 : decode cX5_soonest 20 = .ok (.aload_n 0, 1) := by decide +kernel
theorem dX5_soonest_21 : decode cX5_soonest 21 = .ok (.iload_n 1, 1) := by decide +kernel
theorem dX5_soonest_22 : decode cX5_soonest 22 = .ok (.iload_n 2, 1) := by decide +kernel
theorem dX5_soonest_23 : decode cX5_soonest 23 = .ok (.invokevirtual 204, 3) := by decide +kernel
theorem dX5_soonest_26 : decode cX5_soonest 26 = .ok (.bipush 48, 2) := by decide +kernel
theorem dX5_soonest_28 : decode cX5_soonest 28 = .ok (.invokevirtual 181, 3) := by decide +kernel
theorem dX5_soonest_31 : decode cX5_soonest 31 = .ok (.ireturn, 1) := by decide +kernel
theorem dX5_where_0 : decode cX5_where 0 = .ok (.aload_n 0, 1) := by decide +kernel
theorem dX5_where_1 : decode cX5_where 1 = .ok (.iload_n 1, 1) := by decide +kernel
theorem dX5_where_2 : decode cX5_where 2 = .ok (.iload_n 2, 1) := by decide +kernel
theorem dX5_where_3 : decode cX5_where 3 = .ok (.invokevirtual 201, 3) := by decide +kernel
theorem dX5_where_6 : decode cX5_where 6 = .ok (.istore_n 3, 1) := by decide +kernel
theorem dX5_where_7 : decode cX5_where 7 = .ok (.iload_n 3, 1) := by decide +kernel
theorem dX5_where_8 : decode cX5_where 8 = .ok (.ifCond .eq 9, 3) := by decide +kernel
theorem dX5_where_11 : decode cX5_where 11 = .ok (.aload_n 0, 1) := by decide +kernel
theorem dX5_where_12 : decode cX5_where 12 = .ok (.iload_n 3, 1) := by decide +kernel
theorem dX5_where_13 : decode cX5_where 13 = .ok (.invokevirtual 65, 3) := by decide +kernel
theorem dX5_where_16 : decode cX5_where 16 = .ok (.ireturn, 1) := by decide +kernel
theorem dX5_where_17 : decode cX5_where 17 = .ok (.aload_n 0, 1) := by decide +kernel
theorem dX5_where_18 : decode cX5_where 18 = .ok (.iload_n 1, 1) := by decide +kernel
theorem dX5_where_19 : decode cX5_where 19 = .ok (.iload_n 2, 1) := by decide +kernel
theorem dX5_where_20 : decode cX5_where 20 = .ok (.invokevirtual 204, 3) := by decide +kernel
theorem dX5_where_23 : decode cX5_where 23 = .ok (.ifCond .ge 10, 3) := by decide +kernel
theorem dX5_where_26 : decode cX5_where 26 = .ok (.aload_n 0, 1) := by decide +kernel
theorem dX5_where_27 : decode cX5_where 27 = .ok (.ldc 137, 2) := by decide +kernel
theorem dX5_where_29 : decode cX5_where 29 = .ok (.invokevirtual 65, 3) := by decide +kernel
theorem dX5_where_32 : decode cX5_where 32 = .ok (.ireturn, 1) := by decide +kernel
theorem dX5_where_33 : decode cX5_where 33 = .ok (.iconst 0, 1) := by decide +kernel
theorem dX5_where_34 : decode cX5_where 34 = .ok (.istore 4, 2) := by decide +kernel
theorem dX5_where_36 : decode cX5_where 36 = .ok (.aload_n 0, 1) := by decide +kernel
theorem dX5_where_37 : decode cX5_where 37 = .ok (.getfield 194, 3) := by decide +kernel
theorem dX5_where_40 : decode cX5_where 40 = .ok (.iload 4, 2) := by decide +kernel
theorem dX5_where_42 : decode cX5_where 42 = .ok (.ishr, 1) := by decide +kernel
theorem dX5_where_43 : decode cX5_where 43 = .ok (.iconst 1, 1) := by decide +kernel
theorem dX5_where_44 : decode cX5_where 44 = .ok (.iand, 1) := by decide +kernel
theorem dX5_where_45 : decode cX5_where 45 = .ok (.ifCond .ne 9, 3) := by decide +kernel
theorem dX5_where_48 : decode cX5_where 48 = .ok (.iinc 4 1, 3) := by decide +kernel
theorem dX5_where_51 : decode cX5_where 51 = .ok (.goto (-15), 3) := by decide +kernel
theorem dX5_where_54 : decode cX5_where 54 = .ok (.iload 4, 2) := by decide +kernel
theorem dX5_where_56 : decode cX5_where 56 = .ok (.ireturn, 1) := by decide +kernel
theorem dX5_waits_0 : decode cX5_waits 0 = .ok (.aload_n 0, 1) := by decide +kernel
theorem dX5_waits_1 : decode cX5_waits 1 = .ok (.iload_n 1, 1) := by decide +kernel
theorem dX5_waits_2 : decode cX5_waits 2 = .ok (.iload_n 2, 1) := by decide +kernel
theorem dX5_waits_3 : decode cX5_waits 3 = .ok (.invokevirtual 201, 3) := by decide +kernel
theorem dX5_waits_6 : decode cX5_waits 6 = .ok (.istore_n 3, 1) := by decide +kernel
theorem dX5_waits_7 : decode cX5_waits 7 = .ok (.iload_n 3, 1) := by decide +kernel
theorem dX5_waits_8 : decode cX5_waits 8 = .ok (.ifCond .eq 9, 3) := by decide +kernel
theorem dX5_waits_11 : decode cX5_waits 11 = .ok (.aload_n 0, 1) := by decide +kernel
theorem dX5_waits_12 : decode cX5_waits 12 = .ok (.iload_n 3, 1) := by decide +kernel
theorem dX5_waits_13 : decode cX5_waits 13 = .ok (.invokevirtual 65, 3) := by decide +kernel
theorem dX5_waits_16 : decode cX5_waits 16 = .ok (.ireturn, 1) := by decide +kernel
theorem dX5_waits_17 : decode cX5_waits 17 = .ok (.aload_n 0, 1) := by decide +kernel
theorem dX5_waits_18 : decode cX5_waits 18 = .ok (.invokevirtual 172, 3) := by decide +kernel
theorem dX5_waits_21 : decode cX5_waits 21 = .ok (.iconst 0, 1) := by decide +kernel
theorem dX5_waits_22 : decode cX5_waits 22 = .ok (.istore 4, 2) := by decide +kernel
theorem dX5_waits_24 : decode cX5_waits 24 = .ok (.iload 4, 2) := by decide +kernel
theorem dX5_waits_26 : decode cX5_waits 26 = .ok (.bipush 48, 2) := by decide +kernel
theorem dX5_waits_28 : decode cX5_waits 28 = .ok (.if_icmp .gt 25, 3) := by decide +kernel
theorem dX5_waits_31 : decode cX5_waits 31 = .ok (.aload_n 0, 1) := by decide +kernel
theorem dX5_waits_32 : decode cX5_waits 32 = .ok (.iload_n 2, 1) := by decide +kernel
theorem dX5_waits_33 : decode cX5_waits 33 = .ok (.invokevirtual 191, 3) := by decide +kernel
theorem dX5_waits_36 : decode cX5_waits 36 = .ok (.iload_n 1, 1) := by decide +kernel
theorem dX5_waits_37 : decode cX5_waits 37 = .ok (.ishr, 1) := by decide +kernel
theorem dX5_waits_38 : decode cX5_waits 38 = .ok (.iconst 1, 1) := by decide +kernel
theorem dX5_waits_39 : decode cX5_waits 39 = .ok (.iand, 1) := by decide +kernel
theorem dX5_waits_40 : decode cX5_waits 40 = .ok (.ifCond .ne 13, 3) := by decide +kernel
theorem dX5_waits_43 : decode cX5_waits 43 = .ok (.aload_n 0, 1) := by decide +kernel
theorem dX5_waits_44 : decode cX5_waits 44 = .ok (.invokevirtual 155, 3) := by decide +kernel
theorem dX5_waits_47 : decode cX5_waits 47 = .ok (.iinc 4 1, 3) := by decide +kernel
theorem dX5_waits_50 : decode cX5_waits 50 = .ok (.goto (-26), 3) := by decide +kernel
theorem dX5_waits_53 : decode cX5_waits 53 = .ok (.aload_n 0, 1) := by decide +kernel
theorem dX5_waits_54 : decode cX5_waits 54 = .ok (.aload_n 0, 1) := by decide +kernel
theorem dX5_waits_55 : decode cX5_waits 55 = .ok (.iload 4, 2) := by decide +kernel
theorem dX5_waits_57 : decode cX5_waits 57 = .ok (.invokevirtual 175, 3) := by decide +kernel
theorem dX5_waits_60 : decode cX5_waits 60 = .ok (.bipush 48, 2) := by decide +kernel
theorem dX5_waits_62 : decode cX5_waits 62 = .ok (.invokevirtual 181, 3) := by decide +kernel
theorem dX5_waits_65 : decode cX5_waits 65 = .ok (.ireturn, 1) := by decide +kernel
theorem dX5_waterhole_0 : decode cX5_waterhole 0 = .ok (.iload_n 1, 1) := by decide +kernel
theorem dX5_waterhole_1 : decode cX5_waterhole 1 = .ok (.invokestatic 133, 3) := by decide +kernel
theorem dX5_waterhole_4 : decode cX5_waterhole 4 = .ok (.ifCond .ne 10, 3) := by decide +kernel
theorem dX5_waterhole_7 : decode cX5_waterhole 7 = .ok (.aload_n 0, 1) := by decide +kernel
theorem dX5_waterhole_8 : decode cX5_waterhole 8 = .ok (.ldc 41, 2) := by decide +kernel
theorem dX5_waterhole_10 : decode cX5_waterhole 10 = .ok (.invokevirtual 65, 3) := by decide +kernel
theorem dX5_waterhole_13 : decode cX5_waterhole 13 = .ok (.ireturn, 1) := by decide +kernel
theorem dX5_waterhole_14 : decode cX5_waterhole 14 = .ok (.aload_n 0, 1) := by decide +kernel
theorem dX5_waterhole_15 : decode cX5_waterhole 15 = .ok (.invokevirtual 172, 3) := by decide +kernel
theorem dX5_waterhole_18 : decode cX5_waterhole 18 = .ok (.iconst (-1), 1) := by decide +kernel
theorem dX5_waterhole_19 : decode cX5_waterhole 19 = .ok (.istore_n 2, 1) := by decide +kernel
theorem dX5_waterhole_20 : decode cX5_waterhole 20 = .ok (.iconst 0, 1) := by decide +kernel
theorem dX5_waterhole_21 : decode cX5_waterhole 21 = .ok (.istore_n 3, 1) := by decide +kernel
theorem dX5_waterhole_22 : decode cX5_waterhole 22 = .ok (.iload_n 3, 1) := by decide +kernel
theorem dX5_waterhole_23 : decode cX5_waterhole 23 = .ok (.bipush 48, 2) := by decide +kernel
theorem dX5_waterhole_25 : decode cX5_waterhole 25 = .ok (.if_icmp .gt 62, 3) := by decide +kernel
theorem dX5_waterhole_28 : decode cX5_waterhole 28 = .ok (.iload_n 2, 1) := by decide +kernel
theorem dX5_waterhole_29 : decode cX5_waterhole 29 = .ok (.ifCond .ge 58, 3) := by decide +kernel
theorem dX5_waterhole_32 : decode cX5_waterhole 32 = .ok (.aload_n 0, 1) := by decide +kernel
theorem dX5_waterhole_33 : decode cX5_waterhole 33 = .ok (.iload_n 1, 1) := by decide +kernel
theorem dX5_waterhole_34 : decode cX5_waterhole 34 = .ok (.invokevirtual 191, 3) := by decide +kernel
theorem dX5_waterhole_37 : decode cX5_waterhole 37 = .ok (.aload_n 0, 1) := by decide +kernel
theorem dX5_waterhole_38 : decode cX5_waterhole 38 = .ok (.invokevirtual 188, 3) := by decide +kernel
theorem dX5_waterhole_41 : decode cX5_waterhole 41 = .ok (.iand, 1) := by decide +kernel
theorem dX5_waterhole_42 : decode cX5_waterhole 42 = .ok (.istore 4, 2) := by decide +kernel
theorem dX5_waterhole_44 : decode cX5_waterhole 44 = .ok (.bipush 29, 2) := by decide +kernel
theorem dX5_waterhole_46 : decode cX5_waterhole 46 = .ok (.istore 5, 2) := by decide +kernel
theorem dX5_waterhole_48 : decode cX5_waterhole 48 = .ok (.iload 5, 2) := by decide +kernel
theorem dX5_waterhole_50 : decode cX5_waterhole 50 = .ok (.ifCond .lt 27, 3) := by decide +kernel
theorem dX5_waterhole_53 : decode cX5_waterhole 53 = .ok (.iload 4, 2) := by decide +kernel
theorem dX5_waterhole_55 : decode cX5_waterhole 55 = .ok (.iload 5, 2) := by decide +kernel
theorem dX5_waterhole_57 : decode cX5_waterhole 57 = .ok (.ishr, 1) := by decide +kernel
theorem dX5_waterhole_58 : decode cX5_waterhole 58 = .ok (.iconst 1, 1) := by decide +kernel
theorem dX5_waterhole_59 : decode cX5_waterhole 59 = .ok (.iand, 1) := by decide +kernel
theorem dX5_waterhole_60 : decode cX5_waterhole 60 = .ok (.iconst 1, 1) := by decide +kernel
theorem dX5_waterhole_61 : decode cX5_waterhole 61 = .ok (.if_icmp .ne 8, 3) := by decide +kernel
theorem dX5_waterhole_64 : decode cX5_waterhole 64 = .ok (.iload 5, 2) := by decide +kernel
theorem dX5_waterhole_66 : decode cX5_waterhole 66 = .ok (.goto 4, 3) := by decide +kernel
theorem dX5_waterhole_69 : decode cX5_waterhole 69 = .ok (.iload_n 2, 1) := by decide +kernel
theorem dX5_waterhole_70 : decode cX5_waterhole 70 = .ok (.istore_n 2, 1) := by decide +kernel
theorem dX5_waterhole_71 : decode cX5_waterhole 71 = .ok (.iinc 5 (-1), 3) := by decide +kernel
theorem dX5_waterhole_74 : decode cX5_waterhole 74 = .ok (.goto (-26), 3) := by decide +kernel
theorem dX5_waterhole_77 : decode cX5_waterhole 77 = .ok (.aload_n 0, 1) := by decide +kernel
theorem dX5_waterhole_78 : decode cX5_waterhole 78 = .ok (.invokevirtual 155, 3) := by decide +kernel
theorem dX5_waterhole_81 : decode cX5_waterhole 81 = .ok (.iinc 3 1, 3) := by decide +kernel
theorem dX5_waterhole_84 : decode cX5_waterhole 84 = .ok (.goto (-62), 3) := by decide +kernel
theorem dX5_waterhole_87 : decode cX5_waterhole 87 = .ok (.aload_n 0, 1) := by decide +kernel
theorem dX5_waterhole_88 : decode cX5_waterhole 88 = .ok (.aload_n 0, 1) := by decide +kernel
theorem dX5_waterhole_89 : decode cX5_waterhole 89 = .ok (.iload_n 2, 1) := by decide +kernel
theorem dX5_waterhole_90 : decode cX5_waterhole 90 = .ok (.invokevirtual 175, 3) := by decide +kernel
theorem dX5_waterhole_93 : decode cX5_waterhole 93 = .ok (.bipush 30, 2) := by decide +kernel
theorem dX5_waterhole_95 : decode cX5_waterhole 95 = .ok (.invokevirtual 181, 3) := by decide +kernel
theorem dX5_waterhole_98 : decode cX5_waterhole 98 = .ok (.ireturn, 1) := by decide +kernel
theorem dX5_many_0 : decode cX5_many 0 = .ok (.iload_n 1, 1) := by decide +kernel
theorem dX5_many_1 : decode cX5_many 1 = .ok (.invokestatic 62, 3) := by decide +kernel
theorem dX5_many_4 : decode cX5_many 4 = .ok (.ifCond .eq 15, 3) := by decide +kernel
theorem dX5_many_7 : decode cX5_many 7 = .ok (.iload_n 2, 1) := by decide +kernel
theorem dX5_many_8 : decode cX5_many 8 = .ok (.i2l, 1) := by decide +kernel
theorem dX5_many_9 : decode cX5_many 9 = .ok (.lconst 0, 1) := by decide +kernel
theorem dX5_many_10 : decode cX5_many 10 = .ok (.ldc2_w 207, 3) := by decide +kernel
theorem dX5_many_13 : decode cX5_many 13 = .ok (.invokestatic 44, 3) := by decide +kernel
theorem dX5_many_16 : decode cX5_many 16 = .ok (.ifCond .ne 10, 3) := by decide +kernel
theorem dX5_many_19 : decode cX5_many 19 = .ok (.aload_n 0, 1) := by decide +kernel
theorem dX5_many_20 : decode cX5_many 20 = .ok (.ldc 41, 2) := by decide +kernel
theorem dX5_many_22 : decode cX5_many 22 = .ok (.invokevirtual 65, 3) := by decide +kernel
theorem dX5_many_25 : decode cX5_many 25 = .ok (.ireturn, 1) := by decide +kernel
theorem dX5_many_26 : decode cX5_many 26 = .ok (.aload_n 0, 1) := by decide +kernel
theorem dX5_many_27 : decode cX5_many 27 = .ok (.iload_n 1, 1) := by decide +kernel
theorem dX5_many_28 : decode cX5_many 28 = .ok (.invokevirtual 69, 3) := by decide +kernel
theorem dX5_many_31 : decode cX5_many 31 = .ok (.ifCond .eq 10, 3) := by decide +kernel
theorem dX5_many_34 : decode cX5_many 34 = .ok (.aload_n 0, 1) := by decide +kernel
theorem dX5_many_35 : decode cX5_many 35 = .ok (.ldc 136, 2) := by decide +kernel
theorem dX5_many_37 : decode cX5_many 37 = .ok (.invokevirtual 65, 3) := by decide +kernel
theorem dX5_many_40 : decode cX5_many 40 = .ok (.ireturn, 1) := by decide +kernel
theorem dX5_many_41 : decode cX5_many 41 = .ok (.iconst 0, 1) := by decide +kernel
theorem dX5_many_42 : decode cX5_many 42 = .ok (.istore_n 3, 1) := by decide +kernel
theorem dX5_many_43 : decode cX5_many 43 = .ok (.iconst 0, 1) := by decide +kernel
theorem dX5_many_44 : decode cX5_many 44 = .ok (.istore 4, 2) := by decide +kernel
theorem dX5_many_46 : decode cX5_many 46 = .ok (.iload 4, 2) := by decide +kernel
theorem dX5_many_48 : decode cX5_many 48 = .ok (.bipush 12, 2) := by decide +kernel
theorem dX5_many_50 : decode cX5_many 50 = .ok (.if_icmp .ge 34, 3) := by decide +kernel
theorem dX5_many_53 : decode cX5_many 53 = .ok (.iload_n 3, 1) := by decide +kernel
theorem dX5_many_54 : decode cX5_many 54 = .ok (.aload_n 0, 1) := by decide +kernel
theorem dX5_many_55 : decode cX5_many 55 = .ok (.iload_n 1, 1) := by decide +kernel
theorem dX5_many_56 : decode cX5_many 56 = .ok (.iload 4, 2) := by decide +kernel
theorem dX5_many_58 : decode cX5_many 58 = .ok (.invokevirtual 204, 3) := by decide +kernel
theorem dX5_many_61 : decode cX5_many 61 = .ok (.i2l, 1) := by decide +kernel
theorem dX5_many_62 : decode cX5_many 62 = .ok (.lconst 0, 1) := by decide +kernel
theorem dX5_many_63 : decode cX5_many 63 = .ok (.iload_n 2, 1) := by decide +kernel
theorem dX5_many_64 : decode cX5_many 64 = .ok (.i2l, 1) := by decide +kernel
theorem dX5_many_65 : decode cX5_many 65 = .ok (.invokestatic 44, 3) := by decide +kernel
theorem dX5_many_68 : decode cX5_many 68 = .ok (.ifCond .eq 7, 3) := by decide +kernel
theorem dX5_many_71 : decode cX5_many 71 = .ok (.iconst 1, 1) := by decide +kernel
theorem dX5_many_72 : decode cX5_many 72 = .ok (.goto 4, 3) := by decide +kernel
theorem dX5_many_75 : decode cX5_many 75 = .ok (.iconst 0, 1) := by decide +kernel
theorem dX5_many_76 : decode cX5_many 76 = .ok (.iadd, 1) := by decide +kernel
theorem dX5_many_77 : decode cX5_many 77 = .ok (.istore_n 3, 1) := by decide +kernel
theorem dX5_many_78 : decode cX5_many 78 = .ok (.iinc 4 1, 3) := by decide +kernel
theorem dX5_many_81 : decode cX5_many 81 = .ok (.goto (-35), 3) := by decide +kernel
theorem dX5_many_84 : decode cX5_many 84 = .ok (.iload_n 3, 1) := by decide +kernel
theorem dX5_many_85 : decode cX5_many 85 = .ok (.ireturn, 1) := by decide +kernel
theorem dX5_both_0 : decode cX5_both 0 = .ok (.aload_n 0, 1) := by decide +kernel
theorem dX5_both_1 : decode cX5_both 1 = .ok (.iload_n 1, 1) := by decide +kernel
theorem dX5_both_2 : decode cX5_both 2 = .ok (.iload_n 2, 1) := by decide +kernel
theorem dX5_both_3 : decode cX5_both 3 = .ok (.invokevirtual 201, 3) := by decide +kernel
theorem dX5_both_6 : decode cX5_both 6 = .ok (.istore 4, 2) := by decide +kernel
theorem dX5_both_8 : decode cX5_both 8 = .ok (.iload 4, 2) := by decide +kernel
theorem dX5_both_10 : decode cX5_both 10 = .ok (.ldc 41, 2) := by decide +kernel
theorem dX5_both_12 : decode cX5_both 12 = .ok (.if_icmp .eq 15, 3) := by decide +kernel
theorem dX5_both_15 : decode cX5_both 15 = .ok (.iload_n 3, 1) := by decide +kernel
theorem dX5_both_16 : decode cX5_both 16 = .ok (.invokestatic 133, 3) := by decide +kernel
theorem dX5_both_19 : decode cX5_both 19 = .ok (.ifCond .eq 8, 3) := by decide +kernel
theorem dX5_both_22 : decode cX5_both 22 = .ok (.iload_n 2, 1) := by decide +kernel
theorem dX5_both_23 : decode cX5_both 23 = .ok (.iload_n 3, 1) := by decide +kernel
theorem dX5_both_24 : decode cX5_both 24 = .ok (.if_icmp .ne 10, 3) := by decide +kernel
theorem dX5_both_27 : decode cX5_both 27 = .ok (.aload_n 0, 1) := by decide +kernel
theorem dX5_both_28 : decode cX5_both 28 = .ok (.ldc 41, 2) := by decide +kernel
theorem dX5_both_30 : decode cX5_both 30 = .ok (.invokevirtual 65, 3) := by decide +kernel
theorem dX5_both_33 : decode cX5_both 33 = .ok (.ireturn, 1) := by decide +kernel
theorem dX5_both_34 : decode cX5_both 34 = .ok (.iload 4, 2) := by decide +kernel
theorem dX5_both_36 : decode cX5_both 36 = .ok (.ifCond .eq 10, 3) := by decide +kernel
theorem dX5_both_39 : decode cX5_both 39 = .ok (.aload_n 0, 1) := by decide +kernel
theorem dX5_both_40 : decode cX5_both 40 = .ok (.iload 4, 2) := by decide +kernel
theorem dX5_both_42 : decode cX5_both 42 = .ok (.invokevirtual 65, 3) := by decide +kernel
theorem dX5_both_45 : decode cX5_both 45 = .ok (.ireturn, 1) := by decide +kernel
theorem dX5_both_46 : decode cX5_both 46 = .ok (.aload_n 0, 1) := by decide +kernel
theorem dX5_both_47 : decode cX5_both 47 = .ok (.invokevirtual 172, 3) := by decide +kernel
theorem dX5_both_50 : decode cX5_both 50 = .ok (.iconst 1, 1) := by decide +kernel
theorem dX5_both_51 : decode cX5_both 51 = .ok (.iload_n 1, 1) := by decide +kernel
theorem dX5_both_52 : decode cX5_both 52 = .ok (.ishl, 1) := by decide +kernel
theorem dX5_both_53 : decode cX5_both 53 = .ok (.istore 5, 2) := by decide +kernel
theorem dX5_both_55 : decode cX5_both 55 = .ok (.iconst 0, 1) := by decide +kernel
theorem dX5_both_56 : decode cX5_both 56 = .ok (.istore 6, 2) := by decide +kernel
theorem dX5_both_58 : decode cX5_both 58 = .ok (.iconst 0, 1) := by decide +kernel
theorem dX5_both_59 : decode cX5_both 59 = .ok (.istore 7, 2) := by decide +kernel
theorem dX5_both_61 : decode cX5_both 61 = .ok (.iconst (-1), 1) := by decide +kernel
theorem dX5_both_62 : decode cX5_both 62 = .ok (.istore 8, 2) := by decide +kernel
theorem dX5_both_64 : decode cX5_both 64 = .ok (.iconst 0, 1) := by decide +kernel
theorem dX5_both_65 : decode cX5_both 65 = .ok (.istore 9, 2) := by decide +kernel
theorem dX5_both_67 : decode cX5_both 67 = .ok (.iload 9, 2) := by decide +kernel
theorem dX5_both_69 : decode cX5_both 69 = .ok (.bipush 48, 2) := by decide +kernel
theorem dX5_both_71 : decode cX5_both 71 = .ok (.if_icmp .gt 96, 3) := by decide +kernel
theorem dX5_both_74 : decode cX5_both 74 = .ok (.iload 8, 2) := by decide +kernel
theorem dX5_both_76 : decode cX5_both 76 = .ok (.ifCond .ge 91, 3) := by decide +kernel
theorem dX5_both_79 : decode cX5_both 79 = .ok (.iload 6, 2) := by decide +kernel
theorem dX5_both_81 : decode cX5_both 81 = .ok (.iload 5, 2) := by decide +kernel
theorem dX5_both_83 : decode cX5_both 83 = .ok (.aload_n 0, 1) := by decide +kernel
theorem dX5_both_84 : decode cX5_both 84 = .ok (.iload_n 2, 1) := by decide +kernel
theorem dX5_both_85 : decode cX5_both 85 = .ok (.invokevirtual 191, 3) := by decide +kernel
theorem dX5_both_88 : decode cX5_both 88 = .ok (.iand, 1) := by decide +kernel
theorem dX5_both_89 : decode cX5_both 89 = .ok (.ior, 1) := by decide +kernel
theorem dX5_both_90 : decode cX5_both 90 = .ok (.istore 6, 2) := by decide +kernel
theorem dX5_both_92 : decode cX5_both 92 = .ok (.iload 7, 2) := by decide +kernel
theorem dX5_both_94 : decode cX5_both 94 = .ok (.iload 5, 2) := by decide +kernel
theorem dX5_both_96 : decode cX5_both 96 = .ok (.aload_n 0, 1) := by decide +kernel
theorem dX5_both_97 : decode cX5_both 97 = .ok (.iload_n 3, 1) := by decide +kernel
theorem dX5_both_98 : decode cX5_both 98 = .ok (.invokevirtual 191, 3) := by decide +kernel
theorem dX5_both_101 : decode cX5_both 101 = .ok (.iand, 1) := by decide +kernel
theorem dX5_both_102 : decode cX5_both 102 = .ok (.ior, 1) := by decide +kernel
theorem dX5_both_103 : decode cX5_both 103 = .ok (.istore 7, 2) := by decide +kernel
theorem dX5_both_105 : decode cX5_both 105 = .ok (.iload 6, 2) := by decide +kernel
theorem dX5_both_107 : decode cX5_both 107 = .ok (.aload_n 0, 1) := by decide +kernel
theorem dX5_both_108 : decode cX5_both 108 = .ok (.iload_n 3, 1) := by decide +kernel
theorem dX5_both_109 : decode cX5_both 109 = .ok (.invokevirtual 191, 3) := by decide +kernel
theorem dX5_both_112 : decode cX5_both 112 = .ok (.iand, 1) := by decide +kernel
theorem dX5_both_113 : decode cX5_both 113 = .ok (.iload 7, 2) := by decide +kernel
theorem dX5_both_115 : decode cX5_both 115 = .ok (.aload_n 0, 1) := by decide +kernel
theorem dX5_both_116 : decode cX5_both 116 = .ok (.iload_n 2, 1) := by decide +kernel
theorem dX5_both_117 : decode cX5_both 117 = .ok (.invokevirtual 191, 3) := by decide +kernel
theorem dX5_both_120 : decode cX5_both 120 = .ok (.iand, 1) := by decide +kernel
theorem dX5_both_121 : decode cX5_both 121 = .ok (.ior, 1) := by decide +kernel
theorem dX5_both_122 : decode cX5_both 122 = .ok (.ifCond .eq 8, 3) := by decide +kernel
theorem dX5_both_125 : decode cX5_both 125 = .ok (.iload 9, 2) := by decide +kernel
theorem dX5_both_127 : decode cX5_both 127 = .ok (.goto 4, 3) := by decide +kernel
theorem dX5_both_130 : decode cX5_both 130 = .ok (.iconst (-1), 1) := by decide +kernel
theorem dX5_both_131 : decode cX5_both 131 = .ok (.istore 8, 2) := by decide +kernel
theorem dX5_both_133 : decode cX5_both 133 = .ok (.aload_n 0, 1) := by decide +kernel
theorem dX5_both_134 : decode cX5_both 134 = .ok (.iload 5, 2) := by decide +kernel
theorem dX5_both_136 : decode cX5_both 136 = .ok (.invokevirtual 198, 3) := by decide +kernel
theorem dX5_both_139 : decode cX5_both 139 = .ok (.istore 5, 2) := by decide +kernel
theorem dX5_both_141 : decode cX5_both 141 = .ok (.aload_n 0, 1) := by decide +kernel
theorem dX5_both_142 : decode cX5_both 142 = .ok (.iload 6, 2) := by decide +kernel
theorem dX5_both_144 : decode cX5_both 144 = .ok (.invokevirtual 198, 3) := by decide +kernel
theorem dX5_both_147 : decode cX5_both 147 = .ok (.istore 6, 2) := by decide +kernel
theorem dX5_both_149 : decode cX5_both 149 = .ok (.aload_n 0, 1) := by decide +kernel
theorem dX5_both_150 : decode cX5_both 150 = .ok (.iload 7, 2) := by decide +kernel
theorem dX5_both_152 : decode cX5_both 152 = .ok (.invokevirtual 198, 3) := by decide +kernel
theorem dX5_both_155 : decode cX5_both 155 = .ok (.istore 7, 2) := by decide +kernel
theorem dX5_both_157 : decode cX5_both 157 = .ok (.aload_n 0, 1) := by decide +kernel
theorem dX5_both_158 : decode cX5_both 158 = .ok (.invokevirtual 155, 3) := by decide +kernel
theorem dX5_both_161 : decode cX5_both 161 = .ok (.iinc 9 1, 3) := by decide +kernel
theorem dX5_both_164 : decode cX5_both 164 = .ok (.goto (-97), 3) := by decide +kernel
theorem dX5_both_167 : decode cX5_both 167 = .ok (.aload_n 0, 1) := by decide +kernel
theorem dX5_both_168 : decode cX5_both 168 = .ok (.aload_n 0, 1) := by decide +kernel
theorem dX5_both_169 : decode cX5_both 169 = .ok (.iload 8, 2) := by decide +kernel
theorem dX5_both_171 : decode cX5_both 171 = .ok (.invokevirtual 175, 3) := by decide +kernel
theorem dX5_both_174 : decode cX5_both 174 = .ok (.bipush 48, 2) := by decide +kernel
theorem dX5_both_176 : decode cX5_both 176 = .ok (.invokevirtual 181, 3) := by decide +kernel
theorem dX5_both_179 : decode cX5_both 179 = .ok (.ireturn, 1) := by decide +kernel
theorem dX5_censors_0 : decode cX5_censors 0 = .ok (.aload_n 0, 1) := by decide +kernel
theorem dX5_censors_1 : decode cX5_censors 1 = .ok (.iload_n 1, 1) := by decide +kernel
theorem dX5_censors_2 : decode cX5_censors 2 = .ok (.iload_n 2, 1) := by decide +kernel
theorem dX5_censors_3 : decode cX5_censors 3 = .ok (.invokevirtual 201, 3) := by decide +kernel
theorem dX5_censors_6 : decode cX5_censors 6 = .ok (.istore 4, 2) := by decide +kernel
theorem dX5_censors_8 : decode cX5_censors 8 = .ok (.iload 4, 2) := by decide +kernel
theorem dX5_censors_10 : decode cX5_censors 10 = .ok (.ldc 41, 2) := by decide +kernel
theorem dX5_censors_12 : decode cX5_censors 12 = .ok (.if_icmp .eq 15, 3) := by decide +kernel
theorem dX5_censors_15 : decode cX5_censors 15 = .ok (.iload_n 3, 1) := by decide +kernel
theorem dX5_censors_16 : decode cX5_censors 16 = .ok (.invokestatic 62, 3) := by decide +kernel
theorem dX5_censors_19 : decode cX5_censors 19 = .ok (.ifCond .eq 8, 3) := by decide +kernel
theorem dX5_censors_22 : decode cX5_censors 22 = .ok (.iload_n 3, 1) := by decide +kernel
theorem dX5_censors_23 : decode cX5_censors 23 = .ok (.iload_n 1, 1) := by decide +kernel
theorem dX5_censors_24 : decode cX5_censors 24 = .ok (.if_icmp .ne 10, 3) := by decide +kernel
theorem dX5_censors_27 : decode cX5_censors 27 = .ok (.aload_n 0, 1) := by decide +kernel
theorem dX5_censors_28 : decode cX5_censors 28 = .ok (.ldc 41, 2) := by decide +kernel
theorem dX5_censors_30 : decode cX5_censors 30 = .ok (.invokevirtual 65, 3) := by decide +kernel
theorem dX5_censors_33 : decode cX5_censors 33 = .ok (.ireturn, 1) := by decide +kernel
theorem dX5_censors_34 : decode cX5_censors 34 = .ok (.iload 4, 2) := by decide +kernel
theorem dX5_censors_36 : decode cX5_censors 36 = .ok (.ifCond .eq 10, 3) := by decide +kernel
theorem dX5_censors_39 : decode cX5_censors 39 = .ok (.aload_n 0, 1) := by decide +kernel
theorem dX5_censors_40 : decode cX5_censors 40 = .ok (.iload 4, 2) := by decide +kernel
theorem dX5_censors_42 : decode cX5_censors 42 = .ok (.invokevirtual 65, 3) := by decide +kernel
theorem dX5_censors_45 : decode cX5_censors 45 = .ok (.ireturn, 1) := by decide +kernel
theorem dX5_censors_46 : decode cX5_censors 46 = .ok (.aload_n 0, 1) := by decide +kernel
theorem dX5_censors_47 : decode cX5_censors 47 = .ok (.iload_n 1, 1) := by decide +kernel
theorem dX5_censors_48 : decode cX5_censors 48 = .ok (.iload_n 2, 1) := by decide +kernel
theorem dX5_censors_49 : decode cX5_censors 49 = .ok (.invokevirtual 204, 3) := by decide +kernel
theorem dX5_censors_52 : decode cX5_censors 52 = .ok (.istore 5, 2) := by decide +kernel
theorem dX5_censors_54 : decode cX5_censors 54 = .ok (.iload 5, 2) := by decide +kernel
theorem dX5_censors_56 : decode cX5_censors 56 = .ok (.ifCond .ge 10, 3) := by decide +kernel
theorem dX5_censors_59 : decode cX5_censors 59 = .ok (.aload_n 0, 1) := by decide +kernel
theorem dX5_censors_60 : decode cX5_censors 60 = .ok (.ldc 137, 2) := by decide +kernel
theorem dX5_censors_62 : decode cX5_censors 62 = .ok (.invokevirtual 65, 3) := by decide +kernel
theorem dX5_censors_65 : decode cX5_censors 65 = .ok (.ireturn, 1) := by decide +kernel
theorem dX5_censors_66 : decode cX5_censors 66 = .ok (.aload_n 0, 1) := by decide +kernel
theorem dX5_censors_67 : decode cX5_censors 67 = .ok (.getfield 7, 3) := by decide +kernel
theorem dX5_censors_70 : decode cX5_censors 70 = .ok (.iconst 2, 1) := by decide +kernel
theorem dX5_censors_71 : decode cX5_censors 71 = .ok (.iaload, 1) := by decide +kernel
theorem dX5_censors_72 : decode cX5_censors 72 = .ok (.istore 6, 2) := by decide +kernel
theorem dX5_censors_74 : decode cX5_censors 74 = .ok (.aload_n 0, 1) := by decide +kernel
theorem dX5_censors_75 : decode cX5_censors 75 = .ok (.iload_n 3, 1) := by decide +kernel
theorem dX5_censors_76 : decode cX5_censors 76 = .ok (.iconst 1, 1) := by decide +kernel
theorem dX5_censors_77 : decode cX5_censors 77 = .ok (.invokevirtual 72, 3) := by decide +kernel
theorem dX5_censors_80 : decode cX5_censors 80 = .ok (.aload_n 0, 1) := by decide +kernel
theorem dX5_censors_81 : decode cX5_censors 81 = .ok (.iload_n 1, 1) := by decide +kernel
theorem dX5_censors_82 : decode cX5_censors 82 = .ok (.iload_n 2, 1) := by decide +kernel
theorem dX5_censors_83 : decode cX5_censors 83 = .ok (.invokevirtual 204, 3) := by decide +kernel
theorem dX5_censors_86 : decode cX5_censors 86 = .ok (.istore 7, 2) := by decide +kernel
theorem dX5_censors_88 : decode cX5_censors 88 = .ok (.aload_n 0, 1) := by decide +kernel
theorem dX5_censors_89 : decode cX5_censors 89 = .ok (.getfield 7, 3) := by decide +kernel
theorem dX5_censors_92 : decode cX5_censors 92 = .ok (.iconst 2, 1) := by decide +kernel
theorem dX5_censors_93 : decode cX5_censors 93 = .ok (.iload 6, 2) := by decide +kernel
theorem dX5_censors_95 : decode cX5_censors 95 = .ok (.iastore, 1) := by decide +kernel
theorem dX5_censors_96 : decode cX5_censors 96 = .ok (.iload 7, 2) := by decide +kernel
theorem dX5_censors_98 : decode cX5_censors 98 = .ok (.ifCond .ge 8, 3) := by decide +kernel
theorem dX5_censors_101 : decode cX5_censors 101 = .ok (.bipush 99, 2) := by decide +kernel
theorem dX5_censors_103 : decode cX5_censors 103 = .ok (.goto 8, 3) := by decide +kernel
theorem dX5_censors_106 : decode cX5_censors 106 = .ok (.iload 7, 2) := by decide +kernel
theorem dX5_censors_108 : decode cX5_censors 108 = .ok (.iload 5, 2) := by decide +kernel
theorem dX5_censors_110 : decode cX5_censors 110 = .ok (.isub, 1) := by decide +kernel
theorem dX5_censors_111 : decode cX5_censors 111 = .ok (.ireturn, 1) := by decide +kernel
theorem dX5_isSooner_0 : decode cX5_isSooner 0 = .ok (.iload_n 0, 1) := by decide +kernel
theorem dX5_isSooner_1 : decode cX5_isSooner 1 = .ok (.ifCond .lt 16, 3) := by decide +kernel
theorem dX5_isSooner_4 : decode cX5_isSooner 4 = .ok (.iload_n 1, 1) := by decide +kernel
theorem dX5_isSooner_5 : decode cX5_isSooner 5 = .ok (.ifCond .lt 8, 3) := by decide +kernel
theorem dX5_isSooner_8 : decode cX5_isSooner 8 = .ok (.iload_n 0, 1) := by decide +kernel
theorem dX5_isSooner_9 : decode cX5_isSooner 9 = .ok (.iload_n 1, 1) := by decide +kernel
theorem dX5_isSooner_10 : decode cX5_isSooner 10 = .ok (.if_icmp .ge 7, 3) := by decide +kernel
theorem dX5_isSooner_13 : decode cX5_isSooner 13 = .ok (.iconst 1, 1) := by decide +kernel
theorem dX5_isSooner_14 : decode cX5_isSooner 14 = .ok (.goto 4, 3) := by decide +kernel
theorem dX5_isSooner_17 : decode cX5_isSooner 17 = .ok (.iconst 0, 1) := by decide +kernel
theorem dX5_isSooner_18 : decode cX5_isSooner 18 = .ok (.ireturn, 1) := by decide +kernel
theorem dX5_tips_0 : decode cX5_tips 0 = .ok (.aload_n 0, 1) := by decide +kernel
theorem dX5_tips_1 : decode cX5_tips 1 = .ok (.iload_n 1, 1) := by decide +kernel
theorem dX5_tips_2 : decode cX5_tips 2 = .ok (.iload_n 2, 1) := by decide +kernel
theorem dX5_tips_3 : decode cX5_tips 3 = .ok (.invokevirtual 201, 3) := by decide +kernel
theorem dX5_tips_6 : decode cX5_tips 6 = .ok (.istore_n 3, 1) := by decide +kernel
theorem dX5_tips_7 : decode cX5_tips 7 = .ok (.iload_n 3, 1) := by decide +kernel
theorem dX5_tips_8 : decode cX5_tips 8 = .ok (.ifCond .eq 9, 3) := by decide +kernel
theorem dX5_tips_11 : decode cX5_tips 11 = .ok (.aload_n 0, 1) := by decide +kernel
theorem dX5_tips_12 : decode cX5_tips 12 = .ok (.iload_n 3, 1) := by decide +kernel
theorem dX5_tips_13 : decode cX5_tips 13 = .ok (.invokevirtual 65, 3) := by decide +kernel
theorem dX5_tips_16 : decode cX5_tips 16 = .ok (.ireturn, 1) := by decide +kernel
theorem dX5_tips_17 : decode cX5_tips 17 = .ok (.aload_n 0, 1) := by decide +kernel
theorem dX5_tips_18 : decode cX5_tips 18 = .ok (.iload_n 1, 1) := by decide +kernel
theorem dX5_tips_19 : decode cX5_tips 19 = .ok (.iload_n 2, 1) := by decide +kernel
theorem dX5_tips_20 : decode cX5_tips 20 = .ok (.invokevirtual 204, 3) := by decide +kernel
theorem dX5_tips_23 : decode cX5_tips 23 = .ok (.istore 4, 2) := by decide +kernel
theorem dX5_tips_25 : decode cX5_tips 25 = .ok (.iconst (-1), 1) := by decide +kernel
theorem dX5_tips_26 : decode cX5_tips 26 = .ok (.istore 5, 2) := by decide +kernel
theorem dX5_tips_28 : decode cX5_tips 28 = .ok (.iconst 0, 1) := by decide +kernel
theorem dX5_tips_29 : decode cX5_tips 29 = .ok (.istore 6, 2) := by decide +kernel
theorem dX5_tips_31 : decode cX5_tips 31 = .ok (.iload 6, 2) := by decide +kernel
theorem dX5_tips_33 : decode cX5_tips 33 = .ok (.aload_n 0, 1) := by decide +kernel
theorem dX5_tips_34 : decode cX5_tips 34 = .ok (.getfield 7, 3) := by decide +kernel
theorem dX5_tips_37 : decode cX5_tips 37 = .ok (.iconst 1, 1) := by decide +kernel
theorem dX5_tips_38 : decode cX5_tips 38 = .ok (.iaload, 1) := by decide +kernel
theorem dX5_tips_39 : decode cX5_tips 39 = .ok (.if_icmp .ge 89, 3) := by decide +kernel
theorem dX5_tips_42 : decode cX5_tips 42 = .ok (.aload_n 0, 1) := by decide +kernel
theorem dX5_tips_43 : decode cX5_tips 43 = .ok (.iload 6, 2) := by decide +kernel
theorem dX5_tips_45 : decode cX5_tips 45 = .ok (.iconst 3, 1) := by decide +kernel
theorem dX5_tips_46 : decode cX5_tips 46 = .ok (.invokevirtual 83, 3) := by decide +kernel
theorem dX5_tips_49 : decode cX5_tips 49 = .ok (.ifCond .ne 73, 3) := by decide +kernel
theorem dX5_tips_52 : decode cX5_tips 52 = .ok (.aload_n 0, 1) := by decide +kernel
theorem dX5_tips_53 : decode cX5_tips 53 = .ok (.getfield 7, 3) := by decide +kernel
theorem dX5_tips_56 : decode cX5_tips 56 = .ok (.iload 6, 2) := by decide +kernel
theorem dX5_tips_58 : decode cX5_tips 58 = .ok (.iconst 3, 1) := by decide +kernel
theorem dX5_tips_59 : decode cX5_tips 59 = .ok (.invokestatic 58, 3) := by decide +kernel
theorem dX5_tips_62 : decode cX5_tips 62 = .ok (.iconst 1, 1) := by decide +kernel
theorem dX5_tips_63 : decode cX5_tips 63 = .ok (.iastore, 1) := by decide +kernel
theorem dX5_tips_64 : decode cX5_tips 64 = .ok (.aload_n 0, 1) := by decide +kernel
theorem dX5_tips_65 : decode cX5_tips 65 = .ok (.iload_n 1, 1) := by decide +kernel
theorem dX5_tips_66 : decode cX5_tips 66 = .ok (.iload_n 2, 1) := by decide +kernel
theorem dX5_tips_67 : decode cX5_tips 67 = .ok (.invokevirtual 204, 3) := by decide +kernel
theorem dX5_tips_70 : decode cX5_tips 70 = .ok (.istore 7, 2) := by decide +kernel
theorem dX5_tips_72 : decode cX5_tips 72 = .ok (.aload_n 0, 1) := by decide +kernel
theorem dX5_tips_73 : decode cX5_tips 73 = .ok (.getfield 7, 3) := by decide +kernel
theorem dX5_tips_76 : decode cX5_tips 76 = .ok (.iload 6, 2) := by decide +kernel
theorem dX5_tips_78 : decode cX5_tips 78 = .ok (.iconst 3, 1) := by decide +kernel
theorem dX5_tips_79 : decode cX5_tips 79 = .ok (.invokestatic 58, 3) := by decide +kernel
theorem dX5_tips_82 : decode cX5_tips 82 = .ok (.iconst 0, 1) := by decide +kernel
theorem dX5_tips_83 : decode cX5_tips 83 = .ok (.iastore, 1) := by decide +kernel
theorem dX5_tips_84 : decode cX5_tips 84 = .ok (.iload 7, 2) := by decide +kernel
theorem dX5_tips_86 : decode cX5_tips 86 = .ok (.iload 4, 2) := by decide +kernel
theorem dX5_tips_88 : decode cX5_tips 88 = .ok (.invokestatic 209, 3) := by decide +kernel
theorem dX5_tips_91 : decode cX5_tips 91 = .ok (.ifCond .eq 8, 3) := by decide +kernel
theorem dX5_tips_94 : decode cX5_tips 94 = .ok (.iload 6, 2) := by decide +kernel
theorem dX5_tips_96 : decode cX5_tips 96 = .ok (.goto 5, 3) := by decide +kernel
theorem dX5_tips_99 : decode cX5_tips 99 = .ok (.iload 5, 2) := by decide +kernel
theorem dX5_tips_101 : decode cX5_tips 101 = .ok (.istore 5, 2) := by decide +kernel
theorem dX5_tips_103 : decode cX5_tips 103 = .ok (.iload 7, 2) := by decide +kernel
theorem dX5_tips_105 : decode cX5_tips 105 = .ok (.iload 4, 2) := by decide +kernel
theorem dX5_tips_107 : decode cX5_tips 107 = .ok (.invokestatic 209, 3) := by decide +kernel
theorem dX5_tips_110 : decode cX5_tips 110 = .ok (.ifCond .eq 8, 3) := by decide +kernel
theorem dX5_tips_113 : decode cX5_tips 113 = .ok (.iload 7, 2) := by decide +kernel
theorem dX5_tips_115 : decode cX5_tips 115 = .ok (.goto 5, 3) := by decide +kernel
theorem dX5_tips_118 : decode cX5_tips 118 = .ok (.iload 4, 2) := by decide +kernel
theorem dX5_tips_120 : decode cX5_tips 120 = .ok (.istore 4, 2) := by decide +kernel
theorem dX5_tips_122 : decode cX5_tips 122 = .ok (.iinc 6 1, 3) := by decide +kernel
theorem dX5_tips_125 : decode cX5_tips 125 = .ok (.goto (-94), 3) := by decide +kernel
theorem dX5_tips_128 : decode cX5_tips 128 = .ok (.aload_n 0, 1) := by decide +kernel
theorem dX5_tips_129 : decode cX5_tips 129 = .ok (.iload 5, 2) := by decide +kernel
theorem dX5_tips_131 : decode cX5_tips 131 = .ok (.bipush 8, 2) := by decide +kernel
theorem dX5_tips_133 : decode cX5_tips 133 = .ok (.invokevirtual 181, 3) := by decide +kernel
theorem dX5_tips_136 : decode cX5_tips 136 = .ok (.ireturn, 1) := by decide +kernel
theorem dX5_spring_0 : decode cX5_spring 0 = .ok (.aload_n 0, 1) := by decide +kernel
theorem dX5_spring_1 : decode cX5_spring 1 = .ok (.iload_n 1, 1) := by decide +kernel
theorem dX5_spring_2 : decode cX5_spring 2 = .ok (.iload_n 2, 1) := by decide +kernel
theorem dX5_spring_3 : decode cX5_spring 3 = .ok (.invokevirtual 201, 3) := by decide +kernel
theorem dX5_spring_6 : decode cX5_spring 6 = .ok (.istore_n 3, 1) := by decide +kernel
theorem dX5_spring_7 : decode cX5_spring 7 = .ok (.iload_n 3, 1) := by decide +kernel
theorem dX5_spring_8 : decode cX5_spring 8 = .ok (.ifCond .eq 9, 3) := by decide +kernel
theorem dX5_spring_11 : decode cX5_spring 11 = .ok (.aload_n 0, 1) := by decide +kernel
theorem dX5_spring_12 : decode cX5_spring 12 = .ok (.iload_n 3, 1) := by decide +kernel
theorem dX5_spring_13 : decode cX5_spring 13 = .ok (.invokevirtual 65, 3) := by decide +kernel
theorem dX5_spring_16 : decode cX5_spring 16 = .ok (.ireturn, 1) := by decide +kernel
theorem dX5_spring_17 : decode cX5_spring 17 = .ok (.aload_n 0, 1) := by decide +kernel
theorem dX5_spring_18 : decode cX5_spring 18 = .ok (.getfield 7, 3) := by decide +kernel
theorem dX5_spring_21 : decode cX5_spring 21 = .ok (.iconst 3, 1) := by decide +kernel
theorem dX5_spring_22 : decode cX5_spring 22 = .ok (.iaload, 1) := by decide +kernel
theorem dX5_spring_23 : decode cX5_spring 23 = .ok (.istore 4, 2) := by decide +kernel
theorem dX5_spring_25 : decode cX5_spring 25 = .ok (.iconst (-1), 1) := by decide +kernel
theorem dX5_spring_26 : decode cX5_spring 26 = .ok (.istore 5, 2) := by decide +kernel
theorem dX5_spring_28 : decode cX5_spring 28 = .ok (.iconst (-1), 1) := by decide +kernel
theorem dX5_spring_29 : decode cX5_spring 29 = .ok (.istore 6, 2) := by decide +kernel
theorem dX5_spring_31 : decode cX5_spring 31 = .ok (.iconst 0, 1) := by decide +kernel
theorem dX5_spring_32 : decode cX5_spring 32 = .ok (.istore 7, 2) := by decide +kernel
theorem dX5_spring_34 : decode cX5_spring 34 = .ok (.iload 7, 2) := by decide +kernel
theorem dX5_spring_36 : decode cX5_spring 36 = .ok (.bipush 30, 2) := by decide +kernel
theorem dX5_spring_38 : decode cX5_spring 38 = .ok (.if_icmp .ge 72, 3) := by decide +kernel
theorem dX5_spring_41 : decode cX5_spring 41 = .ok (.aload_n 0, 1) := by decide +kernel
theorem dX5_spring_42 : decode cX5_spring 42 = .ok (.iload 7, 2) := by decide +kernel
theorem dX5_spring_44 : decode cX5_spring 44 = .ok (.invokevirtual 69, 3) := by decide +kernel
theorem dX5_spring_47 : decode cX5_spring 47 = .ok (.ifCond .ne 57, 3) := by decide +kernel
theorem dX5_spring_50 : decode cX5_spring 50 = .ok (.aload_n 0, 1) := by decide +kernel
theorem dX5_spring_51 : decode cX5_spring 51 = .ok (.getfield 7, 3) := by decide +kernel
theorem dX5_spring_54 : decode cX5_spring 54 = .ok (.iconst 3, 1) := by decide +kernel
theorem dX5_spring_55 : decode cX5_spring 55 = .ok (.iload 7, 2) := by decide +kernel
theorem dX5_spring_57 : decode cX5_spring 57 = .ok (.iastore, 1) := by decide +kernel
theorem dX5_spring_58 : decode cX5_spring 58 = .ok (.aload_n 0, 1) := by decide +kernel
theorem dX5_spring_59 : decode cX5_spring 59 = .ok (.iload_n 1, 1) := by decide +kernel
theorem dX5_spring_60 : decode cX5_spring 60 = .ok (.iload_n 2, 1) := by decide +kernel
theorem dX5_spring_61 : decode cX5_spring 61 = .ok (.invokevirtual 204, 3) := by decide +kernel
theorem dX5_spring_64 : decode cX5_spring 64 = .ok (.istore 8, 2) := by decide +kernel
theorem dX5_spring_66 : decode cX5_spring 66 = .ok (.iload 8, 2) := by decide +kernel
theorem dX5_spring_68 : decode cX5_spring 68 = .ok (.iload 5, 2) := by decide +kernel
theorem dX5_spring_70 : decode cX5_spring 70 = .ok (.invokestatic 209, 3) := by decide +kernel
theorem dX5_spring_73 : decode cX5_spring 73 = .ok (.ifCond .eq 8, 3) := by decide +kernel
theorem dX5_spring_76 : decode cX5_spring 76 = .ok (.iload 7, 2) := by decide +kernel
theorem dX5_spring_78 : decode cX5_spring 78 = .ok (.goto 5, 3) := by decide +kernel
theorem dX5_spring_81 : decode cX5_spring 81 = .ok (.iload 6, 2) := by decide +kernel
theorem dX5_spring_83 : decode cX5_spring 83 = .ok (.istore 6, 2) := by decide +kernel
theorem dX5_spring_85 : decode cX5_spring 85 = .ok (.iload 8, 2) := by decide +kernel
theorem dX5_spring_87 : decode cX5_spring 87 = .ok (.iload 5, 2) := by decide +kernel
theorem dX5_spring_89 : decode cX5_spring 89 = .ok (.invokestatic 209, 3) := by decide +kernel
theorem dX5_spring_92 : decode cX5_spring 92 = .ok (.ifCond .eq 8, 3) := by decide +kernel
theorem dX5_spring_95 : decode cX5_spring 95 = .ok (.iload 8, 2) := by decide +kernel
theorem dX5_spring_97 : decode cX5_spring 97 = .ok (.goto 5, 3) := by decide +kernel
theorem dX5_spring_100 : decode cX5_spring 100 = .ok (.iload 5, 2) := by decide +kernel
theorem dX5_spring_102 : decode cX5_spring 102 = .ok (.istore 5, 2) := by decide +kernel
theorem dX5_spring_104 : decode cX5_spring 104 = .ok (.iinc 7 1, 3) := by decide +kernel
theorem dX5_spring_107 : decode cX5_spring 107 = .ok (.goto (-73), 3) := by decide +kernel
theorem dX5_spring_110 : decode cX5_spring 110 = .ok (.aload_n 0, 1) := by decide +kernel
theorem dX5_spring_111 : decode cX5_spring 111 = .ok (.getfield 7, 3) := by decide +kernel
theorem dX5_spring_114 : decode cX5_spring 114 = .ok (.iconst 3, 1) := by decide +kernel
theorem dX5_spring_115 : decode cX5_spring 115 = .ok (.iload 4, 2) := by decide +kernel
theorem dX5_spring_117 : decode cX5_spring 117 = .ok (.iastore, 1) := by decide +kernel
theorem dX5_spring_118 : decode cX5_spring 118 = .ok (.aload_n 0, 1) := by decide +kernel
theorem dX5_spring_119 : decode cX5_spring 119 = .ok (.iload 6, 2) := by decide +kernel
theorem dX5_spring_121 : decode cX5_spring 121 = .ok (.bipush 30, 2) := by decide +kernel
theorem dX5_spring_123 : decode cX5_spring 123 = .ok (.invokevirtual 181, 3) := by decide +kernel
theorem dX5_spring_126 : decode cX5_spring 126 = .ok (.ireturn, 1) := by decide +kernel
theorem dX5_kind_0 : decode cX5_kind 0 = .ok (.aload_n 0, 1) := by decide +kernel
theorem dX5_kind_1 : decode cX5_kind 1 = .ok (.iload_n 1, 1) := by decide +kernel
theorem dX5_kind_2 : decode cX5_kind 2 = .ok (.invokevirtual 54, 3) := by decide +kernel
theorem dX5_kind_5 : decode cX5_kind 5 = .ok (.ifCond .eq 10, 3) := by decide +kernel
theorem dX5_kind_8 : decode cX5_kind 8 = .ok (.iload_n 2, 1) := by decide +kernel
theorem dX5_kind_9 : decode cX5_kind 9 = .ok (.invokestatic 62, 3) := by decide +kernel
theorem dX5_kind_12 : decode cX5_kind 12 = .ok (.ifCond .ne 10, 3) := by decide +kernel
theorem dX5_kind_15 : decode cX5_kind 15 = .ok (.aload_n 0, 1) := by decide +kernel
theorem dX5_kind_16 : decode cX5_kind 16 = .ok (.ldc 41, 2) := by decide +kernel
theorem dX5_kind_18 : decode cX5_kind 18 = .ok (.invokevirtual 65, 3) := by decide +kernel
theorem dX5_kind_21 : decode cX5_kind 21 = .ok (.ireturn, 1) := by decide +kernel
theorem dX5_kind_22 : decode cX5_kind 22 = .ok (.aload_n 0, 1) := by decide +kernel
theorem dX5_kind_23 : decode cX5_kind 23 = .ok (.iload_n 1, 1) := by decide +kernel
theorem dX5_kind_24 : decode cX5_kind 24 = .ok (.iconst 0, 1) := by decide +kernel
theorem dX5_kind_25 : decode cX5_kind 25 = .ok (.invokevirtual 83, 3) := by decide +kernel
theorem dX5_kind_28 : decode cX5_kind 28 = .ok (.istore_n 3, 1) := by decide +kernel
theorem dX5_kind_29 : decode cX5_kind 29 = .ok (.bipush 73, 2) := by decide +kernel
theorem dX5_kind_31 : decode cX5_kind 31 = .ok (.istore 4, 2) := by decide +kernel
theorem dX5_kind_33 : decode cX5_kind 33 = .ok (.iconst (-1), 1) := by decide +kernel
theorem dX5_kind_34 : decode cX5_kind 34 = .ok (.istore 5, 2) := by decide +kernel
theorem dX5_kind_36 : decode cX5_kind 36 = .ok (.iconst 0, 1) := by decide +kernel
theorem dX5_kind_37 : decode cX5_kind 37 = .ok (.istore 6, 2) := by decide +kernel
theorem dX5_kind_39 : decode cX5_kind 39 = .ok (.iload 6, 2) := by decide +kernel
theorem dX5_kind_41 : decode cX5_kind 41 = .ok (.iconst 5, 1) := by decide +kernel
theorem dX5_kind_42 : decode cX5_kind 42 = .ok (.if_icmp .gt 61, 3) := by decide +kernel
theorem dX5_kind_45 : decode cX5_kind 45 = .ok (.aload_n 0, 1) := by decide +kernel
theorem dX5_kind_46 : decode cX5_kind 46 = .ok (.getfield 7, 3) := by decide +kernel
theorem dX5_kind_49 : decode cX5_kind 49 = .ok (.iload_n 1, 1) := by decide +kernel
theorem dX5_kind_50 : decode cX5_kind 50 = .ok (.iconst 0, 1) := by decide +kernel
theorem dX5_kind_51 : decode cX5_kind 51 = .ok (.invokestatic 58, 3) := by decide +kernel
theorem dX5_kind_54 : decode cX5_kind 54 = .ok (.iload 6, 2) := by decide +kernel
theorem dX5_kind_56 : decode cX5_kind 56 = .ok (.iastore, 1) := by decide +kernel
theorem dX5_kind_57 : decode cX5_kind 57 = .ok (.aload_n 0, 1) := by decide +kernel
theorem dX5_kind_58 : decode cX5_kind 58 = .ok (.iload_n 1, 1) := by decide +kernel
theorem dX5_kind_59 : decode cX5_kind 59 = .ok (.iload_n 2, 1) := by decide +kernel
theorem dX5_kind_60 : decode cX5_kind 60 = .ok (.invokevirtual 178, 3) := by decide +kernel
theorem dX5_kind_63 : decode cX5_kind 63 = .ok (.istore 7, 2) := by decide +kernel
theorem dX5_kind_65 : decode cX5_kind 65 = .ok (.iload 7, 2) := by decide +kernel
theorem dX5_kind_67 : decode cX5_kind 67 = .ok (.iload 4, 2) := by decide +kernel
theorem dX5_kind_69 : decode cX5_kind 69 = .ok (.if_icmp .ge 8, 3) := by decide +kernel
theorem dX5_kind_72 : decode cX5_kind 72 = .ok (.iload 6, 2) := by decide +kernel
theorem dX5_kind_74 : decode cX5_kind 74 = .ok (.goto 5, 3) := by decide +kernel
theorem dX5_kind_77 : decode cX5_kind 77 = .ok (.iload 5, 2) := by decide +kernel
theorem dX5_kind_79 : decode cX5_kind 79 = .ok (.istore 5, 2) := by decide +kernel
theorem dX5_kind_81 : decode cX5_kind 81 = .ok (.iload 7, 2) := by decide +kernel
theorem dX5_kind_83 : decode cX5_kind 83 = .ok (.iload 4, 2) := by decide +kernel
theorem dX5_kind_85 : decode cX5_kind 85 = .ok (.if_icmp .ge 8, 3) := by decide +kernel
theorem dX5_kind_88 : decode cX5_kind 88 = .ok (.iload 7, 2) := by decide +kernel
theorem dX5_kind_90 : decode cX5_kind 90 = .ok (.goto 5, 3) := by decide +kernel
theorem dX5_kind_93 : decode cX5_kind 93 = .ok (.iload 4, 2) := by decide +kernel
theorem dX5_kind_95 : decode cX5_kind 95 = .ok (.istore 4, 2) := by decide +kernel
theorem dX5_kind_97 : decode cX5_kind 97 = .ok (.iinc 6 1, 3) := by decide +kernel
theorem dX5_kind_100 : decode cX5_kind 100 = .ok (.goto (-61), 3) := by decide +kernel
theorem dX5_kind_103 : decode cX5_kind 103 = .ok (.aload_n 0, 1) := by decide +kernel
theorem dX5_kind_104 : decode cX5_kind 104 = .ok (.getfield 7, 3) := by decide +kernel
theorem dX5_kind_107 : decode cX5_kind 107 = .ok (.iload_n 1, 1) := by decide +kernel
theorem dX5_kind_108 : decode cX5_kind 108 = .ok (.iconst 0, 1) := by decide +kernel
theorem dX5_kind_109 : decode cX5_kind 109 = .ok (.invokestatic 58, 3) := by decide +kernel
theorem dX5_kind_112 : decode cX5_kind 112 = .ok (.iload_n 3, 1) := by decide +kernel
theorem dX5_kind_113 : decode cX5_kind 113 = .ok (.iastore, 1) := by decide +kernel
theorem dX5_kind_114 : decode cX5_kind 114 = .ok (.aload_n 0, 1) := by decide +kernel
theorem dX5_kind_115 : decode cX5_kind 115 = .ok (.iload 5, 2) := by decide +kernel
theorem dX5_kind_117 : decode cX5_kind 117 = .ok (.iconst 5, 1) := by decide +kernel
theorem dX5_kind_118 : decode cX5_kind 118 = .ok (.invokevirtual 181, 3) := by decide +kernel
theorem dX5_kind_121 : decode cX5_kind 121 = .ok (.ireturn, 1) := by decide +kernel
theorem dX5_feed_0 : decode cX5_feed 0 = .ok (.iload_n 2, 1) := by decide +kernel
theorem dX5_feed_1 : decode cX5_feed 1 = .ok (.i2l, 1) := by decide +kernel
theorem dX5_feed_2 : decode cX5_feed 2 = .ok (.lconst 1, 1) := by decide +kernel
theorem dX5_feed_3 : decode cX5_feed 3 = .ok (.ldc2_w 212, 3) := by decide +kernel
theorem dX5_feed_6 : decode cX5_feed 6 = .ok (.invokestatic 44, 3) := by decide +kernel
theorem dX5_feed_9 : decode cX5_feed 9 = .ok (.ifCond .ne 10, 3) := by decide +kernel
theorem dX5_feed_12 : decode cX5_feed 12 = .ok (.aload_n 0, 1) := by decide +kernel
theorem dX5_feed_13 : decode cX5_feed 13 = .ok (.ldc 41, 2) := by decide +kernel
theorem dX5_feed_15 : decode cX5_feed 15 = .ok (.invokevirtual 65, 3) := by decide +kernel
theorem dX5_feed_18 : decode cX5_feed 18 = .ok (.ireturn, 1) := by decide +kernel
theorem dX5_feed_19 : decode cX5_feed 19 = .ok (.aload_n 0, 1) := by decide +kernel
theorem dX5_feed_20 : decode cX5_feed 20 = .ok (.getfield 214, 3) := by decide +kernel
theorem dX5_feed_23 : decode cX5_feed 23 = .ok (.iload_n 2, 1) := by decide +kernel
theorem dX5_feed_24 : decode cX5_feed 24 = .ok (.iadd, 1) := by decide +kernel
theorem dX5_feed_25 : decode cX5_feed 25 = .ok (.bipush 120, 2) := by decide +kernel
theorem dX5_feed_27 : decode cX5_feed 27 = .ok (.if_icmp .le 10, 3) := by decide +kernel
theorem dX5_feed_30 : decode cX5_feed 30 = .ok (.aload_n 0, 1) := by decide +kernel
theorem dX5_feed_31 : decode cX5_feed 31 = .ok (.ldc 114, 2) := by decide +kernel
theorem dX5_feed_33 : decode cX5_feed 33 = .ok (.invokevirtual 65, 3) := by decide +kernel
theorem dX5_feed_36 : decode cX5_feed 36 = .ok (.ireturn, 1) := by decide +kernel
theorem dX5_feed_37 : decode cX5_feed 37 = .ok (.iload_n 2, 1) := by decide +kernel
theorem dX5_feed_38 : decode cX5_feed 38 = .ok (.iconst 1, 1) := by decide +kernel
theorem dX5_feed_39 : decode cX5_feed 39 = .ok (.isub, 1) := by decide +kernel
theorem dX5_feed_40 : decode cX5_feed 40 = .ok (.istore_n 3, 1) := by decide +kernel
theorem dX5_feed_41 : decode cX5_feed 41 = .ok (.iload_n 3, 1) := by decide +kernel
theorem dX5_feed_42 : decode cX5_feed 42 = .ok (.ifCond .lt 38, 3) := by decide +kernel
theorem dX5_feed_45 : decode cX5_feed 45 = .ok (.aload_n 0, 1) := by decide +kernel
theorem dX5_feed_46 : decode cX5_feed 46 = .ok (.getfield 25, 3) := by decide +kernel
theorem dX5_feed_49 : decode cX5_feed 49 = .ok (.aload_n 0, 1) := by decide +kernel
theorem dX5_feed_50 : decode cX5_feed 50 = .ok (.getfield 214, 3) := by decide +kernel
theorem dX5_feed_53 : decode cX5_feed 53 = .ok (.iload_n 1, 1) := by decide +kernel
theorem dX5_feed_54 : decode cX5_feed 54 = .ok (.bipush 8, 2) := by decide +kernel
theorem dX5_feed_56 : decode cX5_feed 56 = .ok (.iload_n 3, 1) := by decide +kernel
