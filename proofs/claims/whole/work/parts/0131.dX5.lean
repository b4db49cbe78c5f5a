theorem dX5_write_74 : decode cX5_write 74 = .ok (.iaload, 1) := by decide +kernel
theorem dX5_write_75 : decode cX5_write 75 = .ok (.lload_n 3, 1) := by decide +kernel
theorem dX5_write_76 : decode cX5_write 76 = .ok (.invokestatic 331, 3) := by decide +kernel
theorem dX5_write_79 : decode cX5_write 79 = .ok (.lastore, 1) := by decide +kernel
theorem dX5_write_80 : decode cX5_write 80 = .ok (.lload 6, 2) := by decide +kernel
theorem dX5_write_82 : decode cX5_write 82 = .ok (.lreturn, 1) := by decide +kernel
theorem dX5_copy_0 : decode cX5_copy 0 = .ok (.iload_n 1, 1) := by decide +kernel
theorem dX5_copy_1 : decode cX5_copy 1 = .ok (.invokestatic 323, 3) := by decide +kernel
theorem dX5_copy_4 : decode cX5_copy 4 = .ok (.ifCond .eq 10, 3) := by decide +kernel
theorem dX5_copy_7 : decode cX5_copy 7 = .ok (.iload_n 3, 1) := by decide +kernel
theorem dX5_copy_8 : decode cX5_copy 8 = .ok (.invokestatic 323, 3) := by decide +kernel
theorem dX5_copy_11 : decode cX5_copy 11 = .ok (.ifCond .ne 10, 3) := by decide +kernel
theorem dX5_copy_14 : decode cX5_copy 14 = .ok (.aload_n 0, 1) := by decide +kernel
theorem dX5_copy_15 : decode cX5_copy 15 = .ok (.ldc 41, 2) := by decide +kernel
theorem dX5_copy_17 : decode cX5_copy 17 = .ok (.invokevirtual 65, 3) := by decide +kernel
theorem dX5_copy_20 : decode cX5_copy 20 = .ok (.ireturn, 1) := by decide +kernel
theorem dX5_copy_21 : decode cX5_copy 21 = .ok (.aload_n 0, 1) := by decide +kernel
theorem dX5_copy_22 : decode cX5_copy 22 = .ok (.getfield 28, 3) := by decide +kernel
theorem dX5_copy_25 : decode cX5_copy 25 = .ok (.iload_n 1, 1) := by decide +kernel
theorem dX5_copy_26 : decode cX5_copy 26 = .ok (.iaload, 1) := by decide +kernel
theorem dX5_copy_27 : decode cX5_copy 27 = .ok (.ifCond .eq 12, 3) := by decide +kernel
theorem dX5_copy_30 : decode cX5_copy 30 = .ok (.aload_n 0, 1) := by decide +kernel
theorem dX5_copy_31 : decode cX5_copy 31 = .ok (.getfield 28, 3) := by decide +kernel
theorem dX5_copy_34 : decode cX5_copy 34 = .ok (.iload_n 3, 1) := by decide +kernel
theorem dX5_copy_35 : decode cX5_copy 35 = .ok (.iaload, 1) := by decide +kernel
theorem dX5_copy_36 : decode cX5_copy 36 = .ok (.ifCond .ne 11, 3) := by decide +kernel
theorem dX5_copy_39 : decode cX5_copy 39 = .ok (.aload_n 0, 1) := by decide +kernel
theorem dX5_copy_40 : decode cX5_copy 40 = .ok (.ldc_w 327, 3) := by decide +kernel
theorem dX5_copy_43 : decode cX5_copy 43 = .ok (.invokevirtual 65, 3) := by decide +kernel
theorem dX5_copy_46 : decode cX5_copy 46 = .ok (.ireturn, 1) := by decide +kernel
theorem dX5_copy_47 : decode cX5_copy 47 = .ok (.aload_n 0, 1) := by decide +kernel
theorem dX5_copy_48 : decode cX5_copy 48 = .ok (.getfield 28, 3) := by decide +kernel
theorem dX5_copy_51 : decode cX5_copy 51 = .ok (.iload_n 1, 1) := by decide +kernel
theorem dX5_copy_52 : decode cX5_copy 52 = .ok (.iaload, 1) := by decide +kernel
theorem dX5_copy_53 : decode cX5_copy 53 = .ok (.aload_n 0, 1) := by decide +kernel
theorem dX5_copy_54 : decode cX5_copy 54 = .ok (.getfield 28, 3) := by decide +kernel
theorem dX5_copy_57 : decode cX5_copy 57 = .ok (.iload_n 3, 1) := by decide +kernel
theorem dX5_copy_58 : decode cX5_copy 58 = .ok (.iaload, 1) := by decide +kernel
theorem dX5_copy_59 : decode cX5_copy 59 = .ok (.if_icmp .eq 10, 3) := by decide +kernel
theorem dX5_copy_62 : decode cX5_copy 62 = .ok (.aload_n 0, 1) := by decide +kernel
theorem dX5_copy_63 : decode cX5_copy 63 = .ok (.ldc 128, 2) := by decide +kernel
theorem dX5_copy_65 : decode cX5_copy 65 = .ok (.invokevirtual 65, 3) := by decide +kernel
theorem dX5_copy_68 : decode cX5_copy 68 = .ok (.ireturn, 1) := by decide +kernel
theorem dX5_copy_69 : decode cX5_copy 69 = .ok (.iload_n 2, 1) := by decide +kernel
theorem dX5_copy_70 : decode cX5_copy 70 = .ok (.ifCond .lt 40, 3) := by decide +kernel
theorem dX5_copy_73 : decode cX5_copy 73 = .ok (.iload 4, 2) := by decide +kernel
theorem dX5_copy_75 : decode cX5_copy 75 = .ok (.ifCond .lt 35, 3) := by decide +kernel
theorem dX5_copy_78 : decode cX5_copy 78 = .ok (.iload 5, 2) := by decide +kernel
theorem dX5_copy_80 : decode cX5_copy 80 = .ok (.ifCond .lt 30, 3) := by decide +kernel
theorem dX5_copy_83 : decode cX5_copy 83 = .ok (.iload 5, 2) := by decide +kernel
theorem dX5_copy_85 : decode cX5_copy 85 = .ok (.aload_n 0, 1) := by decide +kernel
theorem dX5_copy_86 : decode cX5_copy 86 = .ok (.getfield 31, 3) := by decide +kernel
theorem dX5_copy_89 : decode cX5_copy 89 = .ok (.iload_n 1, 1) := by decide +kernel
theorem dX5_copy_90 : decode cX5_copy 90 = .ok (.iaload, 1) := by decide +kernel
theorem dX5_copy_91 : decode cX5_copy 91 = .ok (.iload_n 2, 1) := by decide +kernel
theorem dX5_copy_92 : decode cX5_copy 92 = .ok (.isub, 1) := by decide +kernel
theorem dX5_copy_93 : decode cX5_copy 93 = .ok (.if_icmp .gt 17, 3) := by decide +kernel
theorem dX5_copy_96 : decode cX5_copy 96 = .ok (.iload 5, 2) := by decide +kernel
theorem dX5_copy_98 : decode cX5_copy 98 = .ok (.aload_n 0, 1) := by decide +kernel
theorem dX5_copy_99 : decode cX5_copy 99 = .ok (.getfield 31, 3) := by decide +kernel
theorem dX5_copy_102 : decode cX5_copy 102 = .ok (.iload_n 3, 1) := by decide +kernel
theorem dX5_copy_103 : decode cX5_copy 103 = .ok (.iaload, 1) := by decide +kernel
theorem dX5_copy_104 : decode cX5_copy 104 = .ok (.iload 4, 2) := by decide +kernel
theorem dX5_copy_106 : decode cX5_copy 106 = .ok (.isub, 1) := by decide +kernel
theorem dX5_copy_107 : decode cX5_copy 107 = .ok (.if_icmp .le 10, 3) := by decide +kernel
theorem dX5_copy_110 : decode cX5_copy 110 = .ok (.aload_n 0, 1) := by decide +kernel
theorem dX5_copy_111 : decode cX5_copy 111 = .ok (.ldc 41, 2) := by decide +kernel
theorem dX5_copy_113 : decode cX5_copy 113 = .ok (.invokevirtual 65, 3) := by decide +kernel
theorem dX5_copy_116 : decode cX5_copy 116 = .ok (.ireturn, 1) := by decide +kernel
theorem dX5_copy_117 : decode cX5_copy 117 = .ok (.iconst 0, 1) := by decide +kernel
theorem dX5_copy_118 : decode cX5_copy 118 = .ok (.istore 6, 2) := by decide +kernel
theorem dX5_copy_120 : decode cX5_copy 120 = .ok (.iload 6, 2) := by decide +kernel
theorem dX5_copy_122 : decode cX5_copy 122 = .ok (.iload 5, 2) := by decide +kernel
theorem dX5_copy_124 : decode cX5_copy 124 = .ok (.if_icmp .ge 30, 3) := by decide +kernel
theorem dX5_copy_127 : decode cX5_copy 127 = .ok (.aload_n 0, 1) := by decide +kernel
theorem dX5_copy_128 : decode cX5_copy 128 = .ok (.getfield 38, 3) := by decide +kernel
theorem dX5_copy_131 : decode cX5_copy 131 = .ok (.iload 6, 2) := by decide +kernel
theorem dX5_copy_133 : decode cX5_copy 133 = .ok (.aload_n 0, 1) := by decide +kernel
theorem dX5_copy_134 : decode cX5_copy 134 = .ok (.getfield 34, 3) := by decide +kernel
theorem dX5_copy_137 : decode cX5_copy 137 = .ok (.bipush 40, 2) := by decide +kernel
theorem dX5_copy_139 : decode cX5_copy 139 = .ok (.iload_n 1, 1) := by decide +kernel
theorem dX5_copy_140 : decode cX5_copy 140 = .ok (.imul, 1) := by decide +kernel
theorem dX5_copy_141 : decode cX5_copy 141 = .ok (.iload_n 2, 1) := by decide +kernel
theorem dX5_copy_142 : decode cX5_copy 142 = .ok (.iadd, 1) := by decide +kernel
theorem dX5_copy_143 : decode cX5_copy 143 = .ok (.iload 6, 2) := by decide +kernel
theorem dX5_copy_145 : decode cX5_copy 145 = .ok (.iadd, 1) := by decide +kernel
theorem dX5_copy_146 : decode cX5_copy 146 = .ok (.laload, 1) := by decide +kernel
theorem dX5_copy_147 : decode cX5_copy 147 = .ok (.lastore, 1) := by decide +kernel
theorem dX5_copy_148 : decode cX5_copy 148 = .ok (.iinc 6 1, 3) := by decide +kernel
theorem dX5_copy_151 : decode cX5_copy 151 = .ok (.goto (-31), 3) := by decide +kernel
theorem dX5_copy_154 : decode cX5_copy 154 = .ok (.iconst 0, 1) := by decide +kernel
theorem dX5_copy_155 : decode cX5_copy 155 = .ok (.istore 6, 2) := by decide +kernel
theorem dX5_copy_157 : decode cX5_copy 157 = .ok (.iload 6, 2) := by decide +kernel
theorem dX5_copy_159 : decode cX5_copy 159 = .ok (.iload 5, 2) := by decide +kernel
theorem dX5_copy_161 : decode cX5_copy 161 = .ok (.if_icmp .ge 31, 3) := by decide +kernel
theorem dX5_copy_164 : decode cX5_copy 164 = .ok (.aload_n 0, 1) := by decide +kernel
theorem dX5_copy_165 : decode cX5_copy 165 = .ok (.getfield 34, 3) := by decide +kernel
theorem dX5_copy_168 : decode cX5_copy 168 = .ok (.bipush 40, 2) := by decide +kernel
theorem dX5_copy_170 : decode cX5_copy 170 = .ok (.iload_n 3, 1) := by decide +kernel
theorem dX5_copy_171 : decode cX5_copy 171 = .ok (.imul, 1) := by decide +kernel
theorem dX5_copy_172 : decode cX5_copy 172 = .ok (.iload 4, 2) := by decide +kernel
theorem dX5_copy_174 : decode cX5_copy 174 = .ok (.iadd, 1) := by decide +kernel
theorem dX5_copy_175 : decode cX5_copy 175 = .ok (.iload 6, 2) := by decide +kernel
theorem dX5_copy_177 : decode cX5_copy 177 = .ok (.iadd, 1) := by decide +kernel
theorem dX5_copy_178 : decode cX5_copy 178 = .ok (.aload_n 0, 1) := by decide +kernel
theorem dX5_copy_179 : decode cX5_copy 179 = .ok (.getfield 38, 3) := by decide +kernel
theorem dX5_copy_182 : decode cX5_copy 182 = .ok (.iload 6, 2) := by decide +kernel
theorem dX5_copy_184 : decode cX5_copy 184 = .ok (.laload, 1) := by decide +kernel
theorem dX5_copy_185 : decode cX5_copy 185 = .ok (.lastore, 1) := by decide +kernel
theorem dX5_copy_186 : decode cX5_copy 186 = .ok (.iinc 6 1, 3) := by decide +kernel
theorem dX5_copy_189 : decode cX5_copy 189 = .ok (.goto (-32), 3) := by decide +kernel
theorem dX5_copy_192 : decode cX5_copy 192 = .ok (.iload 5, 2) := by decide +kernel
theorem dX5_copy_194 : decode cX5_copy 194 = .ok (.ireturn, 1) := by decide +kernel
theorem dX5_lays_0 : decode cX5_lays 0 = .ok (.aload_n 0, 1) := by decide +kernel
theorem dX5_lays_1 : decode cX5_lays 1 = .ok (.iload_n 1, 1) := by decide +kernel
theorem dX5_lays_2 : decode cX5_lays 2 = .ok (.invokevirtual 328, 3) := by decide +kernel
theorem dX5_lays_5 : decode cX5_lays 5 = .ok (.istore_n 2, 1) := by decide +kernel
theorem dX5_lays_6 : decode cX5_lays 6 = .ok (.iload_n 2, 1) := by decide +kernel
theorem dX5_lays_7 : decode cX5_lays 7 = .ok (.ifCond .eq 9, 3) := by decide +kernel
theorem dX5_lays_10 : decode cX5_lays 10 = .ok (.aload_n 0, 1) := by decide +kernel
theorem dX5_lays_11 : decode cX5_lays 11 = .ok (.iload_n 2, 1) := by decide +kernel
theorem dX5_lays_12 : decode cX5_lays 12 = .ok (.invokevirtual 65, 3) := by decide +kernel
theorem dX5_lays_15 : decode cX5_lays 15 = .ok (.ireturn, 1) := by decide +kernel
theorem dX5_lays_16 : decode cX5_lays 16 = .ok (.iconst 0, 1) := by decide +kernel
theorem dX5_lays_17 : decode cX5_lays 17 = .ok (.istore_n 3, 1) := by decide +kernel
theorem dX5_lays_18 : decode cX5_lays 18 = .ok (.iconst 0, 1) := by decide +kernel
theorem dX5_lays_19 : decode cX5_lays 19 = .ok (.istore 4, 2) := by decide +kernel
theorem dX5_lays_21 : decode cX5_lays 21 = .ok (.iload 4, 2) := by decide +kernel
theorem dX5_lays_23 : decode cX5_lays 23 = .ok (.aload_n 0, 1) := by decide +kernel
theorem dX5_lays_24 : decode cX5_lays 24 = .ok (.getfield 31, 3) := by decide +kernel
theorem dX5_lays_27 : decode cX5_lays 27 = .ok (.iload_n 1, 1) := by decide +kernel
theorem dX5_lays_28 : decode cX5_lays 28 = .ok (.iaload, 1) := by decide +kernel
theorem dX5_lays_29 : decode cX5_lays 29 = .ok (.if_icmp .ge 59, 3) := by decide +kernel
theorem dX5_lays_32 : decode cX5_lays 32 = .ok (.iload 4, 2) := by decide +kernel
theorem dX5_lays_34 : decode cX5_lays 34 = .ok (.aload_n 0, 1) := by decide +kernel
theorem dX5_lays_35 : decode cX5_lays 35 = .ok (.getfield 7, 3) := by decide +kernel
theorem dX5_lays_38 : decode cX5_lays 38 = .ok (.iconst 1, 1) := by decide +kernel
theorem dX5_lays_39 : decode cX5_lays 39 = .ok (.iaload, 1) := by decide +kernel
theorem dX5_lays_40 : decode cX5_lays 40 = .ok (.if_icmp .ge 48, 3) := by decide +kernel
theorem dX5_lays_43 : decode cX5_lays 43 = .ok (.aload_n 0, 1) := by decide +kernel
theorem dX5_lays_44 : decode cX5_lays 44 = .ok (.getfield 34, 3) := by decide +kernel
theorem dX5_lays_47 : decode cX5_lays 47 = .ok (.bipush 40, 2) := by decide +kernel
theorem dX5_lays_49 : decode cX5_lays 49 = .ok (.iload_n 1, 1) := by decide +kernel
theorem dX5_lays_50 : decode cX5_lays 50 = .ok (.imul, 1) := by decide +kernel
theorem dX5_lays_51 : decode cX5_lays 51 = .ok (.iload 4, 2) := by decide +kernel
theorem dX5_lays_53 : decode cX5_lays 53 = .ok (.iadd, 1) := by decide +kernel
theorem dX5_lays_54 : decode cX5_lays 54 = .ok (.laload, 1) := by decide +kernel
theorem dX5_lays_55 : decode cX5_lays 55 = .ok (.lstore 5, 2) := by decide +kernel
theorem dX5_lays_57 : decode cX5_lays 57 = .ok (.lload 5, 2) := by decide +kernel
theorem dX5_lays_59 : decode cX5_lays 59 = .ok (.invokestatic 110, 3) := by decide +kernel
theorem dX5_lays_62 : decode cX5_lays 62 = .ok (.ifCond .eq 20, 3) := by decide +kernel
theorem dX5_lays_65 : decode cX5_lays 65 = .ok (.aload_n 0, 1) := by decide +kernel
theorem dX5_lays_66 : decode cX5_lays 66 = .ok (.getfield 7, 3) := by decide +kernel
theorem dX5_lays_69 : decode cX5_lays 69 = .ok (.iload 4, 2) := by decide +kernel
theorem dX5_lays_71 : decode cX5_lays 71 = .ok (.iconst 2, 1) := by decide +kernel
theorem dX5_lays_72 : decode cX5_lays 72 = .ok (.invokestatic 58, 3) := by decide +kernel
theorem dX5_lays_75 : decode cX5_lays 75 = .ok (.lload 5, 2) := by decide +kernel
theorem dX5_lays_77 : decode cX5_lays 77 = .ok (.l2i, 1) := by decide +kernel
theorem dX5_lays_78 : decode cX5_lays 78 = .ok (.iastore, 1) := by decide +kernel
theorem dX5_lays_79 : decode cX5_lays 79 = .ok (.iinc 3 1, 3) := by decide +kernel
theorem dX5_lays_82 : decode cX5_lays 82 = .ok (.iinc 4 1, 3) := by decide +kernel
theorem dX5_lays_85 : decode cX5_lays 85 = .ok (.goto (-64), 3) := by decide +kernel
theorem dX5_lays_88 : decode cX5_lays 88 = .ok (.iload_n 3, 1) := by decide +kernel
theorem dX5_lays_89 : decode cX5_lays 89 = .ok (.ireturn, 1) := by decide +kernel
theorem dX5_wrongBook_0 : decode cX5_wrongBook 0 = .ok (.aload_n 0, 1) := by decide +kernel
theorem dX5_wrongBook_1 : decode cX5_wrongBook 1 = .ok (.iload_n 1, 1) := by decide +kernel
theorem dX5_wrongBook_2 : decode cX5_wrongBook 2 = .ok (.invokevirtual 328, 3) := by decide +kernel
theorem dX5_wrongBook_5 : decode cX5_wrongBook 5 = .ok (.istore_n 3, 1) := by decide +kernel
theorem dX5_wrongBook_6 : decode cX5_wrongBook 6 = .ok (.iload_n 3, 1) := by decide +kernel
theorem dX5_wrongBook_7 : decode cX5_wrongBook 7 = .ok (.ifCond .eq 7, 3) := by decide +kernel
theorem dX5_wrongBook_10 : decode cX5_wrongBook 10 = .ok (.iload_n 3, 1) := by decide +kernel
theorem dX5_wrongBook_11 : decode cX5_wrongBook 11 = .ok (.goto 17, 3) := by decide +kernel
theorem dX5_wrongBook_14 : decode cX5_wrongBook 14 = .ok (.aload_n 0, 1) := by decide +kernel
theorem dX5_wrongBook_15 : decode cX5_wrongBook 15 = .ok (.iload_n 2, 1) := by decide +kernel
theorem dX5_wrongBook_16 : decode cX5_wrongBook 16 = .ok (.invokevirtual 54, 3) := by decide +kernel
theorem dX5_wrongBook_19 : decode cX5_wrongBook 19 = .ok (.ifCond .eq 7, 3) := by decide +kernel
theorem dX5_wrongBook_22 : decode cX5_wrongBook 22 = .ok (.iconst 0, 1) := by decide +kernel
theorem dX5_wrongBook_23 : decode cX5_wrongBook 23 = .ok (.goto 5, 3) := by decide +kernel
theorem dX5_wrongBook_26 : decode cX5_wrongBook 26 = .ok (.ldc 41, 2) := by decide +kernel
theorem dX5_wrongBook_28 : decode cX5_wrongBook 28 = .ok (.ireturn, 1) := by decide +kernel
theorem dX5_book_0 : decode cX5_book 0 = .ok (.aload_n 0, 1) := by decide +kernel
theorem dX5_book_1 : decode cX5_book 1 = .ok (.iload_n 1, 1) := by decide +kernel
theorem dX5_book_2 : decode cX5_book 2 = .ok (.iload_n 2, 1) := by decide +kernel
theorem dX5_book_3 : decode cX5_book 3 = .ok (.invokevirtual 335, 3) := by decide +kernel
theorem dX5_book_6 : decode cX5_book 6 = .ok (.istore_n 3, 1) := by decide +kernel
theorem dX5_book_7 : decode cX5_book 7 = .ok (.iload_n 3, 1) := by decide +kernel
theorem dX5_book_8 : decode cX5_book 8 = .ok (.ifCond .eq 9, 3) := by decide +kernel
theorem dX5_book_11 : decode cX5_book 11 = .ok (.aload_n 0, 1) := by decide +kernel
theorem dX5_book_12 : decode cX5_book 12 = .ok (.iload_n 3, 1) := by decide +kernel
theorem dX5_book_13 : decode cX5_book 13 = .ok (.invokevirtual 65, 3) := by decide +kernel
theorem dX5_book_16 : decode cX5_book 16 = .ok (.ireturn, 1) := by decide +kernel
theorem dX5_book_17 : decode cX5_book 17 = .ok (.aload_n 0, 1) := by decide +kernel
theorem dX5_book_18 : decode cX5_book 18 = .ok (.invokevirtual 172, 3) := by decide +kernel
theorem dX5_book_21 : decode cX5_book 21 = .ok (.iconst 0, 1) := by decide +kernel
theorem dX5_book_22 : decode cX5_book 22 = .ok (.istore 4, 2) := by decide +kernel
theorem dX5_book_24 : decode cX5_book 24 = .ok (.iload 4, 2) := by decide +kernel
theorem dX5_book_26 : decode cX5_book 26 = .ok (.aload_n 0, 1) := by decide +kernel
theorem dX5_book_27 : decode cX5_book 27 = .ok (.getfield 31, 3) := by decide +kernel
theorem dX5_book_30 : decode cX5_book 30 = .ok (.iload_n 1, 1) := by decide +kernel
theorem dX5_book_31 : decode cX5_book 31 = .ok (.iaload, 1) := by decide +kernel
theorem dX5_book_32 : decode cX5_book 32 = .ok (.if_icmp .ge 32, 3) := by decide +kernel
theorem dX5_book_35 : decode cX5_book 35 = .ok (.aload_n 0, 1) := by decide +kernel
theorem dX5_book_36 : decode cX5_book 36 = .ok (.getfield 34, 3) := by decide +kernel
theorem dX5_book_39 : decode cX5_book 39 = .ok (.bipush 40, 2) := by decide +kernel
theorem dX5_book_41 : decode cX5_book 41 = .ok (.iload_n 1, 1) := by decide +kernel
theorem dX5_book_42 : decode cX5_book 42 = .ok (.imul, 1) := by decide +kernel
theorem dX5_book_43 : decode cX5_book 43 = .ok (.iload 4, 2) := by decide +kernel
theorem dX5_book_45 : decode cX5_book 45 = .ok (.iadd, 1) := by decide +kernel
theorem dX5_book_46 : decode cX5_book 46 = .ok (.aload_n 0, 1) := by decide +kernel
theorem dX5_book_47 : decode cX5_book 47 = .ok (.iload_n 2, 1) := by decide +kernel
theorem dX5_book_48 : decode cX5_book 48 = .ok (.iconst 1, 1) := by decide +kernel
theorem dX5_book_49 : decode cX5_book 49 = .ok (.invokevirtual 83, 3) := by decide +kernel
theorem dX5_book_52 : decode cX5_book 52 = .ok (.i2l, 1) := by decide +kernel
theorem dX5_book_53 : decode cX5_book 53 = .ok (.lastore, 1) := by decide +kernel
theorem dX5_book_54 : decode cX5_book 54 = .ok (.aload_n 0, 1) := by decide +kernel
theorem dX5_book_55 : decode cX5_book 55 = .ok (.invokevirtual 155, 3) := by decide +kernel
theorem dX5_book_58 : decode cX5_book 58 = .ok (.iinc 4 1, 3) := by decide +kernel
theorem dX5_book_61 : decode cX5_book 61 = .ok (.goto (-37), 3) := by decide +kernel
theorem dX5_book_64 : decode cX5_book 64 = .ok (.aload_n 0, 1) := by decide +kernel
theorem dX5_book_65 : decode cX5_book 65 = .ok (.aload_n 0, 1) := by decide +kernel
theorem dX5_book_66 : decode cX5_book 66 = .ok (.getfield 31, 3) := by decide +kernel
theorem dX5_book_69 : decode cX5_book 69 = .ok (.iload_n 1, 1) := by decide +kernel
theorem dX5_book_70 : decode cX5_book 70 = .ok (.iaload, 1) := by decide +kernel
theorem dX5_book_71 : decode cX5_book 71 = .ok (.invokevirtual 175, 3) := by decide +kernel
theorem dX5_book_74 : decode cX5_book 74 = .ok (.ireturn, 1) := by decide +kernel
theorem dX5_isSo_0 : decode cX5_isSo 0 = .ok (.iconst 1, 1) := by decide +kernel
theorem dX5_isSo_1 : decode cX5_isSo 1 = .ok (.istore_n 3, 1) := by decide +kernel
theorem dX5_isSo_2 : decode cX5_isSo 2 = .ok (.iconst 0, 1) := by decide +kernel
theorem dX5_isSo_3 : decode cX5_isSo 3 = .ok (.istore 4, 2) := by decide +kernel
theorem dX5_isSo_5 : decode cX5_isSo 5 = .ok (.iload 4, 2) := by decide +kernel
theorem dX5_isSo_7 : decode cX5_isSo 7 = .ok (.aload_n 0, 1) := by decide +kernel
theorem dX5_isSo_8 : decode cX5_isSo 8 = .ok (.getfield 31, 3) := by decide +kernel
theorem dX5_isSo_11 : decode cX5_isSo 11 = .ok (.iload_n 1, 1) := by decide +kernel
theorem dX5_isSo_12 : decode cX5_isSo 12 = .ok (.iaload, 1) := by decide +kernel
theorem dX5_isSo_13 : decode cX5_isSo 13 = .ok (.if_icmp .ge 46, 3) := by decide +kernel
theorem dX5_isSo_16 : decode cX5_isSo 16 = .ok (.iload_n 3, 1) := by decide +kernel
theorem dX5_isSo_17 : decode cX5_isSo 17 = .ok (.ifCond .eq 42, 3) := by decide +kernel
theorem dX5_isSo_20 : decode cX5_isSo 20 = .ok (.aload_n 0, 1) := by decide +kernel
theorem dX5_isSo_21 : decode cX5_isSo 21 = .ok (.getfield 34, 3) := by decide +kernel
theorem dX5_isSo_24 : decode cX5_isSo 24 = .ok (.bipush 40, 2) := by decide +kernel
theorem dX5_isSo_26 : decode cX5_isSo 26 = .ok (.iload_n 1, 1) := by decide +kernel
theorem dX5_isSo_27 : decode cX5_isSo 27 = .ok (.imul, 1) := by decide +kernel
theorem dX5_isSo_28 : decode cX5_isSo 28 = .ok (.iload 4, 2) := by decide +kernel
theorem dX5_isSo_30 : decode cX5_isSo 30 = .ok (.iadd, 1) := by decide +kernel
theorem dX5_isSo_31 : decode cX5_isSo 31 = .ok (.laload, 1) := by decide +kernel
theorem dX5_isSo_32 : decode cX5_isSo 32 = .ok (.aload_n 0, 1) := by decide +kernel
theorem dX5_isSo_33 : decode cX5_isSo 33 = .ok (.iload_n 2, 1) := by decide +kernel
theorem dX5_isSo_34 : decode cX5_isSo 34 = .ok (.iconst 1, 1) := by decide +kernel
theorem dX5_isSo_35 : decode cX5_isSo 35 = .ok (.invokevirtual 83, 3) := by decide +kernel
theorem dX5_isSo_38 : decode cX5_isSo 38 = .ok (.i2l, 1) := by decide +kernel
theorem dX5_isSo_39 : decode cX5_isSo 39 = .ok (.lcmp, 1) := by decide +kernel
theorem dX5_isSo_40 : decode cX5_isSo 40 = .ok (.ifCond .ne 7, 3) := by decide +kernel
theorem dX5_isSo_43 : decode cX5_isSo 43 = .ok (.iconst 1, 1) := by decide +kernel
theorem dX5_isSo_44 : decode cX5_isSo 44 = .ok (.goto 4, 3) := by decide +kernel
theorem dX5_isSo_47 : decode cX5_isSo 47 = .ok (.iconst 0, 1) := by decide +kernel
theorem dX5_isSo_48 : decode cX5_isSo 48 = .ok (.istore_n 3, 1) := by decide +kernel
theorem dX5_isSo_49 : decode cX5_isSo 49 = .ok (.aload_n 0, 1) := by decide +kernel
theorem dX5_isSo_50 : decode cX5_isSo 50 = .ok (.invokevirtual 155, 3) := by decide +kernel
theorem dX5_isSo_53 : decode cX5_isSo 53 = .ok (.iinc 4 1, 3) := by decide +kernel
theorem dX5_isSo_56 : decode cX5_isSo 56 = .ok (.goto (-51), 3) := by decide +kernel
theorem dX5_isSo_59 : decode cX5_isSo 59 = .ok (.iload_n 3, 1) := by decide +kernel
theorem dX5_isSo_60 : decode cX5_isSo 60 = .ok (.ifCond .eq 7, 3) := by decide +kernel
theorem dX5_isSo_63 : decode cX5_isSo 63 = .ok (.iconst 1, 1) := by decide +kernel
theorem dX5_isSo_64 : decode cX5_isSo 64 = .ok (.goto 4, 3) := by decide +kernel
theorem dX5_isSo_67 : decode cX5_isSo 67 = .ok (.iconst 0, 1) := by decide +kernel
theorem dX5_isSo_68 : decode cX5_isSo 68 = .ok (.ireturn, 1) := by decide +kernel
theorem dX5_read_0 : decode cX5_read 0 = .ok (.aload_n 0, 1) := by decide +kernel
theorem dX5_read_1 : decode cX5_read 1 = .ok (.iload_n 1, 1) := by decide +kernel
theorem dX5_read_2 : decode cX5_read 2 = .ok (.iload_n 2, 1) := by decide +kernel
theorem dX5_read_3 : decode cX5_read 3 = .ok (.invokevirtual 335, 3) := by decide +kernel
theorem dX5_read_6 : decode cX5_read 6 = .ok (.istore_n 3, 1) := by decide +kernel
theorem dX5_read_7 : decode cX5_read 7 = .ok (.iload_n 3, 1) := by decide +kernel
theorem dX5_read_8 : decode cX5_read 8 = .ok (.ifCond .eq 9, 3) := by decide +kernel
theorem dX5_read_11 : decode cX5_read 11 = .ok (.aload_n 0, 1) := by decide +kernel
theorem dX5_read_12 : decode cX5_read 12 = .ok (.iload_n 3, 1) := by decide +kernel
theorem dX5_read_13 : decode cX5_read 13 = .ok (.invokevirtual 65, 3) := by decide +kernel
theorem dX5_read_16 : decode cX5_read 16 = .ok (.ireturn, 1) := by decide +kernel
theorem dX5_read_17 : decode cX5_read 17 = .ok (.aload_n 0, 1) := by decide +kernel
theorem dX5_read_18 : decode cX5_read 18 = .ok (.invokevirtual 172, 3) := by decide +kernel
theorem dX5_read_21 : decode cX5_read 21 = .ok (.iconst 0, 1) := by decide +kernel
theorem dX5_read_22 : decode cX5_read 22 = .ok (.istore 4, 2) := by decide +kernel
theorem dX5_read_24 : decode cX5_read 24 = .ok (.iconst 0, 1) := by decide +kernel
theorem dX5_read_25 : decode cX5_read 25 = .ok (.istore 5, 2) := by decide +kernel
theorem dX5_read_27 : decode cX5_read 27 = .ok (.iload 5, 2) := by decide +kernel
theorem dX5_read_29 : decode cX5_read 29 = .ok (.iconst 5, 1) := by decide +kernel
theorem dX5_read_30 : decode cX5_read 30 = .ok (.if_icmp .gt 60, 3) := by decide +kernel
theorem dX5_read_33 : decode cX5_read 33 = .ok (.iconst 0, 1) := by decide +kernel
theorem dX5_read_34 : decode cX5_read 34 = .ok (.istore 6, 2) := by decide +kernel
theorem dX5_read_36 : decode cX5_read 36 = .ok (.iload 6, 2) := by decide +kernel
theorem dX5_read_38 : decode cX5_read 38 = .ok (.bipush 30, 2) := by decide +kernel
theorem dX5_read_40 : decode cX5_read 40 = .ok (.if_icmp .ge 44, 3) := by decide +kernel
theorem dX5_read_43 : decode cX5_read 43 = .ok (.aload_n 0, 1) := by decide +kernel
theorem dX5_read_44 : decode cX5_read 44 = .ok (.getfield 7, 3) := by decide +kernel
theorem dX5_read_47 : decode cX5_read 47 = .ok (.iload_n 2, 1) := by decide +kernel
theorem dX5_read_48 : decode cX5_read 48 = .ok (.iconst 0, 1) := by decide +kernel
theorem dX5_read_49 : decode cX5_read 49 = .ok (.invokestatic 58, 3) := by decide +kernel
theorem dX5_read_52 : decode cX5_read 52 = .ok (.iload 5, 2) := by decide +kernel
theorem dX5_read_54 : decode cX5_read 54 = .ok (.iastore, 1) := by decide +kernel
theorem dX5_read_55 : decode cX5_read 55 = .ok (.aload_n 0, 1) := by decide +kernel
theorem dX5_read_56 : decode cX5_read 56 = .ok (.getfield 7, 3) := by decide +kernel
theorem dX5_read_59 : decode cX5_read 59 = .ok (.iconst 3, 1) := by decide +kernel
theorem dX5_read_60 : decode cX5_read 60 = .ok (.iload 6, 2) := by decide +kernel
theorem dX5_read_62 : decode cX5_read 62 = .ok (.iastore, 1) := by decide +kernel
theorem dX5_read_63 : decode cX5_read 63 = .ok (.iload 4, 2) := by decide +kernel
theorem dX5_read_65 : decode cX5_read 65 = .ok (.aload_n 0, 1) := by decide +kernel
theorem dX5_read_66 : decode cX5_read 66 = .ok (.aload_n 0, 1) := by decide +kernel
theorem dX5_read_67 : decode cX5_read 67 = .ok (.iload_n 1, 1) := by decide +kernel
theorem dX5_read_68 : decode cX5_read 68 = .ok (.iload_n 2, 1) := by decide +kernel
theorem dX5_read_69 : decode cX5_read 69 = .ok (.invokevirtual 338, 3) := by decide +kernel
theorem dX5_read_72 : decode cX5_read 72 = .ok (.invokevirtual 175, 3) := by decide +kernel
theorem dX5_read_75 : decode cX5_read 75 = .ok (.iadd, 1) := by decide +kernel
theorem dX5_read_76 : decode cX5_read 76 = .ok (.istore 4, 2) := by decide +kernel
theorem dX5_read_78 : decode cX5_read 78 = .ok (.iinc 6 1, 3) := by decide +kernel
theorem dX5_read_81 : decode cX5_read 81 = .ok (.goto (-45), 3) := by decide +kernel
theorem dX5_read_84 : decode cX5_read 84 = .ok (.iinc 5 1, 3) := by decide +kernel
theorem dX5_read_87 : decode cX5_read 87 = .ok (.goto (-60), 3) := by decide +kernel
theorem dX5_read_90 : decode cX5_read 90 = .ok (.iload 4, 2) := by decide +kernel
theorem dX5_read_92 : decode cX5_read 92 = .ok (.ireturn, 1) := by decide +kernel
theorem dX5_image_0 : decode cX5_image 0 = .ok (.iconst 0, 1) := by decide +kernel
theorem dX5_image_1 : decode cX5_image 1 = .ok (.istore_n 1, 1) := by decide +kernel
theorem dX5_image_2 : decode cX5_image 2 = .ok (.iload_n 1, 1) := by decide +kernel
theorem dX5_image_3 : decode cX5_image 3 = .ok (.bipush 39, 2) := by decide +kernel
theorem dX5_image_5 : decode cX5_image 5 = .ok (.if_icmp .ge 21, 3) := by decide +kernel
theorem dX5_image_8 : decode cX5_image 8 = .ok (.aload_n 0, 1) := by decide +kernel
theorem dX5_image_9 : decode cX5_image 9 = .ok (.getfield 13, 3) := by decide +kernel
theorem dX5_image_12 : decode cX5_image 12 = .ok (.iload_n 1, 1) := by decide +kernel
theorem dX5_image_13 : decode cX5_image 13 = .ok (.aload_n 0, 1) := by decide +kernel
theorem dX5_image_14 : decode cX5_image 14 = .ok (.getfield 7, 3) := by decide +kernel
theorem dX5_image_17 : decode cX5_image 17 = .ok (.iload_n 1, 1) := by decide +kernel
theorem dX5_image_18 : decode cX5_image 18 = .ok (.iaload, 1) := by decide +kernel
theorem dX5_image_19 : decode cX5_image 19 = .ok (.iastore, 1) := by decide +kernel
theorem dX5_image_20 : decode cX5_image 20 = .ok (.iinc 1 1, 3) := by decide +kernel
theorem dX5_image_23 : decode cX5_image 23 = .ok (.goto (-21), 3) := by decide +kernel
theorem dX5_image_26 : decode cX5_image 26 = .ok (.aload_n 0, 1) := by decide +kernel
theorem dX5_image_27 : decode cX5_image 27 = .ok (.iconst 1, 1) := by decide +kernel
theorem dX5_image_28 : decode cX5_image 28 = .ok (.putfield 341, 3) := by decide +kernel
theorem dX5_image_31 : decode cX5_image 31 = .ok (.iconst 1, 1) := by decide +kernel
theorem dX5_image_32 : decode cX5_image 32 = .ok (.ireturn, 1) := by decide +kernel
theorem dX5_undo_0 : decode cX5_undo 0 = .ok (.aload_n 0, 1) := by decide +kernel
theorem dX5_undo_1 : decode cX5_undo 1 = .ok (.getfield 341, 3) := by decide +kernel
theorem dX5_undo_4 : decode cX5_undo 4 = .ok (.ifCond .ne 10, 3) := by decide +kernel
theorem dX5_undo_7 : decode cX5_undo 7 = .ok (.aload_n 0, 1) := by decide +kernel
theorem dX5_undo_8 : decode cX5_undo 8 = .ok (.ldc 137, 2) := by decide +kernel
theorem dX5_undo_10 : decode cX5_undo 10 = .ok (.invokevirtual 65, 3) := by decide +kernel
theorem dX5_undo_13 : decode cX5_undo 13 = .ok (.ireturn, 1) := by decide +kernel
theorem dX5_undo_14 : decode cX5_undo 14 = .ok (.iconst 0, 1) := by decide +kernel
theorem dX5_undo_15 : decode cX5_undo 15 = .ok (.istore_n 1, 1) := by decide +kernel
theorem dX5_undo_16 : decode cX5_undo 16 = .ok (.iload_n 1, 1) := by decide +kernel
theorem dX5_undo_17 : decode cX5_undo 17 = .ok (.bipush 39, 2) := by decide +kernel
theorem dX5_undo_19 : decode cX5_undo 19 = .ok (.if_icmp .ge 21, 3) := by decide +kernel
theorem dX5_undo_22 : decode cX5_undo 22 = .ok (.aload_n 0, 1) := by decide +kernel
theorem dX5_undo_23 : decode cX5_undo 23 = .ok (.getfield 7, 3) := by decide +kernel
theorem dX5_undo_26 : decode cX5_undo 26 = .ok (.iload_n 1, 1) := by decide +kernel
theorem dX5_undo_27 : decode cX5_undo 27 = .ok (.aload_n 0, 1) := by decide +kernel
theorem dX5_undo_28 : decode cX5_undo 28 = .ok (.getfield 13, 3) := by decide +kernel
theorem dX5_undo_31 : decode cX5_undo 31 = .ok (.iload_n 1, 1) := by decide +kernel
theorem dX5_undo_32 : decode cX5_undo 32 = .ok (.iaload, 1) := by decide +kernel
theorem dX5_undo_33 : decode cX5_undo 33 = .ok (.iastore, 1) := by decide +kernel
theorem dX5_undo_34 : decode cX5_undo 34 = .ok (.iinc 1 1, 3) := by decide +kernel
theorem dX5_undo_37 : decode cX5_undo 37 = .ok (.goto (-21), 3) := by decide +kernel
theorem dX5_undo_40 : decode cX5_undo 40 = .ok (.aload_n 0, 1) := by decide +kernel
theorem dX5_undo_41 : decode cX5_undo 41 = .ok (.getfield 7, 3) := by decide +kernel
theorem dX5_undo_44 : decode cX5_undo 44 = .ok (.iconst 1, 1) := by decide +kernel
theorem dX5_undo_45 : decode cX5_undo 45 = .ok (.iaload, 1) := by decide +kernel
theorem dX5_undo_46 : decode cX5_undo 46 = .ok (.ireturn, 1) := by decide +kernel
theorem dX5_tear_0 : decode cX5_tear 0 = .ok (.aload_n 0, 1) := by decide +kernel
theorem dX5_tear_1 : decode cX5_tear 1 = .ok (.getfield 341, 3) := by decide +kernel
theorem dX5_tear_4 : decode cX5_tear 4 = .ok (.ifCond .eq 7, 3) := by decide +kernel
theorem dX5_tear_7 : decode cX5_tear 7 = .ok (.iconst 1, 1) := by decide +kernel
theorem dX5_tear_8 : decode cX5_tear 8 = .ok (.goto 4, 3) := by decide +kernel
theorem dX5_tear_11 : decode cX5_tear 11 = .ok (.iconst 0, 1) := by decide +kernel
theorem dX5_tear_12 : decode cX5_tear 12 = .ok (.istore_n 1, 1) := by decide +kernel
theorem dX5_tear_13 : decode cX5_tear 13 = .ok (.aload_n 0, 1) := by decide +kernel
theorem dX5_tear_14 : decode cX5_tear 14 = .ok (.iconst 0, 1) := by decide +kernel
theorem dX5_tear_15 : decode cX5_tear 15 = .ok (.putfield 341, 3) := by decide +kernel
theorem dX5_tear_18 : decode cX5_tear 18 = .ok (.iload_n 1, 1) := by decide +kernel
theorem dX5_tear_19 : decode cX5_tear 19 = .ok (.ireturn, 1) := by decide +kernel
theorem dX5_tipped_0 : decode cX5_tipped 0 = .ok (.iconst 0, 1) := by decide +kernel
theorem dX5_tipped_1 : decode cX5_tipped 1 = .ok (.istore_n 1, 1) := by decide +kernel
theorem dX5_tipped_2 : decode cX5_tipped 2 = .ok (.iconst 0, 1) := by decide +kernel
theorem dX5_tipped_3 : decode cX5_tipped 3 = .ok (.istore_n 2, 1) := by decide +kernel
theorem dX5_tipped_4 : decode cX5_tipped 4 = .ok (.iload_n 2, 1) := by decide +kernel
theorem dX5_tipped_5 : decode cX5_tipped 5 = .ok (.aload_n 0, 1) := by decide +kernel
theorem dX5_tipped_6 : decode cX5_tipped 6 = .ok (.getfield 7, 3) := by decide +kernel
theorem dX5_tipped_9 : decode cX5_tipped 9 = .ok (.iconst 1, 1) := by decide +kernel
theorem dX5_tipped_10 : decode cX5_tipped 10 = .ok (.iaload, 1) := by decide +kernel
theorem dX5_tipped_11 : decode cX5_tipped 11 = .ok (.if_icmp .ge 18, 3) := by decide +kernel
theorem dX5_tipped_14 : decode cX5_tipped 14 = .ok (.iload_n 1, 1) := by decide +kernel
theorem dX5_tipped_15 : decode cX5_tipped 15 = .ok (.aload_n 0, 1) := by decide +kernel
theorem dX5_tipped_16 : decode cX5_tipped 16 = .ok (.iload_n 2, 1) := by decide +kernel
theorem dX5_tipped_17 : decode cX5_tipped 17 = .ok (.iconst 3, 1) := by decide +kernel
theorem dX5_tipped_18 : decode cX5_tipped 18 = .ok (.invokevirtual 83, 3) := by decide +kernel
theorem dX5_tipped_21 : decode cX5_tipped 21 = .ok (.iadd, 1) := by decide +kernel
theorem dX5_tipped_22 : decode cX5_tipped 22 = .ok (.istore_n 1, 1) := by decide +kernel
theorem dX5_tipped_23 : decode cX5_tipped 23 = .ok (.iinc 2 1, 3) := by decide +kernel
theorem dX5_tipped_26 : decode cX5_tipped 26 = .ok (.goto (-22), 3) := by decide +kernel
theorem dX5_tipped_29 : decode cX5_tipped 29 = .ok (.iload_n 1, 1) := by decide +kernel
theorem dX5_tipped_30 : decode cX5_tipped 30 = .ok (.ireturn, 1) := by decide +kernel
theorem dX5_count_0 : decode cX5_count 0 = .ok (.iload_n 1, 1) := by decide +kernel
theorem dX5_count_1 : decode cX5_count 1 = .ok (.tableswitch 58 0 3 #[31, 38, 43, 53], 31) := by decide +kernel
theorem dX5_count_32 : decode cX5_count 32 = .ok (.aload_n 0, 1) := by decide +kernel
theorem dX5_count_33 : decode cX5_count 33 = .ok (.getfield 7, 3) := by decide +kernel
theorem dX5_count_36 : decode cX5_count 36 = .ok (.iconst 1, 1) := by decide +kernel
theorem dX5_count_37 : decode cX5_count 37 = .ok (.iaload, 1) := by decide +kernel
theorem dX5_count_38 : decode cX5_count 38 = .ok (.ireturn, 1) := by decide +kernel
theorem dX5_count_39 : decode cX5_count 39 = .ok (.aload_n 0, 1) := by decide +kernel
theorem dX5_count_40 : decode cX5_count 40 = .ok (.getfield 214, 3) := by decide +kernel
theorem dX5_count_43 : decode cX5_count 43 = .ok (.ireturn, 1) := by decide +kernel
theorem dX5_count_44 : decode cX5_count 44 = .ok (.aload_n 0, 1) := by decide +kernel
theorem dX5_count_45 : decode cX5_count 45 = .ok (.getfield 7, 3) := by decide +kernel
theorem dX5_count_48 : decode cX5_count 48 = .ok (.iconst 2, 1) := by decide +kernel
theorem dX5_count_49 : decode cX5_count 49 = .ok (.iaload, 1) := by decide +kernel
theorem dX5_count_50 : decode cX5_count 50 = .ok (.invokestatic 145, 3) := by decide +kernel
theorem dX5_count_53 : decode cX5_count 53 = .ok (.ireturn, 1) := by decide +kernel
theorem dX5_count_54 : decode cX5_count 54 = .ok (.aload_n 0, 1) := by decide +kernel
theorem dX5_count_55 : decode cX5_count 55 = .ok (.invokevirtual 344, 3) := by decide +kernel
theorem dX5_count_58 : decode cX5_count 58 = .ok (.ireturn, 1) := by decide +kernel
theorem dX5_count_59 : decode cX5_count 59 = .ok (.aload_n 0, 1) := by decide +kernel
theorem dX5_count_60 : decode cX5_count 60 = .ok (.ldc 41, 2) := by decide +kernel
theorem dX5_count_62 : decode cX5_count 62 = .ok (.invokevirtual 65, 3) := by decide +kernel
theorem dX5_count_65 : decode cX5_count 65 = .ok (.ireturn, 1) := by decide +kernel
theorem dX5_status_0 : decode cX5_status 0 = .ok (.iload_n 1, 1) := by decide +kernel
theorem dX5_status_1 : decode cX5_status 1 = .ok (.i2l, 1) := by decide +kernel
theorem dX5_status_2 : decode cX5_status 2 = .ok (.ldc2_w 347, 3) := by decide +kernel
theorem dX5_status_5 : decode cX5_status 5 = .ok (.ldc2_w 349, 3) := by decide +kernel
theorem dX5_status_8 : decode cX5_status 8 = .ok (.invokestatic 44, 3) := by decide +kernel
theorem dX5_status_11 : decode cX5_status 11 = .ok (.ifCond .ne 10, 3) := by decide +kernel
theorem dX5_status_14 : decode cX5_status 14 = .ok (.aload_n 0, 1) := by decide +kernel
theorem dX5_status_15 : decode cX5_status 15 = .ok (.ldc 41, 2) := by decide +kernel
theorem dX5_status_17 : decode cX5_status 17 = .ok (.invokevirtual 65, 3) := by decide +kernel
theorem dX5_status_20 : decode cX5_status 20 = .ok (.ireturn, 1) := by decide +kernel
theorem dX5_status_21 : decode cX5_status 21 = .ok (.iconst 0, 1) := by decide +kernel
theorem dX5_status_22 : decode cX5_status 22 = .ok (.istore_n 2, 1) := by decide +kernel
theorem dX5_status_23 : decode cX5_status 23 = .ok (.iconst 0, 1) := by decide +kernel
theorem dX5_status_24 : decode cX5_status 24 = .ok (.istore_n 3, 1) := by decide +kernel
theorem dX5_status_25 : decode cX5_status 25 = .ok (.iload_n 3, 1) := by decide +kernel
theorem dX5_status_26 : decode cX5_status 26 = .ok (.bipush 7, 2) := by decide +kernel
theorem dX5_status_28 : decode cX5_status 28 = .ok (.if_icmp .ge 31, 3) := by decide +kernel
theorem dX5_status_31 : decode cX5_status 31 = .ok (.iload_n 2, 1) := by decide +kernel
theorem dX5_status_32 : decode cX5_status 32 = .ok (.iload_n 1, 1) := by decide +kernel
theorem dX5_status_33 : decode cX5_status 33 = .ok (.ifCond .lt 8, 3) := by decide +kernel
theorem dX5_status_36 : decode cX5_status 36 = .ok (.iload_n 3, 1) := by decide +kernel
theorem dX5_status_37 : decode cX5_status 37 = .ok (.iload_n 1, 1) := by decide +kernel
theorem dX5_status_38 : decode cX5_status 38 = .ok (.if_icmp .ne 12, 3) := by decide +kernel
theorem dX5_status_41 : decode cX5_status 41 = .ok (.aload_n 0, 1) := by decide +kernel
theorem dX5_status_42 : decode cX5_status 42 = .ok (.getfield 22, 3) := by decide +kernel
theorem dX5_status_45 : decode cX5_status 45 = .ok (.iload_n 3, 1) := by decide +kernel
theorem dX5_status_46 : decode cX5_status 46 = .ok (.iaload, 1) := by decide +kernel
theorem dX5_status_47 : decode cX5_status 47 = .ok (.goto 4, 3) := by decide +kernel
theorem dX5_status_50 : decode cX5_status 50 = .ok (.iconst 0, 1) := by decide +kernel
theorem dX5_status_51 : decode cX5_status 51 = .ok (.iadd, 1) := by decide +kernel
theorem dX5_status_52 : decode cX5_status 52 = .ok (.istore_n 2, 1) := by decide +kernel
theorem dX5_status_53 : decode cX5_status 53 = .ok (.iinc 3 1, 3) := by decide +kernel
theorem dX5_status_56 : decode cX5_status 56 = .ok (.goto (-31), 3) := by decide +kernel
theorem dX5_status_59 : decode cX5_status 59 = .ok (.iload_n 2, 1) := by decide +kernel
theorem dX5_status_60 : decode cX5_status 60 = .ok (.ireturn, 1) := by decide +kernel
