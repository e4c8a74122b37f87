theorem dX9_open_145 : decode cX9_open 145 = .ok (.aload_n 0, 1) := by decide +kernel
theorem dX9_open_146 : decode cX9_open 146 = .ok (.getfield 44, 3) := by decide +kernel
theorem dX9_open_149 : decode cX9_open 149 = .ok (.iload 5, 2) := by decide +kernel
theorem dX9_open_151 : decode cX9_open 151 = .ok (.iload_n 1, 1) := by decide +kernel
theorem dX9_open_152 : decode cX9_open 152 = .ok (.iadd, 1) := by decide +kernel
theorem dX9_open_153 : decode cX9_open 153 = .ok (.iload 6, 2) := by decide +kernel
theorem dX9_open_155 : decode cX9_open 155 = .ok (.iadd, 1) := by decide +kernel
theorem dX9_open_156 : decode cX9_open 156 = .ok (.iload_n 2, 1) := by decide +kernel
theorem dX9_open_157 : decode cX9_open 157 = .ok (.iconst 2, 1) := by decide +kernel
theorem dX9_open_158 : decode cX9_open 158 = .ok (.iconst 3, 1) := by decide +kernel
theorem dX9_open_159 : decode cX9_open 159 = .ok (.iload 4, 2) := by decide +kernel
theorem dX9_open_161 : decode cX9_open 161 = .ok (.imul, 1) := by decide +kernel
theorem dX9_open_162 : decode cX9_open 162 = .ok (.iload 6, 2) := by decide +kernel
theorem dX9_open_164 : decode cX9_open 164 = .ok (.iadd, 1) := by decide +kernel
theorem dX9_open_165 : decode cX9_open 165 = .ok (.imul, 1) := by decide +kernel
theorem dX9_open_166 : decode cX9_open 166 = .ok (.iushr, 1) := by decide +kernel
theorem dX9_open_167 : decode cX9_open 167 = .ok (.iconst 3, 1) := by decide +kernel
theorem dX9_open_168 : decode cX9_open 168 = .ok (.iand, 1) := by decide +kernel
theorem dX9_open_169 : decode cX9_open 169 = .ok (.aload_n 0, 1) := by decide +kernel
theorem dX9_open_170 : decode cX9_open 170 = .ok (.getfield 32, 3) := by decide +kernel
theorem dX9_open_173 : decode cX9_open 173 = .ok (.irem, 1) := by decide +kernel
theorem dX9_open_174 : decode cX9_open 174 = .ok (.iastore, 1) := by decide +kernel
theorem dX9_open_175 : decode cX9_open 175 = .ok (.iinc 6 1, 3) := by decide +kernel
theorem dX9_open_178 : decode cX9_open 178 = .ok (.goto (-39), 3) := by decide +kernel
theorem dX9_open_181 : decode cX9_open 181 = .ok (.iinc 4 1, 3) := by decide +kernel
theorem dX9_open_184 : decode cX9_open 184 = .ok (.goto (-100), 3) := by decide +kernel
theorem dX9_open_187 : decode cX9_open 187 = .ok (.aload_n 0, 1) := by decide +kernel
theorem dX9_open_188 : decode cX9_open 188 = .ok (.dup, 1) := by decide +kernel
theorem dX9_open_189 : decode cX9_open 189 = .ok (.getfield 140, 3) := by decide +kernel
theorem dX9_open_192 : decode cX9_open 192 = .ok (.iconst 1, 1) := by decide +kernel
theorem dX9_open_193 : decode cX9_open 193 = .ok (.iadd, 1) := by decide +kernel
theorem dX9_open_194 : decode cX9_open 194 = .ok (.putfield 140, 3) := by decide +kernel
theorem dX9_open_197 : decode cX9_open 197 = .ok (.aload_n 0, 1) := by decide +kernel
theorem dX9_open_198 : decode cX9_open 198 = .ok (.dup, 1) := by decide +kernel
theorem dX9_open_199 : decode cX9_open 199 = .ok (.getfield 143, 3) := by decide +kernel
theorem dX9_open_202 : decode cX9_open 202 = .ok (.iconst 1, 1) := by decide +kernel
theorem dX9_open_203 : decode cX9_open 203 = .ok (.iadd, 1) := by decide +kernel
theorem dX9_open_204 : decode cX9_open 204 = .ok (.putfield 143, 3) := by decide +kernel
theorem dX9_open_207 : decode cX9_open 207 = .ok (.aload_n 0, 1) := by decide +kernel
theorem dX9_open_208 : decode cX9_open 208 = .ok (.getfield 143, 3) := by decide +kernel
theorem dX9_open_211 : decode cX9_open 211 = .ok (.iconst 1, 1) := by decide +kernel
theorem dX9_open_212 : decode cX9_open 212 = .ok (.isub, 1) := by decide +kernel
theorem dX9_open_213 : decode cX9_open 213 = .ok (.ireturn, 1) := by decide +kernel
theorem dX9_rank_0 : decode cX9_rank 0 = .ok (.aload_n 0, 1) := by decide +kernel
theorem dX9_rank_1 : decode cX9_rank 1 = .ok (.iload_n 1, 1) := by decide +kernel
theorem dX9_rank_2 : decode cX9_rank 2 = .ok (.invokevirtual 150, 3) := by decide +kernel
theorem dX9_rank_5 : decode cX9_rank 5 = .ok (.istore_n 3, 1) := by decide +kernel
theorem dX9_rank_6 : decode cX9_rank 6 = .ok (.iload_n 3, 1) := by decide +kernel
theorem dX9_rank_7 : decode cX9_rank 7 = .ok (.bipush (-9), 2) := by decide +kernel
theorem dX9_rank_9 : decode cX9_rank 9 = .ok (.if_icmp .eq 10, 3) := by decide +kernel
theorem dX9_rank_12 : decode cX9_rank 12 = .ok (.iload_n 2, 1) := by decide +kernel
theorem dX9_rank_13 : decode cX9_rank 13 = .ok (.invokestatic 153, 3) := by decide +kernel
theorem dX9_rank_16 : decode cX9_rank 16 = .ok (.ifCond .ne 7, 3) := by decide +kernel
theorem dX9_rank_19 : decode cX9_rank 19 = .ok (.iconst (-1), 1) := by decide +kernel
theorem dX9_rank_20 : decode cX9_rank 20 = .ok (.goto 9, 3) := by decide +kernel
theorem dX9_rank_23 : decode cX9_rank 23 = .ok (.aload_n 0, 1) := by decide +kernel
theorem dX9_rank_24 : decode cX9_rank 24 = .ok (.iload_n 3, 1) := by decide +kernel
theorem dX9_rank_25 : decode cX9_rank 25 = .ok (.iload_n 2, 1) := by decide +kernel
theorem dX9_rank_26 : decode cX9_rank 26 = .ok (.invokevirtual 156, 3) := by decide +kernel
theorem dX9_rank_29 : decode cX9_rank 29 = .ok (.ireturn, 1) := by decide +kernel
theorem dX9_row_0 : decode cX9_row 0 = .ok (.aload_n 0, 1) := by decide +kernel
theorem dX9_row_1 : decode cX9_row 1 = .ok (.iload_n 1, 1) := by decide +kernel
theorem dX9_row_2 : decode cX9_row 2 = .ok (.invokevirtual 150, 3) := by decide +kernel
theorem dX9_row_5 : decode cX9_row 5 = .ok (.istore 5, 2) := by decide +kernel
theorem dX9_row_7 : decode cX9_row 7 = .ok (.iload 5, 2) := by decide +kernel
theorem dX9_row_9 : decode cX9_row 9 = .ok (.bipush (-9), 2) := by decide +kernel
theorem dX9_row_11 : decode cX9_row 11 = .ok (.if_icmp .eq 27, 3) := by decide +kernel
theorem dX9_row_14 : decode cX9_row 14 = .ok (.iload_n 2, 1) := by decide +kernel
theorem dX9_row_15 : decode cX9_row 15 = .ok (.invokestatic 153, 3) := by decide +kernel
theorem dX9_row_18 : decode cX9_row 18 = .ok (.ifCond .eq 20, 3) := by decide +kernel
theorem dX9_row_21 : decode cX9_row 21 = .ok (.iload_n 3, 1) := by decide +kernel
theorem dX9_row_22 : decode cX9_row 22 = .ok (.iconst 0, 1) := by decide +kernel
theorem dX9_row_23 : decode cX9_row 23 = .ok (.aload_n 0, 1) := by decide +kernel
theorem dX9_row_24 : decode cX9_row 24 = .ok (.iload 5, 2) := by decide +kernel
theorem dX9_row_26 : decode cX9_row 26 = .ok (.iload_n 2, 1) := by decide +kernel
theorem dX9_row_27 : decode cX9_row 27 = .ok (.invokevirtual 156, 3) := by decide +kernel
theorem dX9_row_30 : decode cX9_row 30 = .ok (.iconst 1, 1) := by decide +kernel
theorem dX9_row_31 : decode cX9_row 31 = .ok (.isub, 1) := by decide +kernel
theorem dX9_row_32 : decode cX9_row 32 = .ok (.invokestatic 68, 3) := by decide +kernel
theorem dX9_row_35 : decode cX9_row 35 = .ok (.ifCond .ne 5, 3) := by decide +kernel
theorem dX9_row_38 : decode cX9_row 38 = .ok (.iconst (-1), 1) := by decide +kernel
theorem dX9_row_39 : decode cX9_row 39 = .ok (.ireturn, 1) := by decide +kernel
theorem dX9_row_40 : decode cX9_row 40 = .ok (.iload 4, 2) := by decide +kernel
theorem dX9_row_42 : decode cX9_row 42 = .ok (.iconst 0, 1) := by decide +kernel
theorem dX9_row_43 : decode cX9_row 43 = .ok (.aload_n 0, 1) := by decide +kernel
theorem dX9_row_44 : decode cX9_row 44 = .ok (.getfield 38, 3) := by decide +kernel
theorem dX9_row_47 : decode cX9_row 47 = .ok (.iload 5, 2) := by decide +kernel
theorem dX9_row_49 : decode cX9_row 49 = .ok (.iaload, 1) := by decide +kernel
theorem dX9_row_50 : decode cX9_row 50 = .ok (.iconst 3, 1) := by decide +kernel
theorem dX9_row_51 : decode cX9_row 51 = .ok (.iadd, 1) := by decide +kernel
theorem dX9_row_52 : decode cX9_row 52 = .ok (.iconst 1, 1) := by decide +kernel
theorem dX9_row_53 : decode cX9_row 53 = .ok (.isub, 1) := by decide +kernel
theorem dX9_row_54 : decode cX9_row 54 = .ok (.invokestatic 68, 3) := by decide +kernel
theorem dX9_row_57 : decode cX9_row 57 = .ok (.ifCond .eq 21, 3) := by decide +kernel
theorem dX9_row_60 : decode cX9_row 60 = .ok (.aload_n 0, 1) := by decide +kernel
theorem dX9_row_61 : decode cX9_row 61 = .ok (.getfield 44, 3) := by decide +kernel
theorem dX9_row_64 : decode cX9_row 64 = .ok (.iload 5, 2) := by decide +kernel
theorem dX9_row_66 : decode cX9_row 66 = .ok (.iload_n 2, 1) := by decide +kernel
theorem dX9_row_67 : decode cX9_row 67 = .ok (.iload_n 3, 1) := by decide +kernel
theorem dX9_row_68 : decode cX9_row 68 = .ok (.invokestatic 146, 3) := by decide +kernel
theorem dX9_row_71 : decode cX9_row 71 = .ok (.iload 4, 2) := by decide +kernel
theorem dX9_row_73 : decode cX9_row 73 = .ok (.iadd, 1) := by decide +kernel
theorem dX9_row_74 : decode cX9_row 74 = .ok (.iaload, 1) := by decide +kernel
theorem dX9_row_75 : decode cX9_row 75 = .ok (.goto 5, 3) := by decide +kernel
theorem dX9_row_78 : decode cX9_row 78 = .ok (.bipush (-2), 2) := by decide +kernel
theorem dX9_row_80 : decode cX9_row 80 = .ok (.ireturn, 1) := by decide +kernel
theorem dX9_leadOf_0 : decode cX9_leadOf 0 = .ok (.iconst 0, 1) := by decide +kernel
theorem dX9_leadOf_1 : decode cX9_leadOf 1 = .ok (.istore 4, 2) := by decide +kernel
theorem dX9_leadOf_3 : decode cX9_leadOf 3 = .ok (.iload 4, 2) := by decide +kernel
theorem dX9_leadOf_5 : decode cX9_leadOf 5 = .ok (.iload_n 3, 1) := by decide +kernel
theorem dX9_leadOf_6 : decode cX9_leadOf 6 = .ok (.if_icmp .ge 18, 3) := by decide +kernel
theorem dX9_leadOf_9 : decode cX9_leadOf 9 = .ok (.aload_n 1, 1) := by decide +kernel
theorem dX9_leadOf_10 : decode cX9_leadOf 10 = .ok (.iload_n 2, 1) := by decide +kernel
theorem dX9_leadOf_11 : decode cX9_leadOf 11 = .ok (.iload 4, 2) := by decide +kernel
theorem dX9_leadOf_13 : decode cX9_leadOf 13 = .ok (.iadd, 1) := by decide +kernel
theorem dX9_leadOf_14 : decode cX9_leadOf 14 = .ok (.iaload, 1) := by decide +kernel
theorem dX9_leadOf_15 : decode cX9_leadOf 15 = .ok (.ifCond .ne 9, 3) := by decide +kernel
theorem dX9_leadOf_18 : decode cX9_leadOf 18 = .ok (.iinc 4 1, 3) := by decide +kernel
theorem dX9_leadOf_21 : decode cX9_leadOf 21 = .ok (.goto (-18), 3) := by decide +kernel
theorem dX9_leadOf_24 : decode cX9_leadOf 24 = .ok (.iload 4, 2) := by decide +kernel
theorem dX9_leadOf_26 : decode cX9_leadOf 26 = .ok (.ireturn, 1) := by decide +kernel
theorem dX9_isPlain_0 : decode cX9_isPlain 0 = .ok (.iconst 0, 1) := by decide +kernel
theorem dX9_isPlain_1 : decode cX9_isPlain 1 = .ok (.istore 4, 2) := by decide +kernel
theorem dX9_isPlain_3 : decode cX9_isPlain 3 = .ok (.iload 4, 2) := by decide +kernel
theorem dX9_isPlain_5 : decode cX9_isPlain 5 = .ok (.aload_n 0, 1) := by decide +kernel
theorem dX9_isPlain_6 : decode cX9_isPlain 6 = .ok (.getfield 38, 3) := by decide +kernel
theorem dX9_isPlain_9 : decode cX9_isPlain 9 = .ok (.iload_n 1, 1) := by decide +kernel
theorem dX9_isPlain_10 : decode cX9_isPlain 10 = .ok (.iaload, 1) := by decide +kernel
theorem dX9_isPlain_11 : decode cX9_isPlain 11 = .ok (.if_icmp .ge 34, 3) := by decide +kernel
theorem dX9_isPlain_14 : decode cX9_isPlain 14 = .ok (.aload_n 0, 1) := by decide +kernel
theorem dX9_isPlain_15 : decode cX9_isPlain 15 = .ok (.getfield 44, 3) := by decide +kernel
theorem dX9_isPlain_18 : decode cX9_isPlain 18 = .ok (.iload_n 2, 1) := by decide +kernel
theorem dX9_isPlain_19 : decode cX9_isPlain 19 = .ok (.iload 4, 2) := by decide +kernel
theorem dX9_isPlain_21 : decode cX9_isPlain 21 = .ok (.iadd, 1) := by decide +kernel
theorem dX9_isPlain_22 : decode cX9_isPlain 22 = .ok (.iaload, 1) := by decide +kernel
theorem dX9_isPlain_23 : decode cX9_isPlain 23 = .ok (.iload 4, 2) := by decide +kernel
theorem dX9_isPlain_25 : decode cX9_isPlain 25 = .ok (.iload_n 3, 1) := by decide +kernel
theorem dX9_isPlain_26 : decode cX9_isPlain 26 = .ok (.if_icmp .ne 7, 3) := by decide +kernel
theorem dX9_isPlain_29 : decode cX9_isPlain 29 = .ok (.iconst 1, 1) := by decide +kernel
theorem dX9_isPlain_30 : decode cX9_isPlain 30 = .ok (.goto 4, 3) := by decide +kernel
theorem dX9_isPlain_33 : decode cX9_isPlain 33 = .ok (.iconst 0, 1) := by decide +kernel
theorem dX9_isPlain_34 : decode cX9_isPlain 34 = .ok (.if_icmp .eq 5, 3) := by decide +kernel
theorem dX9_isPlain_37 : decode cX9_isPlain 37 = .ok (.iconst 0, 1) := by decide +kernel
theorem dX9_isPlain_38 : decode cX9_isPlain 38 = .ok (.ireturn, 1) := by decide +kernel
theorem dX9_isPlain_39 : decode cX9_isPlain 39 = .ok (.iinc 4 1, 3) := by decide +kernel
theorem dX9_isPlain_42 : decode cX9_isPlain 42 = .ok (.goto (-39), 3) := by decide +kernel
theorem dX9_isPlain_45 : decode cX9_isPlain 45 = .ok (.iconst 1, 1) := by decide +kernel
theorem dX9_isPlain_46 : decode cX9_isPlain 46 = .ok (.ireturn, 1) := by decide +kernel
theorem dX9_read_0 : decode cX9_read 0 = .ok (.aload_n 0, 1) := by decide +kernel
theorem dX9_read_1 : decode cX9_read 1 = .ok (.iload_n 1, 1) := by decide +kernel
theorem dX9_read_2 : decode cX9_read 2 = .ok (.invokevirtual 150, 3) := by decide +kernel
theorem dX9_read_5 : decode cX9_read 5 = .ok (.istore 5, 2) := by decide +kernel
theorem dX9_read_7 : decode cX9_read 7 = .ok (.iload 5, 2) := by decide +kernel
theorem dX9_read_9 : decode cX9_read 9 = .ok (.bipush (-9), 2) := by decide +kernel
theorem dX9_read_11 : decode cX9_read 11 = .ok (.if_icmp .eq 10, 3) := by decide +kernel
theorem dX9_read_14 : decode cX9_read 14 = .ok (.iload_n 2, 1) := by decide +kernel
theorem dX9_read_15 : decode cX9_read 15 = .ok (.invokestatic 153, 3) := by decide +kernel
theorem dX9_read_18 : decode cX9_read 18 = .ok (.ifCond .ne 5, 3) := by decide +kernel
theorem dX9_read_21 : decode cX9_read 21 = .ok (.iconst (-1), 1) := by decide +kernel
theorem dX9_read_22 : decode cX9_read 22 = .ok (.ireturn, 1) := by decide +kernel
theorem dX9_read_23 : decode cX9_read 23 = .ok (.iload_n 3, 1) := by decide +kernel
theorem dX9_read_24 : decode cX9_read 24 = .ok (.iconst 0, 1) := by decide +kernel
theorem dX9_read_25 : decode cX9_read 25 = .ok (.aload_n 0, 1) := by decide +kernel
theorem dX9_read_26 : decode cX9_read 26 = .ok (.getfield 38, 3) := by decide +kernel
theorem dX9_read_29 : decode cX9_read 29 = .ok (.iload 5, 2) := by decide +kernel
theorem dX9_read_31 : decode cX9_read 31 = .ok (.iaload, 1) := by decide +kernel
theorem dX9_read_32 : decode cX9_read 32 = .ok (.iconst 1, 1) := by decide +kernel
theorem dX9_read_33 : decode cX9_read 33 = .ok (.isub, 1) := by decide +kernel
theorem dX9_read_34 : decode cX9_read 34 = .ok (.invokestatic 68, 3) := by decide +kernel
theorem dX9_read_37 : decode cX9_read 37 = .ok (.ifCond .eq 13, 3) := by decide +kernel
theorem dX9_read_40 : decode cX9_read 40 = .ok (.iload 4, 2) := by decide +kernel
theorem dX9_read_42 : decode cX9_read 42 = .ok (.iconst 0, 1) := by decide +kernel
theorem dX9_read_43 : decode cX9_read 43 = .ok (.iconst 2, 1) := by decide +kernel
theorem dX9_read_44 : decode cX9_read 44 = .ok (.invokestatic 68, 3) := by decide +kernel
theorem dX9_read_47 : decode cX9_read 47 = .ok (.ifCond .ne 6, 3) := by decide +kernel
theorem dX9_read_50 : decode cX9_read 50 = .ok (.bipush (-2), 2) := by decide +kernel
theorem dX9_read_52 : decode cX9_read 52 = .ok (.ireturn, 1) := by decide +kernel
theorem dX9_read_53 : decode cX9_read 53 = .ok (.iconst 0, 1) := by decide +kernel
theorem dX9_read_54 : decode cX9_read 54 = .ok (.istore 6, 2) := by decide +kernel
theorem dX9_read_56 : decode cX9_read 56 = .ok (.iload 6, 2) := by decide +kernel
theorem dX9_read_58 : decode cX9_read 58 = .ok (.aload_n 0, 1) := by decide +kernel
theorem dX9_read_59 : decode cX9_read 59 = .ok (.iload 5, 2) := by decide +kernel
theorem dX9_read_61 : decode cX9_read 61 = .ok (.iload_n 2, 1) := by decide +kernel
theorem dX9_read_62 : decode cX9_read 62 = .ok (.invokevirtual 156, 3) := by decide +kernel
theorem dX9_read_65 : decode cX9_read 65 = .ok (.if_icmp .ge 52, 3) := by decide +kernel
theorem dX9_read_68 : decode cX9_read 68 = .ok (.aload_n 0, 1) := by decide +kernel
theorem dX9_read_69 : decode cX9_read 69 = .ok (.iload 5, 2) := by decide +kernel
theorem dX9_read_71 : decode cX9_read 71 = .ok (.iload 5, 2) := by decide +kernel
theorem dX9_read_73 : decode cX9_read 73 = .ok (.iload_n 2, 1) := by decide +kernel
theorem dX9_read_74 : decode cX9_read 74 = .ok (.iload 6, 2) := by decide +kernel
theorem dX9_read_76 : decode cX9_read 76 = .ok (.invokestatic 146, 3) := by decide +kernel
theorem dX9_read_79 : decode cX9_read 79 = .ok (.iload_n 3, 1) := by decide +kernel
theorem dX9_read_80 : decode cX9_read 80 = .ok (.invokevirtual 159, 3) := by decide +kernel
theorem dX9_read_83 : decode cX9_read 83 = .ok (.ifCond .eq 28, 3) := by decide +kernel
theorem dX9_read_86 : decode cX9_read 86 = .ok (.aload_n 0, 1) := by decide +kernel
theorem dX9_read_87 : decode cX9_read 87 = .ok (.getfield 44, 3) := by decide +kernel
theorem dX9_read_90 : decode cX9_read 90 = .ok (.iload 5, 2) := by decide +kernel
theorem dX9_read_92 : decode cX9_read 92 = .ok (.iload_n 2, 1) := by decide +kernel
theorem dX9_read_93 : decode cX9_read 93 = .ok (.iload 6, 2) := by decide +kernel
theorem dX9_read_95 : decode cX9_read 95 = .ok (.invokestatic 146, 3) := by decide +kernel
theorem dX9_read_98 : decode cX9_read 98 = .ok (.aload_n 0, 1) := by decide +kernel
theorem dX9_read_99 : decode cX9_read 99 = .ok (.getfield 38, 3) := by decide +kernel
theorem dX9_read_102 : decode cX9_read 102 = .ok (.iload 5, 2) := by decide +kernel
theorem dX9_read_104 : decode cX9_read 104 = .ok (.iaload, 1) := by decide +kernel
theorem dX9_read_105 : decode cX9_read 105 = .ok (.iadd, 1) := by decide +kernel
theorem dX9_read_106 : decode cX9_read 106 = .ok (.iload 4, 2) := by decide +kernel
theorem dX9_read_108 : decode cX9_read 108 = .ok (.iadd, 1) := by decide +kernel
theorem dX9_read_109 : decode cX9_read 109 = .ok (.iaload, 1) := by decide +kernel
theorem dX9_read_110 : decode cX9_read 110 = .ok (.ireturn, 1) := by decide +kernel
theorem dX9_read_111 : decode cX9_read 111 = .ok (.iinc 6 1, 3) := by decide +kernel
theorem dX9_read_114 : decode cX9_read 114 = .ok (.goto (-58), 3) := by decide +kernel
theorem dX9_read_117 : decode cX9_read 117 = .ok (.bipush (-9), 2) := by decide +kernel
theorem dX9_read_119 : decode cX9_read 119 = .ok (.ireturn, 1) := by decide +kernel
theorem dX9_mixes_0 : decode cX9_mixes 0 = .ok (.iconst 0, 1) := by decide +kernel
theorem dX9_mixes_1 : decode cX9_mixes 1 = .ok (.istore 4, 2) := by decide +kernel
theorem dX9_mixes_3 : decode cX9_mixes 3 = .ok (.iload 4, 2) := by decide +kernel
theorem dX9_mixes_5 : decode cX9_mixes 5 = .ok (.bipush 8, 2) := by decide +kernel
theorem dX9_mixes_7 : decode cX9_mixes 7 = .ok (.if_icmp .ge 17, 3) := by decide +kernel
theorem dX9_mixes_10 : decode cX9_mixes 10 = .ok (.aload_n 0, 1) := by decide +kernel
theorem dX9_mixes_11 : decode cX9_mixes 11 = .ok (.getfield 59, 3) := by decide +kernel
theorem dX9_mixes_14 : decode cX9_mixes 14 = .ok (.iload 4, 2) := by decide +kernel
theorem dX9_mixes_16 : decode cX9_mixes 16 = .ok (.iconst 0, 1) := by decide +kernel
theorem dX9_mixes_17 : decode cX9_mixes 17 = .ok (.iastore, 1) := by decide +kernel
theorem dX9_mixes_18 : decode cX9_mixes 18 = .ok (.iinc 4 1, 3) := by decide +kernel
theorem dX9_mixes_21 : decode cX9_mixes 21 = .ok (.goto (-18), 3) := by decide +kernel
theorem dX9_mixes_24 : decode cX9_mixes 24 = .ok (.iload_n 3, 1) := by decide +kernel
theorem dX9_mixes_25 : decode cX9_mixes 25 = .ok (.istore 4, 2) := by decide +kernel
theorem dX9_mixes_27 : decode cX9_mixes 27 = .ok (.iconst 0, 1) := by decide +kernel
theorem dX9_mixes_28 : decode cX9_mixes 28 = .ok (.istore 5, 2) := by decide +kernel
theorem dX9_mixes_30 : decode cX9_mixes 30 = .ok (.iload 5, 2) := by decide +kernel
theorem dX9_mixes_32 : decode cX9_mixes 32 = .ok (.aload_n 0, 1) := by decide +kernel
theorem dX9_mixes_33 : decode cX9_mixes 33 = .ok (.iload_n 1, 1) := by decide +kernel
theorem dX9_mixes_34 : decode cX9_mixes 34 = .ok (.iload_n 2, 1) := by decide +kernel
theorem dX9_mixes_35 : decode cX9_mixes 35 = .ok (.invokevirtual 156, 3) := by decide +kernel
theorem dX9_mixes_38 : decode cX9_mixes 38 = .ok (.if_icmp .ge 87, 3) := by decide +kernel
theorem dX9_mixes_41 : decode cX9_mixes 41 = .ok (.iload 4, 2) := by decide +kernel
theorem dX9_mixes_43 : decode cX9_mixes 43 = .ok (.aload_n 0, 1) := by decide +kernel
theorem dX9_mixes_44 : decode cX9_mixes 44 = .ok (.getfield 32, 3) := by decide +kernel
theorem dX9_mixes_47 : decode cX9_mixes 47 = .ok (.irem, 1) := by decide +kernel
theorem dX9_mixes_48 : decode cX9_mixes 48 = .ok (.istore 6, 2) := by decide +kernel
theorem dX9_mixes_50 : decode cX9_mixes 50 = .ok (.iload 4, 2) := by decide +kernel
theorem dX9_mixes_52 : decode cX9_mixes 52 = .ok (.aload_n 0, 1) := by decide +kernel
theorem dX9_mixes_53 : decode cX9_mixes 53 = .ok (.getfield 32, 3) := by decide +kernel
theorem dX9_mixes_56 : decode cX9_mixes 56 = .ok (.idiv, 1) := by decide +kernel
theorem dX9_mixes_57 : decode cX9_mixes 57 = .ok (.istore 4, 2) := by decide +kernel
theorem dX9_mixes_59 : decode cX9_mixes 59 = .ok (.iconst 0, 1) := by decide +kernel
theorem dX9_mixes_60 : decode cX9_mixes 60 = .ok (.istore 7, 2) := by decide +kernel
theorem dX9_mixes_62 : decode cX9_mixes 62 = .ok (.iload 7, 2) := by decide +kernel
theorem dX9_mixes_64 : decode cX9_mixes 64 = .ok (.aload_n 0, 1) := by decide +kernel
theorem dX9_mixes_65 : decode cX9_mixes 65 = .ok (.getfield 38, 3) := by decide +kernel
theorem dX9_mixes_68 : decode cX9_mixes 68 = .ok (.iload_n 1, 1) := by decide +kernel
theorem dX9_mixes_69 : decode cX9_mixes 69 = .ok (.iaload, 1) := by decide +kernel
theorem dX9_mixes_70 : decode cX9_mixes 70 = .ok (.iconst 3, 1) := by decide +kernel
theorem dX9_mixes_71 : decode cX9_mixes 71 = .ok (.iadd, 1) := by decide +kernel
theorem dX9_mixes_72 : decode cX9_mixes 72 = .ok (.if_icmp .ge 47, 3) := by decide +kernel
theorem dX9_mixes_75 : decode cX9_mixes 75 = .ok (.aload_n 0, 1) := by decide +kernel
theorem dX9_mixes_76 : decode cX9_mixes 76 = .ok (.getfield 59, 3) := by decide +kernel
theorem dX9_mixes_79 : decode cX9_mixes 79 = .ok (.iload 7, 2) := by decide +kernel
theorem dX9_mixes_81 : decode cX9_mixes 81 = .ok (.aload_n 0, 1) := by decide +kernel
theorem dX9_mixes_82 : decode cX9_mixes 82 = .ok (.getfield 59, 3) := by decide +kernel
theorem dX9_mixes_85 : decode cX9_mixes 85 = .ok (.iload 7, 2) := by decide +kernel
theorem dX9_mixes_87 : decode cX9_mixes 87 = .ok (.iaload, 1) := by decide +kernel
theorem dX9_mixes_88 : decode cX9_mixes 88 = .ok (.iload 6, 2) := by decide +kernel
theorem dX9_mixes_90 : decode cX9_mixes 90 = .ok (.aload_n 0, 1) := by decide +kernel
theorem dX9_mixes_91 : decode cX9_mixes 91 = .ok (.getfield 44, 3) := by decide +kernel
theorem dX9_mixes_94 : decode cX9_mixes 94 = .ok (.iload_n 1, 1) := by decide +kernel
theorem dX9_mixes_95 : decode cX9_mixes 95 = .ok (.iload_n 2, 1) := by decide +kernel
theorem dX9_mixes_96 : decode cX9_mixes 96 = .ok (.iload 5, 2) := by decide +kernel
theorem dX9_mixes_98 : decode cX9_mixes 98 = .ok (.invokestatic 146, 3) := by decide +kernel
theorem dX9_mixes_101 : decode cX9_mixes 101 = .ok (.iload 7, 2) := by decide +kernel
theorem dX9_mixes_103 : decode cX9_mixes 103 = .ok (.iadd, 1) := by decide +kernel
theorem dX9_mixes_104 : decode cX9_mixes 104 = .ok (.iaload, 1) := by decide +kernel
theorem dX9_mixes_105 : decode cX9_mixes 105 = .ok (.imul, 1) := by decide +kernel
theorem dX9_mixes_106 : decode cX9_mixes 106 = .ok (.iadd, 1) := by decide +kernel
theorem dX9_mixes_107 : decode cX9_mixes 107 = .ok (.aload_n 0, 1) := by decide +kernel
theorem dX9_mixes_108 : decode cX9_mixes 108 = .ok (.getfield 32, 3) := by decide +kernel
theorem dX9_mixes_111 : decode cX9_mixes 111 = .ok (.irem, 1) := by decide +kernel
theorem dX9_mixes_112 : decode cX9_mixes 112 = .ok (.iastore, 1) := by decide +kernel
theorem dX9_mixes_113 : decode cX9_mixes 113 = .ok (.iinc 7 1, 3) := by decide +kernel
theorem dX9_mixes_116 : decode cX9_mixes 116 = .ok (.goto (-54), 3) := by decide +kernel
theorem dX9_mixes_119 : decode cX9_mixes 119 = .ok (.iinc 5 1, 3) := by decide +kernel
theorem dX9_mixes_122 : decode cX9_mixes 122 = .ok (.goto (-92), 3) := by decide +kernel
theorem dX9_mixes_125 : decode cX9_mixes 125 = .ok (.return_, 1) := by decide +kernel
theorem dX9_isNewTo_0 : decode cX9_isNewTo 0 = .ok (.aload_n 0, 1) := by decide +kernel
theorem dX9_isNewTo_1 : decode cX9_isNewTo 1 = .ok (.getfield 38, 3) := by decide +kernel
theorem dX9_isNewTo_4 : decode cX9_isNewTo 4 = .ok (.iload_n 1, 1) := by decide +kernel
theorem dX9_isNewTo_5 : decode cX9_isNewTo 5 = .ok (.iaload, 1) := by decide +kernel
theorem dX9_isNewTo_6 : decode cX9_isNewTo 6 = .ok (.istore_n 3, 1) := by decide +kernel
theorem dX9_isNewTo_7 : decode cX9_isNewTo 7 = .ok (.iconst 0, 1) := by decide +kernel
theorem dX9_isNewTo_8 : decode cX9_isNewTo 8 = .ok (.istore 4, 2) := by decide +kernel
theorem dX9_isNewTo_10 : decode cX9_isNewTo 10 = .ok (.iload 4, 2) := by decide +kernel
theorem dX9_isNewTo_12 : decode cX9_isNewTo 12 = .ok (.bipush 8, 2) := by decide +kernel
theorem dX9_isNewTo_14 : decode cX9_isNewTo 14 = .ok (.if_icmp .ge 23, 3) := by decide +kernel
theorem dX9_isNewTo_17 : decode cX9_isNewTo 17 = .ok (.aload_n 0, 1) := by decide +kernel
theorem dX9_isNewTo_18 : decode cX9_isNewTo 18 = .ok (.getfield 62, 3) := by decide +kernel
theorem dX9_isNewTo_21 : decode cX9_isNewTo 21 = .ok (.iload 4, 2) := by decide +kernel
theorem dX9_isNewTo_23 : decode cX9_isNewTo 23 = .ok (.aload_n 0, 1) := by decide +kernel
theorem dX9_isNewTo_24 : decode cX9_isNewTo 24 = .ok (.getfield 59, 3) := by decide +kernel
theorem dX9_isNewTo_27 : decode cX9_isNewTo 27 = .ok (.iload 4, 2) := by decide +kernel
theorem dX9_isNewTo_29 : decode cX9_isNewTo 29 = .ok (.iaload, 1) := by decide +kernel
theorem dX9_isNewTo_30 : decode cX9_isNewTo 30 = .ok (.iastore, 1) := by decide +kernel
theorem dX9_isNewTo_31 : decode cX9_isNewTo 31 = .ok (.iinc 4 1, 3) := by decide +kernel
theorem dX9_isNewTo_34 : decode cX9_isNewTo 34 = .ok (.goto (-24), 3) := by decide +kernel
theorem dX9_isNewTo_37 : decode cX9_isNewTo 37 = .ok (.iconst 0, 1) := by decide +kernel
theorem dX9_isNewTo_38 : decode cX9_isNewTo 38 = .ok (.istore 4, 2) := by decide +kernel
theorem dX9_isNewTo_40 : decode cX9_isNewTo 40 = .ok (.iload 4, 2) := by decide +kernel
theorem dX9_isNewTo_42 : decode cX9_isNewTo 42 = .ok (.aload_n 0, 1) := by decide +kernel
theorem dX9_isNewTo_43 : decode cX9_isNewTo 43 = .ok (.iload_n 1, 1) := by decide +kernel
theorem dX9_isNewTo_44 : decode cX9_isNewTo 44 = .ok (.iload_n 2, 1) := by decide +kernel
theorem dX9_isNewTo_45 : decode cX9_isNewTo 45 = .ok (.invokevirtual 156, 3) := by decide +kernel
theorem dX9_isNewTo_48 : decode cX9_isNewTo 48 = .ok (.if_icmp .ge 91, 3) := by decide +kernel
theorem dX9_isNewTo_51 : decode cX9_isNewTo 51 = .ok (.iload_n 1, 1) := by decide +kernel
theorem dX9_isNewTo_52 : decode cX9_isNewTo 52 = .ok (.iload_n 2, 1) := by decide +kernel
theorem dX9_isNewTo_53 : decode cX9_isNewTo 53 = .ok (.iload 4, 2) := by decide +kernel
theorem dX9_isNewTo_55 : decode cX9_isNewTo 55 = .ok (.invokestatic 146, 3) := by decide +kernel
theorem dX9_isNewTo_58 : decode cX9_isNewTo 58 = .ok (.istore 5, 2) := by decide +kernel
theorem dX9_isNewTo_60 : decode cX9_isNewTo 60 = .ok (.aload_n 0, 1) := by decide +kernel
theorem dX9_isNewTo_61 : decode cX9_isNewTo 61 = .ok (.getfield 62, 3) := by decide +kernel
theorem dX9_isNewTo_64 : decode cX9_isNewTo 64 = .ok (.aload_n 0, 1) := by decide +kernel
theorem dX9_isNewTo_65 : decode cX9_isNewTo 65 = .ok (.aload_n 0, 1) := by decide +kernel
theorem dX9_isNewTo_66 : decode cX9_isNewTo 66 = .ok (.getfield 44, 3) := by decide +kernel
theorem dX9_isNewTo_69 : decode cX9_isNewTo 69 = .ok (.iload 5, 2) := by decide +kernel
theorem dX9_isNewTo_71 : decode cX9_isNewTo 71 = .ok (.iload_n 3, 1) := by decide +kernel
theorem dX9_isNewTo_72 : decode cX9_isNewTo 72 = .ok (.invokevirtual 162, 3) := by decide +kernel
theorem dX9_isNewTo_75 : decode cX9_isNewTo 75 = .ok (.iaload, 1) := by decide +kernel
theorem dX9_isNewTo_76 : decode cX9_isNewTo 76 = .ok (.istore 6, 2) := by decide +kernel
theorem dX9_isNewTo_78 : decode cX9_isNewTo 78 = .ok (.iconst 0, 1) := by decide +kernel
theorem dX9_isNewTo_79 : decode cX9_isNewTo 79 = .ok (.istore 7, 2) := by decide +kernel
theorem dX9_isNewTo_81 : decode cX9_isNewTo 81 = .ok (.iload 7, 2) := by decide +kernel
theorem dX9_isNewTo_83 : decode cX9_isNewTo 83 = .ok (.iload_n 3, 1) := by decide +kernel
theorem dX9_isNewTo_84 : decode cX9_isNewTo 84 = .ok (.iconst 3, 1) := by decide +kernel
theorem dX9_isNewTo_85 : decode cX9_isNewTo 85 = .ok (.iadd, 1) := by decide +kernel
theorem dX9_isNewTo_86 : decode cX9_isNewTo 86 = .ok (.if_icmp .ge 47, 3) := by decide +kernel
theorem dX9_isNewTo_89 : decode cX9_isNewTo 89 = .ok (.aload_n 0, 1) := by decide +kernel
theorem dX9_isNewTo_90 : decode cX9_isNewTo 90 = .ok (.getfield 62, 3) := by decide +kernel
theorem dX9_isNewTo_93 : decode cX9_isNewTo 93 = .ok (.iload 7, 2) := by decide +kernel
theorem dX9_isNewTo_95 : decode cX9_isNewTo 95 = .ok (.aload_n 0, 1) := by decide +kernel
theorem dX9_isNewTo_96 : decode cX9_isNewTo 96 = .ok (.getfield 62, 3) := by decide +kernel
theorem dX9_isNewTo_99 : decode cX9_isNewTo 99 = .ok (.iload 7, 2) := by decide +kernel
theorem dX9_isNewTo_101 : decode cX9_isNewTo 101 = .ok (.iaload, 1) := by decide +kernel
theorem dX9_isNewTo_102 : decode cX9_isNewTo 102 = .ok (.aload_n 0, 1) := by decide +kernel
theorem dX9_isNewTo_103 : decode cX9_isNewTo 103 = .ok (.getfield 32, 3) := by decide +kernel
theorem dX9_isNewTo_106 : decode cX9_isNewTo 106 = .ok (.iload 6, 2) := by decide +kernel
theorem dX9_isNewTo_108 : decode cX9_isNewTo 108 = .ok (.isub, 1) := by decide +kernel
theorem dX9_isNewTo_109 : decode cX9_isNewTo 109 = .ok (.aload_n 0, 1) := by decide +kernel
theorem dX9_isNewTo_110 : decode cX9_isNewTo 110 = .ok (.getfield 44, 3) := by decide +kernel
theorem dX9_isNewTo_113 : decode cX9_isNewTo 113 = .ok (.iload 5, 2) := by decide +kernel
theorem dX9_isNewTo_115 : decode cX9_isNewTo 115 = .ok (.iload 7, 2) := by decide +kernel
theorem dX9_isNewTo_117 : decode cX9_isNewTo 117 = .ok (.iadd, 1) := by decide +kernel
theorem dX9_isNewTo_118 : decode cX9_isNewTo 118 = .ok (.iaload, 1) := by decide +kernel
theorem dX9_isNewTo_119 : decode cX9_isNewTo 119 = .ok (.imul, 1) := by decide +kernel
theorem dX9_isNewTo_120 : decode cX9_isNewTo 120 = .ok (.iadd, 1) := by decide +kernel
theorem dX9_isNewTo_121 : decode cX9_isNewTo 121 = .ok (.aload_n 0, 1) := by decide +kernel
theorem dX9_isNewTo_122 : decode cX9_isNewTo 122 = .ok (.getfield 32, 3) := by decide +kernel
theorem dX9_isNewTo_125 : decode cX9_isNewTo 125 = .ok (.irem, 1) := by decide +kernel
theorem dX9_isNewTo_126 : decode cX9_isNewTo 126 = .ok (.iastore, 1) := by decide +kernel
theorem dX9_isNewTo_127 : decode cX9_isNewTo 127 = .ok (.iinc 7 1, 3) := by decide +kernel
theorem dX9_isNewTo_130 : decode cX9_isNewTo 130 = .ok (.goto (-49), 3) := by decide +kernel
theorem dX9_isNewTo_133 : decode cX9_isNewTo 133 = .ok (.iinc 4 1, 3) := by decide +kernel
theorem dX9_isNewTo_136 : decode cX9_isNewTo 136 = .ok (.goto (-96), 3) := by decide +kernel
theorem dX9_isNewTo_139 : decode cX9_isNewTo 139 = .ok (.aload_n 0, 1) := by decide +kernel
theorem dX9_isNewTo_140 : decode cX9_isNewTo 140 = .ok (.aload_n 0, 1) := by decide +kernel
theorem dX9_isNewTo_141 : decode cX9_isNewTo 141 = .ok (.getfield 62, 3) := by decide +kernel
theorem dX9_isNewTo_144 : decode cX9_isNewTo 144 = .ok (.iconst 0, 1) := by decide +kernel
theorem dX9_isNewTo_145 : decode cX9_isNewTo 145 = .ok (.iload_n 3, 1) := by decide +kernel
theorem dX9_isNewTo_146 : decode cX9_isNewTo 146 = .ok (.invokevirtual 162, 3) := by decide +kernel
theorem dX9_isNewTo_149 : decode cX9_isNewTo 149 = .ok (.iload_n 3, 1) := by decide +kernel
theorem dX9_isNewTo_150 : decode cX9_isNewTo 150 = .ok (.if_icmp .ge 7, 3) := by decide +kernel
theorem dX9_isNewTo_153 : decode cX9_isNewTo 153 = .ok (.iconst 1, 1) := by decide +kernel
theorem dX9_isNewTo_154 : decode cX9_isNewTo 154 = .ok (.goto 4, 3) := by decide +kernel
theorem dX9_isNewTo_157 : decode cX9_isNewTo 157 = .ok (.iconst 0, 1) := by decide +kernel
theorem dX9_isNewTo_158 : decode cX9_isNewTo 158 = .ok (.ireturn, 1) := by decide +kernel
theorem dX9_inverse_0 : decode cX9_inverse 0 = .ok (.iconst 1, 1) := by decide +kernel
theorem dX9_inverse_1 : decode cX9_inverse 1 = .ok (.istore_n 2, 1) := by decide +kernel
theorem dX9_inverse_2 : decode cX9_inverse 2 = .ok (.iload_n 2, 1) := by decide +kernel
theorem dX9_inverse_3 : decode cX9_inverse 3 = .ok (.iload_n 1, 1) := by decide +kernel
theorem dX9_inverse_4 : decode cX9_inverse 4 = .ok (.imul, 1) := by decide +kernel
theorem dX9_inverse_5 : decode cX9_inverse 5 = .ok (.aload_n 0, 1) := by decide +kernel
theorem dX9_inverse_6 : decode cX9_inverse 6 = .ok (.getfield 32, 3) := by decide +kernel
theorem dX9_inverse_9 : decode cX9_inverse 9 = .ok (.irem, 1) := by decide +kernel
theorem dX9_inverse_10 : decode cX9_inverse 10 = .ok (.iconst 1, 1) := by decide +kernel
theorem dX9_inverse_11 : decode cX9_inverse 11 = .ok (.if_icmp .eq 9, 3) := by decide +kernel
theorem dX9_inverse_14 : decode cX9_inverse 14 = .ok (.iinc 2 1, 3) := by decide +kernel
theorem dX9_inverse_17 : decode cX9_inverse 17 = .ok (.goto (-15), 3) := by decide +kernel
theorem dX9_inverse_20 : decode cX9_inverse 20 = .ok (.iload_n 2, 1) := by decide +kernel
theorem dX9_inverse_21 : decode cX9_inverse 21 = .ok (.ireturn, 1) := by decide +kernel
theorem dX9_comes_0 : decode cX9_comes 0 = .ok (.aload_n 0, 1) := by decide +kernel
theorem dX9_comes_1 : decode cX9_comes 1 = .ok (.iload_n 1, 1) := by decide +kernel
theorem dX9_comes_2 : decode cX9_comes 2 = .ok (.iload_n 2, 1) := by decide +kernel
theorem dX9_comes_3 : decode cX9_comes 3 = .ok (.invokevirtual 166, 3) := by decide +kernel
theorem dX9_comes_6 : decode cX9_comes 6 = .ok (.ifCond .ne 5, 3) := by decide +kernel
theorem dX9_comes_9 : decode cX9_comes 9 = .ok (.iconst 0, 1) := by decide +kernel
theorem dX9_comes_10 : decode cX9_comes 10 = .ok (.ireturn, 1) := by decide +kernel
theorem dX9_comes_11 : decode cX9_comes 11 = .ok (.aload_n 0, 1) := by decide +kernel
theorem dX9_comes_12 : decode cX9_comes 12 = .ok (.getfield 38, 3) := by decide +kernel
theorem dX9_comes_15 : decode cX9_comes 15 = .ok (.iload_n 1, 1) := by decide +kernel
theorem dX9_comes_16 : decode cX9_comes 16 = .ok (.iaload, 1) := by decide +kernel
theorem dX9_comes_17 : decode cX9_comes 17 = .ok (.istore_n 3, 1) := by decide +kernel
theorem dX9_comes_18 : decode cX9_comes 18 = .ok (.aload_n 0, 1) := by decide +kernel
theorem dX9_comes_19 : decode cX9_comes 19 = .ok (.aload_n 0, 1) := by decide +kernel
