theorem dMo_where_1 : decode cMo_where 1 = .ok (.iload_n 1, 1) := by decide +kernel
theorem dMo_where_2 : decode cMo_where 2 = .ok (.invokevirtual 93, 3) := by decide +kernel
theorem dMo_where_5 : decode cMo_where 5 = .ok (.ifCond .eq 19, 3) := by decide +kernel
theorem dMo_where_8 : decode cMo_where 8 = .ok (.aload_n 0, 1) := by decide +kernel
theorem dMo_where_9 : decode cMo_where 9 = .ok (.iload_n 2, 1) := by decide +kernel
theorem dMo_where_10 : decode cMo_where 10 = .ok (.invokevirtual 93, 3) := by decide +kernel
theorem dMo_where_13 : decode cMo_where 13 = .ok (.ifCond .eq 11, 3) := by decide +kernel
theorem dMo_where_16 : decode cMo_where 16 = .ok (.aload_n 0, 1) := by decide +kernel
theorem dMo_where_17 : decode cMo_where 17 = .ok (.iload_n 3, 1) := by decide +kernel
theorem dMo_where_18 : decode cMo_where 18 = .ok (.invokevirtual 93, 3) := by decide +kernel
theorem dMo_where_21 : decode cMo_where 21 = .ok (.ifCond .ne 5, 3) := by decide +kernel
theorem dMo_where_24 : decode cMo_where 24 = .ok (.iconst (-1), 1) := by decide +kernel
theorem dMo_where_25 : decode cMo_where 25 = .ok (.ireturn, 1) := by decide +kernel
theorem dMo_where_26 : decode cMo_where 26 = .ok (.aload_n 0, 1) := by decide +kernel
theorem dMo_where_27 : decode cMo_where 27 = .ok (.getfield 96, 3) := by decide +kernel
theorem dMo_where_30 : decode cMo_where 30 = .ok (.iconst 4, 1) := by decide +kernel
theorem dMo_where_31 : decode cMo_where 31 = .ok (.if_icmp .ne 6, 3) := by decide +kernel
theorem dMo_where_34 : decode cMo_where 34 = .ok (.bipush (-2), 2) := by decide +kernel
theorem dMo_where_36 : decode cMo_where 36 = .ok (.ireturn, 1) := by decide +kernel
theorem dMo_where_37 : decode cMo_where 37 = .ok (.aload_n 0, 1) := by decide +kernel
theorem dMo_where_38 : decode cMo_where 38 = .ok (.getfield 26, 3) := by decide +kernel
theorem dMo_where_41 : decode cMo_where 41 = .ok (.iconst 3, 1) := by decide +kernel
theorem dMo_where_42 : decode cMo_where 42 = .ok (.aload_n 0, 1) := by decide +kernel
theorem dMo_where_43 : decode cMo_where 43 = .ok (.getfield 96, 3) := by decide +kernel
theorem dMo_where_46 : decode cMo_where 46 = .ok (.imul, 1) := by decide +kernel
theorem dMo_where_47 : decode cMo_where 47 = .ok (.iload_n 1, 1) := by decide +kernel
theorem dMo_where_48 : decode cMo_where 48 = .ok (.iastore, 1) := by decide +kernel
theorem dMo_where_49 : decode cMo_where 49 = .ok (.aload_n 0, 1) := by decide +kernel
theorem dMo_where_50 : decode cMo_where 50 = .ok (.getfield 26, 3) := by decide +kernel
theorem dMo_where_53 : decode cMo_where 53 = .ok (.iconst 3, 1) := by decide +kernel
theorem dMo_where_54 : decode cMo_where 54 = .ok (.aload_n 0, 1) := by decide +kernel
theorem dMo_where_55 : decode cMo_where 55 = .ok (.getfield 96, 3) := by decide +kernel
theorem dMo_where_58 : decode cMo_where 58 = .ok (.imul, 1) := by decide +kernel
theorem dMo_where_59 : decode cMo_where 59 = .ok (.iconst 1, 1) := by decide +kernel
theorem dMo_where_60 : decode cMo_where 60 = .ok (.iadd, 1) := by decide +kernel
theorem dMo_where_61 : decode cMo_where 61 = .ok (.iload_n 2, 1) := by decide +kernel
theorem dMo_where_62 : decode cMo_where 62 = .ok (.iastore, 1) := by decide +kernel
theorem dMo_where_63 : decode cMo_where 63 = .ok (.aload_n 0, 1) := by decide +kernel
theorem dMo_where_64 : decode cMo_where 64 = .ok (.getfield 26, 3) := by decide +kernel
theorem dMo_where_67 : decode cMo_where 67 = .ok (.iconst 3, 1) := by decide +kernel
theorem dMo_where_68 : decode cMo_where 68 = .ok (.aload_n 0, 1) := by decide +kernel
theorem dMo_where_69 : decode cMo_where 69 = .ok (.getfield 96, 3) := by decide +kernel
theorem dMo_where_72 : decode cMo_where 72 = .ok (.imul, 1) := by decide +kernel
theorem dMo_where_73 : decode cMo_where 73 = .ok (.iconst 2, 1) := by decide +kernel
theorem dMo_where_74 : decode cMo_where 74 = .ok (.iadd, 1) := by decide +kernel
theorem dMo_where_75 : decode cMo_where 75 = .ok (.iload_n 3, 1) := by decide +kernel
theorem dMo_where_76 : decode cMo_where 76 = .ok (.iastore, 1) := by decide +kernel
theorem dMo_where_77 : decode cMo_where 77 = .ok (.aload_n 0, 1) := by decide +kernel
theorem dMo_where_78 : decode cMo_where 78 = .ok (.dup, 1) := by decide +kernel
theorem dMo_where_79 : decode cMo_where 79 = .ok (.getfield 96, 3) := by decide +kernel
theorem dMo_where_82 : decode cMo_where 82 = .ok (.iconst 1, 1) := by decide +kernel
theorem dMo_where_83 : decode cMo_where 83 = .ok (.iadd, 1) := by decide +kernel
theorem dMo_where_84 : decode cMo_where 84 = .ok (.putfield 96, 3) := by decide +kernel
theorem dMo_where_87 : decode cMo_where 87 = .ok (.aload_n 0, 1) := by decide +kernel
theorem dMo_where_88 : decode cMo_where 88 = .ok (.getfield 96, 3) := by decide +kernel
theorem dMo_where_91 : decode cMo_where 91 = .ok (.ireturn, 1) := by decide +kernel
theorem dMo_clear_0 : decode cMo_clear 0 = .ok (.aload_n 0, 1) := by decide +kernel
theorem dMo_clear_1 : decode cMo_clear 1 = .ok (.iconst 0, 1) := by decide +kernel
theorem dMo_clear_2 : decode cMo_clear 2 = .ok (.putfield 96, 3) := by decide +kernel
theorem dMo_clear_5 : decode cMo_clear 5 = .ok (.return_, 1) := by decide +kernel
theorem dMo_asked_0 : decode cMo_asked 0 = .ok (.iconst 0, 1) := by decide +kernel
theorem dMo_asked_1 : decode cMo_asked 1 = .ok (.istore_n 2, 1) := by decide +kernel
theorem dMo_asked_2 : decode cMo_asked 2 = .ok (.iconst 0, 1) := by decide +kernel
theorem dMo_asked_3 : decode cMo_asked 3 = .ok (.istore_n 3, 1) := by decide +kernel
theorem dMo_asked_4 : decode cMo_asked 4 = .ok (.iload_n 3, 1) := by decide +kernel
theorem dMo_asked_5 : decode cMo_asked 5 = .ok (.iconst 3, 1) := by decide +kernel
theorem dMo_asked_6 : decode cMo_asked 6 = .ok (.aload_n 0, 1) := by decide +kernel
theorem dMo_asked_7 : decode cMo_asked 7 = .ok (.getfield 96, 3) := by decide +kernel
theorem dMo_asked_10 : decode cMo_asked 10 = .ok (.imul, 1) := by decide +kernel
theorem dMo_asked_11 : decode cMo_asked 11 = .ok (.if_icmp .ge 29, 3) := by decide +kernel
theorem dMo_asked_14 : decode cMo_asked 14 = .ok (.iload_n 2, 1) := by decide +kernel
theorem dMo_asked_15 : decode cMo_asked 15 = .ok (.ifCond .ne 13, 3) := by decide +kernel
theorem dMo_asked_18 : decode cMo_asked 18 = .ok (.aload_n 0, 1) := by decide +kernel
theorem dMo_asked_19 : decode cMo_asked 19 = .ok (.getfield 26, 3) := by decide +kernel
theorem dMo_asked_22 : decode cMo_asked 22 = .ok (.iload_n 3, 1) := by decide +kernel
theorem dMo_asked_23 : decode cMo_asked 23 = .ok (.iaload, 1) := by decide +kernel
theorem dMo_asked_24 : decode cMo_asked 24 = .ok (.iload_n 1, 1) := by decide +kernel
theorem dMo_asked_25 : decode cMo_asked 25 = .ok (.if_icmp .ne 7, 3) := by decide +kernel
theorem dMo_asked_28 : decode cMo_asked 28 = .ok (.iconst 1, 1) := by decide +kernel
theorem dMo_asked_29 : decode cMo_asked 29 = .ok (.goto 4, 3) := by decide +kernel
theorem dMo_asked_32 : decode cMo_asked 32 = .ok (.iconst 0, 1) := by decide +kernel
theorem dMo_asked_33 : decode cMo_asked 33 = .ok (.istore_n 2, 1) := by decide +kernel
theorem dMo_asked_34 : decode cMo_asked 34 = .ok (.iinc 3 1, 3) := by decide +kernel
theorem dMo_asked_37 : decode cMo_asked 37 = .ok (.goto (-33), 3) := by decide +kernel
theorem dMo_asked_40 : decode cMo_asked 40 = .ok (.iload_n 2, 1) := by decide +kernel
theorem dMo_asked_41 : decode cMo_asked 41 = .ok (.ireturn, 1) := by decide +kernel
theorem dMo_rowFits_0 : decode cMo_rowFits 0 = .ok (.aload_n 0, 1) := by decide +kernel
theorem dMo_rowFits_1 : decode cMo_rowFits 1 = .ok (.getfield 29, 3) := by decide +kernel
theorem dMo_rowFits_4 : decode cMo_rowFits 4 = .ok (.iconst 0, 1) := by decide +kernel
theorem dMo_rowFits_5 : decode cMo_rowFits 5 = .ok (.iload_n 1, 1) := by decide +kernel
theorem dMo_rowFits_6 : decode cMo_rowFits 6 = .ok (.iastore, 1) := by decide +kernel
theorem dMo_rowFits_7 : decode cMo_rowFits 7 = .ok (.aload_n 0, 1) := by decide +kernel
theorem dMo_rowFits_8 : decode cMo_rowFits 8 = .ok (.getfield 29, 3) := by decide +kernel
theorem dMo_rowFits_11 : decode cMo_rowFits 11 = .ok (.iconst 1, 1) := by decide +kernel
theorem dMo_rowFits_12 : decode cMo_rowFits 12 = .ok (.iload_n 2, 1) := by decide +kernel
theorem dMo_rowFits_13 : decode cMo_rowFits 13 = .ok (.iastore, 1) := by decide +kernel
theorem dMo_rowFits_14 : decode cMo_rowFits 14 = .ok (.aload_n 0, 1) := by decide +kernel
theorem dMo_rowFits_15 : decode cMo_rowFits 15 = .ok (.getfield 29, 3) := by decide +kernel
theorem dMo_rowFits_18 : decode cMo_rowFits 18 = .ok (.iconst 2, 1) := by decide +kernel
theorem dMo_rowFits_19 : decode cMo_rowFits 19 = .ok (.iload_n 3, 1) := by decide +kernel
theorem dMo_rowFits_20 : decode cMo_rowFits 20 = .ok (.iastore, 1) := by decide +kernel
theorem dMo_rowFits_21 : decode cMo_rowFits 21 = .ok (.aload_n 0, 1) := by decide +kernel
theorem dMo_rowFits_22 : decode cMo_rowFits 22 = .ok (.iconst 0, 1) := by decide +kernel
theorem dMo_rowFits_23 : decode cMo_rowFits 23 = .ok (.putfield 99, 3) := by decide +kernel
theorem dMo_rowFits_26 : decode cMo_rowFits 26 = .ok (.bipush 32, 2) := by decide +kernel
theorem dMo_rowFits_28 : decode cMo_rowFits 28 = .ok (.istore 4, 2) := by decide +kernel
theorem dMo_rowFits_30 : decode cMo_rowFits 30 = .ok (.iload 4, 2) := by decide +kernel
theorem dMo_rowFits_32 : decode cMo_rowFits 32 = .ok (.bipush 35, 2) := by decide +kernel
theorem dMo_rowFits_34 : decode cMo_rowFits 34 = .ok (.if_icmp .ge 32, 3) := by decide +kernel
theorem dMo_rowFits_37 : decode cMo_rowFits 37 = .ok (.aload_n 0, 1) := by decide +kernel
theorem dMo_rowFits_38 : decode cMo_rowFits 38 = .ok (.aload_n 0, 1) := by decide +kernel
theorem dMo_rowFits_39 : decode cMo_rowFits 39 = .ok (.getfield 99, 3) := by decide +kernel
theorem dMo_rowFits_42 : decode cMo_rowFits 42 = .ok (.aload_n 0, 1) := by decide +kernel
theorem dMo_rowFits_43 : decode cMo_rowFits 43 = .ok (.iload 4, 2) := by decide +kernel
theorem dMo_rowFits_45 : decode cMo_rowFits 45 = .ok (.invokevirtual 102, 3) := by decide +kernel
theorem dMo_rowFits_48 : decode cMo_rowFits 48 = .ok (.ifCond .eq 7, 3) := by decide +kernel
theorem dMo_rowFits_51 : decode cMo_rowFits 51 = .ok (.iconst 1, 1) := by decide +kernel
theorem dMo_rowFits_52 : decode cMo_rowFits 52 = .ok (.goto 4, 3) := by decide +kernel
theorem dMo_rowFits_55 : decode cMo_rowFits 55 = .ok (.iconst 0, 1) := by decide +kernel
theorem dMo_rowFits_56 : decode cMo_rowFits 56 = .ok (.iadd, 1) := by decide +kernel
theorem dMo_rowFits_57 : decode cMo_rowFits 57 = .ok (.putfield 99, 3) := by decide +kernel
theorem dMo_rowFits_60 : decode cMo_rowFits 60 = .ok (.iinc 4 1, 3) := by decide +kernel
theorem dMo_rowFits_63 : decode cMo_rowFits 63 = .ok (.goto (-33), 3) := by decide +kernel
theorem dMo_rowFits_66 : decode cMo_rowFits 66 = .ok (.aload_n 0, 1) := by decide +kernel
theorem dMo_rowFits_67 : decode cMo_rowFits 67 = .ok (.getfield 96, 3) := by decide +kernel
theorem dMo_rowFits_70 : decode cMo_rowFits 70 = .ok (.ifCond .le 7, 3) := by decide +kernel
theorem dMo_rowFits_73 : decode cMo_rowFits 73 = .ok (.iconst 1, 1) := by decide +kernel
theorem dMo_rowFits_74 : decode cMo_rowFits 74 = .ok (.goto 4, 3) := by decide +kernel
theorem dMo_rowFits_77 : decode cMo_rowFits 77 = .ok (.iconst 0, 1) := by decide +kernel
theorem dMo_rowFits_78 : decode cMo_rowFits 78 = .ok (.istore 4, 2) := by decide +kernel
theorem dMo_rowFits_80 : decode cMo_rowFits 80 = .ok (.iconst 0, 1) := by decide +kernel
theorem dMo_rowFits_81 : decode cMo_rowFits 81 = .ok (.istore 5, 2) := by decide +kernel
theorem dMo_rowFits_83 : decode cMo_rowFits 83 = .ok (.iload 5, 2) := by decide +kernel
theorem dMo_rowFits_85 : decode cMo_rowFits 85 = .ok (.iconst 3, 1) := by decide +kernel
theorem dMo_rowFits_86 : decode cMo_rowFits 86 = .ok (.if_icmp .ge 147, 3) := by decide +kernel
theorem dMo_rowFits_89 : decode cMo_rowFits 89 = .ok (.iconst 0, 1) := by decide +kernel
theorem dMo_rowFits_90 : decode cMo_rowFits 90 = .ok (.istore 6, 2) := by decide +kernel
theorem dMo_rowFits_92 : decode cMo_rowFits 92 = .ok (.iconst 0, 1) := by decide +kernel
theorem dMo_rowFits_93 : decode cMo_rowFits 93 = .ok (.istore 7, 2) := by decide +kernel
theorem dMo_rowFits_95 : decode cMo_rowFits 95 = .ok (.iload 7, 2) := by decide +kernel
theorem dMo_rowFits_97 : decode cMo_rowFits 97 = .ok (.iload 5, 2) := by decide +kernel
theorem dMo_rowFits_99 : decode cMo_rowFits 99 = .ok (.if_icmp .ge 38, 3) := by decide +kernel
theorem dMo_rowFits_102 : decode cMo_rowFits 102 = .ok (.iload 6, 2) := by decide +kernel
theorem dMo_rowFits_104 : decode cMo_rowFits 104 = .ok (.ifCond .ne 20, 3) := by decide +kernel
theorem dMo_rowFits_107 : decode cMo_rowFits 107 = .ok (.aload_n 0, 1) := by decide +kernel
theorem dMo_rowFits_108 : decode cMo_rowFits 108 = .ok (.getfield 29, 3) := by decide +kernel
theorem dMo_rowFits_111 : decode cMo_rowFits 111 = .ok (.iload 7, 2) := by decide +kernel
theorem dMo_rowFits_113 : decode cMo_rowFits 113 = .ok (.iaload, 1) := by decide +kernel
theorem dMo_rowFits_114 : decode cMo_rowFits 114 = .ok (.aload_n 0, 1) := by decide +kernel
theorem dMo_rowFits_115 : decode cMo_rowFits 115 = .ok (.getfield 29, 3) := by decide +kernel
theorem dMo_rowFits_118 : decode cMo_rowFits 118 = .ok (.iload 5, 2) := by decide +kernel
theorem dMo_rowFits_120 : decode cMo_rowFits 120 = .ok (.iaload, 1) := by decide +kernel
theorem dMo_rowFits_121 : decode cMo_rowFits 121 = .ok (.if_icmp .ne 7, 3) := by decide +kernel
theorem dMo_rowFits_124 : decode cMo_rowFits 124 = .ok (.iconst 1, 1) := by decide +kernel
theorem dMo_rowFits_125 : decode cMo_rowFits 125 = .ok (.goto 4, 3) := by decide +kernel
theorem dMo_rowFits_128 : decode cMo_rowFits 128 = .ok (.iconst 0, 1) := by decide +kernel
theorem dMo_rowFits_129 : decode cMo_rowFits 129 = .ok (.istore 6, 2) := by decide +kernel
theorem dMo_rowFits_131 : decode cMo_rowFits 131 = .ok (.iinc 7 1, 3) := by decide +kernel
theorem dMo_rowFits_134 : decode cMo_rowFits 134 = .ok (.goto (-39), 3) := by decide +kernel
theorem dMo_rowFits_137 : decode cMo_rowFits 137 = .ok (.aload_n 0, 1) := by decide +kernel
theorem dMo_rowFits_138 : decode cMo_rowFits 138 = .ok (.getfield 29, 3) := by decide +kernel
theorem dMo_rowFits_141 : decode cMo_rowFits 141 = .ok (.iload 5, 2) := by decide +kernel
theorem dMo_rowFits_143 : decode cMo_rowFits 143 = .ok (.iaload, 1) := by decide +kernel
theorem dMo_rowFits_144 : decode cMo_rowFits 144 = .ok (.bipush 32, 2) := by decide +kernel
theorem dMo_rowFits_146 : decode cMo_rowFits 146 = .ok (.if_icmp .lt 38, 3) := by decide +kernel
theorem dMo_rowFits_149 : decode cMo_rowFits 149 = .ok (.aload_n 0, 1) := by decide +kernel
theorem dMo_rowFits_150 : decode cMo_rowFits 150 = .ok (.getfield 29, 3) := by decide +kernel
theorem dMo_rowFits_153 : decode cMo_rowFits 153 = .ok (.iload 5, 2) := by decide +kernel
theorem dMo_rowFits_155 : decode cMo_rowFits 155 = .ok (.iaload, 1) := by decide +kernel
theorem dMo_rowFits_156 : decode cMo_rowFits 156 = .ok (.bipush 34, 2) := by decide +kernel
theorem dMo_rowFits_158 : decode cMo_rowFits 158 = .ok (.if_icmp .gt 26, 3) := by decide +kernel
theorem dMo_rowFits_161 : decode cMo_rowFits 161 = .ok (.aload_n 0, 1) := by decide +kernel
theorem dMo_rowFits_162 : decode cMo_rowFits 162 = .ok (.aload_n 0, 1) := by decide +kernel
theorem dMo_rowFits_163 : decode cMo_rowFits 163 = .ok (.getfield 29, 3) := by decide +kernel
theorem dMo_rowFits_166 : decode cMo_rowFits 166 = .ok (.iload 5, 2) := by decide +kernel
theorem dMo_rowFits_168 : decode cMo_rowFits 168 = .ok (.iaload, 1) := by decide +kernel
theorem dMo_rowFits_169 : decode cMo_rowFits 169 = .ok (.invokevirtual 102, 3) := by decide +kernel
theorem dMo_rowFits_172 : decode cMo_rowFits 172 = .ok (.ifCond .eq 12, 3) := by decide +kernel
theorem dMo_rowFits_175 : decode cMo_rowFits 175 = .ok (.iload 6, 2) := by decide +kernel
theorem dMo_rowFits_177 : decode cMo_rowFits 177 = .ok (.ifCond .ne 7, 3) := by decide +kernel
theorem dMo_rowFits_180 : decode cMo_rowFits 180 = .ok (.iconst 1, 1) := by decide +kernel
theorem dMo_rowFits_181 : decode cMo_rowFits 181 = .ok (.goto 4, 3) := by decide +kernel
theorem dMo_rowFits_184 : decode cMo_rowFits 184 = .ok (.iconst 0, 1) := by decide +kernel
theorem dMo_rowFits_185 : decode cMo_rowFits 185 = .ok (.istore 7, 2) := by decide +kernel
theorem dMo_rowFits_187 : decode cMo_rowFits 187 = .ok (.iload 4, 2) := by decide +kernel
theorem dMo_rowFits_189 : decode cMo_rowFits 189 = .ok (.ifCond .eq 35, 3) := by decide +kernel
theorem dMo_rowFits_192 : decode cMo_rowFits 192 = .ok (.iload 5, 2) := by decide +kernel
theorem dMo_rowFits_194 : decode cMo_rowFits 194 = .ok (.aload_n 0, 1) := by decide +kernel
theorem dMo_rowFits_195 : decode cMo_rowFits 195 = .ok (.getfield 99, 3) := by decide +kernel
theorem dMo_rowFits_198 : decode cMo_rowFits 198 = .ok (.if_icmp .ge 11, 3) := by decide +kernel
theorem dMo_rowFits_201 : decode cMo_rowFits 201 = .ok (.iload 7, 2) := by decide +kernel
theorem dMo_rowFits_203 : decode cMo_rowFits 203 = .ok (.ifCond .eq 21, 3) := by decide +kernel
theorem dMo_rowFits_206 : decode cMo_rowFits 206 = .ok (.goto 14, 3) := by decide +kernel
theorem dMo_rowFits_209 : decode cMo_rowFits 209 = .ok (.aload_n 0, 1) := by decide +kernel
theorem dMo_rowFits_210 : decode cMo_rowFits 210 = .ok (.getfield 29, 3) := by decide +kernel
theorem dMo_rowFits_213 : decode cMo_rowFits 213 = .ok (.iload 5, 2) := by decide +kernel
theorem dMo_rowFits_215 : decode cMo_rowFits 215 = .ok (.iaload, 1) := by decide +kernel
theorem dMo_rowFits_216 : decode cMo_rowFits 216 = .ok (.iconst (-1), 1) := by decide +kernel
theorem dMo_rowFits_217 : decode cMo_rowFits 217 = .ok (.if_icmp .ne 7, 3) := by decide +kernel
theorem dMo_rowFits_220 : decode cMo_rowFits 220 = .ok (.iconst 1, 1) := by decide +kernel
theorem dMo_rowFits_221 : decode cMo_rowFits 221 = .ok (.goto 4, 3) := by decide +kernel
theorem dMo_rowFits_224 : decode cMo_rowFits 224 = .ok (.iconst 0, 1) := by decide +kernel
theorem dMo_rowFits_225 : decode cMo_rowFits 225 = .ok (.istore 4, 2) := by decide +kernel
theorem dMo_rowFits_227 : decode cMo_rowFits 227 = .ok (.iinc 5 1, 3) := by decide +kernel
theorem dMo_rowFits_230 : decode cMo_rowFits 230 = .ok (.goto (-147), 3) := by decide +kernel
theorem dMo_rowFits_233 : decode cMo_rowFits 233 = .ok (.iload 4, 2) := by decide +kernel
theorem dMo_rowFits_235 : decode cMo_rowFits 235 = .ok (.ireturn, 1) := by decide +kernel
theorem dMo_agreed_0 : decode cMo_agreed 0 = .ok (.iconst 0, 1) := by decide +kernel
theorem dMo_agreed_1 : decode cMo_agreed 1 = .ok (.istore_n 2, 1) := by decide +kernel
theorem dMo_agreed_2 : decode cMo_agreed 2 = .ok (.iconst 0, 1) := by decide +kernel
theorem dMo_agreed_3 : decode cMo_agreed 3 = .ok (.istore_n 3, 1) := by decide +kernel
theorem dMo_agreed_4 : decode cMo_agreed 4 = .ok (.iload_n 3, 1) := by decide +kernel
theorem dMo_agreed_5 : decode cMo_agreed 5 = .ok (.aload_n 0, 1) := by decide +kernel
theorem dMo_agreed_6 : decode cMo_agreed 6 = .ok (.getfield 53, 3) := by decide +kernel
theorem dMo_agreed_9 : decode cMo_agreed 9 = .ok (.if_icmp .ge 185, 3) := by decide +kernel
theorem dMo_agreed_12 : decode cMo_agreed 12 = .ok (.iconst 1, 1) := by decide +kernel
theorem dMo_agreed_13 : decode cMo_agreed 13 = .ok (.istore 4, 2) := by decide +kernel
theorem dMo_agreed_15 : decode cMo_agreed 15 = .ok (.iconst 0, 1) := by decide +kernel
theorem dMo_agreed_16 : decode cMo_agreed 16 = .ok (.istore 5, 2) := by decide +kernel
theorem dMo_agreed_18 : decode cMo_agreed 18 = .ok (.iload 5, 2) := by decide +kernel
theorem dMo_agreed_20 : decode cMo_agreed 20 = .ok (.iconst 3, 1) := by decide +kernel
theorem dMo_agreed_21 : decode cMo_agreed 21 = .ok (.if_icmp .ge 152, 3) := by decide +kernel
theorem dMo_agreed_24 : decode cMo_agreed 24 = .ok (.aload_n 0, 1) := by decide +kernel
theorem dMo_agreed_25 : decode cMo_agreed 25 = .ok (.getfield 26, 3) := by decide +kernel
theorem dMo_agreed_28 : decode cMo_agreed 28 = .ok (.iconst 3, 1) := by decide +kernel
theorem dMo_agreed_29 : decode cMo_agreed 29 = .ok (.iload_n 1, 1) := by decide +kernel
theorem dMo_agreed_30 : decode cMo_agreed 30 = .ok (.imul, 1) := by decide +kernel
theorem dMo_agreed_31 : decode cMo_agreed 31 = .ok (.iload 5, 2) := by decide +kernel
theorem dMo_agreed_33 : decode cMo_agreed 33 = .ok (.iadd, 1) := by decide +kernel
theorem dMo_agreed_34 : decode cMo_agreed 34 = .ok (.iaload, 1) := by decide +kernel
theorem dMo_agreed_35 : decode cMo_agreed 35 = .ok (.istore 6, 2) := by decide +kernel
theorem dMo_agreed_37 : decode cMo_agreed 37 = .ok (.aload_n 0, 1) := by decide +kernel
theorem dMo_agreed_38 : decode cMo_agreed 38 = .ok (.getfield 20, 3) := by decide +kernel
theorem dMo_agreed_41 : decode cMo_agreed 41 = .ok (.iload_n 3, 1) := by decide +kernel
theorem dMo_agreed_42 : decode cMo_agreed 42 = .ok (.iaload, 1) := by decide +kernel
theorem dMo_agreed_43 : decode cMo_agreed 43 = .ok (.iload 5, 2) := by decide +kernel
theorem dMo_agreed_45 : decode cMo_agreed 45 = .ok (.invokestatic 86, 3) := by decide +kernel
theorem dMo_agreed_48 : decode cMo_agreed 48 = .ok (.istore 7, 2) := by decide +kernel
theorem dMo_agreed_50 : decode cMo_agreed 50 = .ok (.iload 4, 2) := by decide +kernel
theorem dMo_agreed_52 : decode cMo_agreed 52 = .ok (.ifCond .eq 52, 3) := by decide +kernel
theorem dMo_agreed_55 : decode cMo_agreed 55 = .ok (.iload 6, 2) := by decide +kernel
theorem dMo_agreed_57 : decode cMo_agreed 57 = .ok (.bipush 32, 2) := by decide +kernel
theorem dMo_agreed_59 : decode cMo_agreed 59 = .ok (.if_icmp .ge 13, 3) := by decide +kernel
theorem dMo_agreed_62 : decode cMo_agreed 62 = .ok (.iload 6, 2) := by decide +kernel
theorem dMo_agreed_64 : decode cMo_agreed 64 = .ok (.iload 7, 2) := by decide +kernel
theorem dMo_agreed_66 : decode cMo_agreed 66 = .ok (.if_icmp .ne 38, 3) := by decide +kernel
theorem dMo_agreed_69 : decode cMo_agreed 69 = .ok (.goto 31, 3) := by decide +kernel
theorem dMo_agreed_72 : decode cMo_agreed 72 = .ok (.aload_n 0, 1) := by decide +kernel
theorem dMo_agreed_73 : decode cMo_agreed 73 = .ok (.getfield 35, 3) := by decide +kernel
theorem dMo_agreed_76 : decode cMo_agreed 76 = .ok (.iload 6, 2) := by decide +kernel
theorem dMo_agreed_78 : decode cMo_agreed 78 = .ok (.bipush 32, 2) := by decide +kernel
theorem dMo_agreed_80 : decode cMo_agreed 80 = .ok (.isub, 1) := by decide +kernel
theorem dMo_agreed_81 : decode cMo_agreed 81 = .ok (.baload, 1) := by decide +kernel
theorem dMo_agreed_82 : decode cMo_agreed 82 = .ok (.ifCond .eq 18, 3) := by decide +kernel
theorem dMo_agreed_85 : decode cMo_agreed 85 = .ok (.aload_n 0, 1) := by decide +kernel
theorem dMo_agreed_86 : decode cMo_agreed 86 = .ok (.getfield 32, 3) := by decide +kernel
theorem dMo_agreed_89 : decode cMo_agreed 89 = .ok (.iload 6, 2) := by decide +kernel
theorem dMo_agreed_91 : decode cMo_agreed 91 = .ok (.bipush 32, 2) := by decide +kernel
theorem dMo_agreed_93 : decode cMo_agreed 93 = .ok (.isub, 1) := by decide +kernel
theorem dMo_agreed_94 : decode cMo_agreed 94 = .ok (.iaload, 1) := by decide +kernel
theorem dMo_agreed_95 : decode cMo_agreed 95 = .ok (.iload 7, 2) := by decide +kernel
theorem dMo_agreed_97 : decode cMo_agreed 97 = .ok (.if_icmp .ne 7, 3) := by decide +kernel
theorem dMo_agreed_100 : decode cMo_agreed 100 = .ok (.iconst 1, 1) := by decide +kernel
theorem dMo_agreed_101 : decode cMo_agreed 101 = .ok (.goto 4, 3) := by decide +kernel
theorem dMo_agreed_104 : decode cMo_agreed 104 = .ok (.iconst 0, 1) := by decide +kernel
theorem dMo_agreed_105 : decode cMo_agreed 105 = .ok (.istore 4, 2) := by decide +kernel
theorem dMo_agreed_107 : decode cMo_agreed 107 = .ok (.iconst 0, 1) := by decide +kernel
theorem dMo_agreed_108 : decode cMo_agreed 108 = .ok (.istore 8, 2) := by decide +kernel
theorem dMo_agreed_110 : decode cMo_agreed 110 = .ok (.iload 8, 2) := by decide +kernel
theorem dMo_agreed_112 : decode cMo_agreed 112 = .ok (.iload 5, 2) := by decide +kernel
theorem dMo_agreed_114 : decode cMo_agreed 114 = .ok (.if_icmp .ge 53, 3) := by decide +kernel
theorem dMo_agreed_117 : decode cMo_agreed 117 = .ok (.iload 4, 2) := by decide +kernel
theorem dMo_agreed_119 : decode cMo_agreed 119 = .ok (.ifCond .eq 39, 3) := by decide +kernel
theorem dMo_agreed_122 : decode cMo_agreed 122 = .ok (.aload_n 0, 1) := by decide +kernel
theorem dMo_agreed_123 : decode cMo_agreed 123 = .ok (.getfield 26, 3) := by decide +kernel
theorem dMo_agreed_126 : decode cMo_agreed 126 = .ok (.iconst 3, 1) := by decide +kernel
theorem dMo_agreed_127 : decode cMo_agreed 127 = .ok (.iload_n 1, 1) := by decide +kernel
theorem dMo_agreed_128 : decode cMo_agreed 128 = .ok (.imul, 1) := by decide +kernel
theorem dMo_agreed_129 : decode cMo_agreed 129 = .ok (.iload 8, 2) := by decide +kernel
theorem dMo_agreed_131 : decode cMo_agreed 131 = .ok (.iadd, 1) := by decide +kernel
theorem dMo_agreed_132 : decode cMo_agreed 132 = .ok (.iaload, 1) := by decide +kernel
theorem dMo_agreed_133 : decode cMo_agreed 133 = .ok (.iload 6, 2) := by decide +kernel
theorem dMo_agreed_135 : decode cMo_agreed 135 = .ok (.if_icmp .ne 19, 3) := by decide +kernel
theorem dMo_agreed_138 : decode cMo_agreed 138 = .ok (.aload_n 0, 1) := by decide +kernel
theorem dMo_agreed_139 : decode cMo_agreed 139 = .ok (.getfield 20, 3) := by decide +kernel
theorem dMo_agreed_142 : decode cMo_agreed 142 = .ok (.iload_n 3, 1) := by decide +kernel
theorem dMo_agreed_143 : decode cMo_agreed 143 = .ok (.iaload, 1) := by decide +kernel
theorem dMo_agreed_144 : decode cMo_agreed 144 = .ok (.iload 8, 2) := by decide +kernel
theorem dMo_agreed_146 : decode cMo_agreed 146 = .ok (.invokestatic 86, 3) := by decide +kernel
theorem dMo_agreed_149 : decode cMo_agreed 149 = .ok (.iload 7, 2) := by decide +kernel
theorem dMo_agreed_151 : decode cMo_agreed 151 = .ok (.if_icmp .ne 7, 3) := by decide +kernel
theorem dMo_agreed_154 : decode cMo_agreed 154 = .ok (.iconst 1, 1) := by decide +kernel
theorem dMo_agreed_155 : decode cMo_agreed 155 = .ok (.goto 4, 3) := by decide +kernel
theorem dMo_agreed_158 : decode cMo_agreed 158 = .ok (.iconst 0, 1) := by decide +kernel
theorem dMo_agreed_159 : decode cMo_agreed 159 = .ok (.istore 4, 2) := by decide +kernel
theorem dMo_agreed_161 : decode cMo_agreed 161 = .ok (.iinc 8 1, 3) := by decide +kernel
theorem dMo_agreed_164 : decode cMo_agreed 164 = .ok (.goto (-54), 3) := by decide +kernel
theorem dMo_agreed_167 : decode cMo_agreed 167 = .ok (.iinc 5 1, 3) := by decide +kernel
theorem dMo_agreed_170 : decode cMo_agreed 170 = .ok (.goto (-152), 3) := by decide +kernel
theorem dMo_agreed_173 : decode cMo_agreed 173 = .ok (.iload_n 2, 1) := by decide +kernel
theorem dMo_agreed_174 : decode cMo_agreed 174 = .ok (.ifCond .ne 8, 3) := by decide +kernel
theorem dMo_agreed_177 : decode cMo_agreed 177 = .ok (.iload 4, 2) := by decide +kernel
theorem dMo_agreed_179 : decode cMo_agreed 179 = .ok (.ifCond .eq 7, 3) := by decide +kernel
theorem dMo_agreed_182 : decode cMo_agreed 182 = .ok (.iconst 1, 1) := by decide +kernel
theorem dMo_agreed_183 : decode cMo_agreed 183 = .ok (.goto 4, 3) := by decide +kernel
theorem dMo_agreed_186 : decode cMo_agreed 186 = .ok (.iconst 0, 1) := by decide +kernel
theorem dMo_agreed_187 : decode cMo_agreed 187 = .ok (.istore_n 2, 1) := by decide +kernel
theorem dMo_agreed_188 : decode cMo_agreed 188 = .ok (.iinc 3 1, 3) := by decide +kernel
theorem dMo_agreed_191 : decode cMo_agreed 191 = .ok (.goto (-187), 3) := by decide +kernel
theorem dMo_agreed_194 : decode cMo_agreed 194 = .ok (.iload_n 2, 1) := by decide +kernel
theorem dMo_agreed_195 : decode cMo_agreed 195 = .ok (.ireturn, 1) := by decide +kernel
theorem dMo_counts_0 : decode cMo_counts 0 = .ok (.iconst 1, 1) := by decide +kernel
theorem dMo_counts_1 : decode cMo_counts 1 = .ok (.istore_n 2, 1) := by decide +kernel
theorem dMo_counts_2 : decode cMo_counts 2 = .ok (.iconst 0, 1) := by decide +kernel
theorem dMo_counts_3 : decode cMo_counts 3 = .ok (.istore_n 3, 1) := by decide +kernel
theorem dMo_counts_4 : decode cMo_counts 4 = .ok (.iconst 3, 1) := by decide +kernel
theorem dMo_counts_5 : decode cMo_counts 5 = .ok (.iload_n 1, 1) := by decide +kernel
theorem dMo_counts_6 : decode cMo_counts 6 = .ok (.imul, 1) := by decide +kernel
theorem dMo_counts_7 : decode cMo_counts 7 = .ok (.istore 4, 2) := by decide +kernel
theorem dMo_counts_9 : decode cMo_counts 9 = .ok (.iload 4, 2) := by decide +kernel
theorem dMo_counts_11 : decode cMo_counts 11 = .ok (.iconst 3, 1) := by decide +kernel
theorem dMo_counts_12 : decode cMo_counts 12 = .ok (.iload_n 1, 1) := by decide +kernel
theorem dMo_counts_13 : decode cMo_counts 13 = .ok (.imul, 1) := by decide +kernel
theorem dMo_counts_14 : decode cMo_counts 14 = .ok (.iconst 3, 1) := by decide +kernel
theorem dMo_counts_15 : decode cMo_counts 15 = .ok (.iadd, 1) := by decide +kernel
theorem dMo_counts_16 : decode cMo_counts 16 = .ok (.if_icmp .ge 71, 3) := by decide +kernel
theorem dMo_counts_19 : decode cMo_counts 19 = .ok (.iload_n 2, 1) := by decide +kernel
theorem dMo_counts_20 : decode cMo_counts 20 = .ok (.ifCond .eq 19, 3) := by decide +kernel
theorem dMo_counts_23 : decode cMo_counts 23 = .ok (.aload_n 0, 1) := by decide +kernel
theorem dMo_counts_24 : decode cMo_counts 24 = .ok (.getfield 26, 3) := by decide +kernel
theorem dMo_counts_27 : decode cMo_counts 27 = .ok (.iload 4, 2) := by decide +kernel
theorem dMo_counts_29 : decode cMo_counts 29 = .ok (.iaload, 1) := by decide +kernel
theorem dMo_counts_30 : decode cMo_counts 30 = .ok (.bipush 32, 2) := by decide +kernel
theorem dMo_counts_32 : decode cMo_counts 32 = .ok (.if_icmp .ge 7, 3) := by decide +kernel
theorem dMo_counts_35 : decode cMo_counts 35 = .ok (.iconst 1, 1) := by decide +kernel
theorem dMo_counts_36 : decode cMo_counts 36 = .ok (.goto 4, 3) := by decide +kernel
theorem dMo_counts_39 : decode cMo_counts 39 = .ok (.iconst 0, 1) := by decide +kernel
theorem dMo_counts_40 : decode cMo_counts 40 = .ok (.istore_n 2, 1) := by decide +kernel
theorem dMo_counts_41 : decode cMo_counts 41 = .ok (.iload_n 3, 1) := by decide +kernel
theorem dMo_counts_42 : decode cMo_counts 42 = .ok (.ifCond .ne 33, 3) := by decide +kernel
theorem dMo_counts_45 : decode cMo_counts 45 = .ok (.aload_n 0, 1) := by decide +kernel
theorem dMo_counts_46 : decode cMo_counts 46 = .ok (.getfield 26, 3) := by decide +kernel
theorem dMo_counts_49 : decode cMo_counts 49 = .ok (.iload 4, 2) := by decide +kernel
theorem dMo_counts_51 : decode cMo_counts 51 = .ok (.iaload, 1) := by decide +kernel
theorem dMo_counts_52 : decode cMo_counts 52 = .ok (.bipush 32, 2) := by decide +kernel
theorem dMo_counts_54 : decode cMo_counts 54 = .ok (.if_icmp .lt 25, 3) := by decide +kernel
theorem dMo_counts_57 : decode cMo_counts 57 = .ok (.aload_n 0, 1) := by decide +kernel
theorem dMo_counts_58 : decode cMo_counts 58 = .ok (.getfield 35, 3) := by decide +kernel
theorem dMo_counts_61 : decode cMo_counts 61 = .ok (.aload_n 0, 1) := by decide +kernel
theorem dMo_counts_62 : decode cMo_counts 62 = .ok (.getfield 26, 3) := by decide +kernel
theorem dMo_counts_65 : decode cMo_counts 65 = .ok (.iload 4, 2) := by decide +kernel
theorem dMo_counts_67 : decode cMo_counts 67 = .ok (.iaload, 1) := by decide +kernel
theorem dMo_counts_68 : decode cMo_counts 68 = .ok (.bipush 32, 2) := by decide +kernel
theorem dMo_counts_70 : decode cMo_counts 70 = .ok (.isub, 1) := by decide +kernel
theorem dMo_counts_71 : decode cMo_counts 71 = .ok (.baload, 1) := by decide +kernel
theorem dMo_counts_72 : decode cMo_counts 72 = .ok (.ifCond .eq 7, 3) := by decide +kernel
theorem dMo_counts_75 : decode cMo_counts 75 = .ok (.iconst 1, 1) := by decide +kernel
theorem dMo_counts_76 : decode cMo_counts 76 = .ok (.goto 4, 3) := by decide +kernel
theorem dMo_counts_79 : decode cMo_counts 79 = .ok (.iconst 0, 1) := by decide +kernel
theorem dMo_counts_80 : decode cMo_counts 80 = .ok (.istore_n 3, 1) := by decide +kernel
theorem dMo_counts_81 : decode cMo_counts 81 = .ok (.iinc 4 1, 3) := by decide +kernel
theorem dMo_counts_84 : decode cMo_counts 84 = .ok (.goto (-75), 3) := by decide +kernel
theorem dMo_counts_87 : decode cMo_counts 87 = .ok (.iload_n 2, 1) := by decide +kernel
theorem dMo_counts_88 : decode cMo_counts 88 = .ok (.ifCond .ne 7, 3) := by decide +kernel
theorem dMo_counts_91 : decode cMo_counts 91 = .ok (.iload_n 3, 1) := by decide +kernel
theorem dMo_counts_92 : decode cMo_counts 92 = .ok (.ifCond .eq 7, 3) := by decide +kernel
theorem dMo_counts_95 : decode cMo_counts 95 = .ok (.iconst 1, 1) := by decide +kernel
theorem dMo_counts_96 : decode cMo_counts 96 = .ok (.goto 4, 3) := by decide +kernel
theorem dMo_counts_99 : decode cMo_counts 99 = .ok (.iconst 0, 1) := by decide +kernel
theorem dMo_counts_100 : decode cMo_counts 100 = .ok (.ireturn, 1) := by decide +kernel
theorem dMo_isLive_0 : decode cMo_isLive 0 = .ok (.iconst 0, 1) := by decide +kernel
theorem dMo_isLive_1 : decode cMo_isLive 1 = .ok (.istore_n 1, 1) := by decide +kernel
theorem dMo_isLive_2 : decode cMo_isLive 2 = .ok (.iload_n 1, 1) := by decide +kernel
theorem dMo_isLive_3 : decode cMo_isLive 3 = .ok (.aload_n 0, 1) := by decide +kernel
theorem dMo_isLive_4 : decode cMo_isLive 4 = .ok (.getfield 96, 3) := by decide +kernel
theorem dMo_isLive_7 : decode cMo_isLive 7 = .ok (.if_icmp .ge 27, 3) := by decide +kernel
theorem dMo_isLive_10 : decode cMo_isLive 10 = .ok (.aload_n 0, 1) := by decide +kernel
theorem dMo_isLive_11 : decode cMo_isLive 11 = .ok (.iload_n 1, 1) := by decide +kernel
theorem dMo_isLive_12 : decode cMo_isLive 12 = .ok (.invokevirtual 105, 3) := by decide +kernel
theorem dMo_isLive_15 : decode cMo_isLive 15 = .ok (.ifCond .eq 13, 3) := by decide +kernel
theorem dMo_isLive_18 : decode cMo_isLive 18 = .ok (.aload_n 0, 1) := by decide +kernel
theorem dMo_isLive_19 : decode cMo_isLive 19 = .ok (.iload_n 1, 1) := by decide +kernel
theorem dMo_isLive_20 : decode cMo_isLive 20 = .ok (.invokevirtual 108, 3) := by decide +kernel
theorem dMo_isLive_23 : decode cMo_isLive 23 = .ok (.ifCond .ne 5, 3) := by decide +kernel
theorem dMo_isLive_26 : decode cMo_isLive 26 = .ok (.iconst 0, 1) := by decide +kernel
theorem dMo_isLive_27 : decode cMo_isLive 27 = .ok (.ireturn, 1) := by decide +kernel
theorem dMo_isLive_28 : decode cMo_isLive 28 = .ok (.iinc 1 1, 3) := by decide +kernel
theorem dMo_isLive_31 : decode cMo_isLive 31 = .ok (.goto (-29), 3) := by decide +kernel
theorem dMo_isLive_34 : decode cMo_isLive 34 = .ok (.iconst 1, 1) := by decide +kernel
theorem dMo_isLive_35 : decode cMo_isLive 35 = .ok (.ireturn, 1) := by decide +kernel
theorem dMo_bind_0 : decode cMo_bind 0 = .ok (.iload_n 2, 1) := by decide +kernel
theorem dMo_bind_1 : decode cMo_bind 1 = .ok (.istore_n 3, 1) := by decide +kernel
theorem dMo_bind_2 : decode cMo_bind 2 = .ok (.iconst 0, 1) := by decide +kernel
theorem dMo_bind_3 : decode cMo_bind 3 = .ok (.istore 4, 2) := by decide +kernel
theorem dMo_bind_5 : decode cMo_bind 5 = .ok (.iload 4, 2) := by decide +kernel
theorem dMo_bind_7 : decode cMo_bind 7 = .ok (.iconst 3, 1) := by decide +kernel
theorem dMo_bind_8 : decode cMo_bind 8 = .ok (.if_icmp .ge 25, 3) := by decide +kernel
theorem dMo_bind_11 : decode cMo_bind 11 = .ok (.aload_n 0, 1) := by decide +kernel
theorem dMo_bind_12 : decode cMo_bind 12 = .ok (.getfield 35, 3) := by decide +kernel
theorem dMo_bind_15 : decode cMo_bind 15 = .ok (.iload 4, 2) := by decide +kernel
theorem dMo_bind_17 : decode cMo_bind 17 = .ok (.iconst 0, 1) := by decide +kernel
theorem dMo_bind_18 : decode cMo_bind 18 = .ok (.bastore, 1) := by decide +kernel
theorem dMo_bind_19 : decode cMo_bind 19 = .ok (.aload_n 0, 1) := by decide +kernel
theorem dMo_bind_20 : decode cMo_bind 20 = .ok (.getfield 32, 3) := by decide +kernel
theorem dMo_bind_23 : decode cMo_bind 23 = .ok (.iload 4, 2) := by decide +kernel
theorem dMo_bind_25 : decode cMo_bind 25 = .ok (.iconst (-1), 1) := by decide +kernel
theorem dMo_bind_26 : decode cMo_bind 26 = .ok (.iastore, 1) := by decide +kernel
theorem dMo_bind_27 : decode cMo_bind 27 = .ok (.iinc 4 1, 3) := by decide +kernel
theorem dMo_bind_30 : decode cMo_bind 30 = .ok (.goto (-25), 3) := by decide +kernel
theorem dMo_bind_33 : decode cMo_bind 33 = .ok (.iload_n 1, 1) := by decide +kernel
theorem dMo_bind_34 : decode cMo_bind 34 = .ok (.iconst 1, 1) := by decide +kernel
theorem dMo_bind_35 : decode cMo_bind 35 = .ok (.isub, 1) := by decide +kernel
theorem dMo_bind_36 : decode cMo_bind 36 = .ok (.istore 4, 2) := by decide +kernel
theorem dMo_bind_38 : decode cMo_bind 38 = .ok (.iload 4, 2) := by decide +kernel
theorem dMo_bind_40 : decode cMo_bind 40 = .ok (.ifCond .lt 53, 3) := by decide +kernel
theorem dMo_bind_43 : decode cMo_bind 43 = .ok (.aload_n 0, 1) := by decide +kernel
theorem dMo_bind_44 : decode cMo_bind 44 = .ok (.getfield 35, 3) := by decide +kernel
theorem dMo_bind_47 : decode cMo_bind 47 = .ok (.aload_n 0, 1) := by decide +kernel
theorem dMo_bind_48 : decode cMo_bind 48 = .ok (.getfield 29, 3) := by decide +kernel
theorem dMo_bind_51 : decode cMo_bind 51 = .ok (.iload 4, 2) := by decide +kernel
theorem dMo_bind_53 : decode cMo_bind 53 = .ok (.iaload, 1) := by decide +kernel
theorem dMo_bind_54 : decode cMo_bind 54 = .ok (.bipush 32, 2) := by decide +kernel
theorem dMo_bind_56 : decode cMo_bind 56 = .ok (.isub, 1) := by decide +kernel
theorem dMo_bind_57 : decode cMo_bind 57 = .ok (.iconst 1, 1) := by decide +kernel
theorem dMo_bind_58 : decode cMo_bind 58 = .ok (.bastore, 1) := by decide +kernel
theorem dMo_bind_59 : decode cMo_bind 59 = .ok (.aload_n 0, 1) := by decide +kernel
theorem dMo_bind_60 : decode cMo_bind 60 = .ok (.getfield 32, 3) := by decide +kernel
theorem dMo_bind_63 : decode cMo_bind 63 = .ok (.aload_n 0, 1) := by decide +kernel
theorem dMo_bind_64 : decode cMo_bind 64 = .ok (.getfield 29, 3) := by decide +kernel
theorem dMo_bind_67 : decode cMo_bind 67 = .ok (.iload 4, 2) := by decide +kernel
theorem dMo_bind_69 : decode cMo_bind 69 = .ok (.iaload, 1) := by decide +kernel
theorem dMo_bind_70 : decode cMo_bind 70 = .ok (.bipush 32, 2) := by decide +kernel
theorem dMo_bind_72 : decode cMo_bind 72 = .ok (.isub, 1) := by decide +kernel
theorem dMo_bind_73 : decode cMo_bind 73 = .ok (.iload_n 3, 1) := by decide +kernel
theorem dMo_bind_74 : decode cMo_bind 74 = .ok (.aload_n 0, 1) := by decide +kernel
theorem dMo_bind_75 : decode cMo_bind 75 = .ok (.getfield 46, 3) := by decide +kernel
theorem dMo_bind_78 : decode cMo_bind 78 = .ok (.irem, 1) := by decide +kernel
theorem dMo_bind_79 : decode cMo_bind 79 = .ok (.iastore, 1) := by decide +kernel
theorem dMo_bind_80 : decode cMo_bind 80 = .ok (.iload_n 3, 1) := by decide +kernel
theorem dMo_bind_81 : decode cMo_bind 81 = .ok (.aload_n 0, 1) := by decide +kernel
theorem dMo_bind_82 : decode cMo_bind 82 = .ok (.getfield 46, 3) := by decide +kernel
theorem dMo_bind_85 : decode cMo_bind 85 = .ok (.idiv, 1) := by decide +kernel
theorem dMo_bind_86 : decode cMo_bind 86 = .ok (.istore_n 3, 1) := by decide +kernel
theorem dMo_bind_87 : decode cMo_bind 87 = .ok (.iinc 4 (-1), 3) := by decide +kernel
theorem dMo_bind_90 : decode cMo_bind 90 = .ok (.goto (-52), 3) := by decide +kernel
theorem dMo_bind_93 : decode cMo_bind 93 = .ok (.return_, 1) := by decide +kernel
theorem dMo_through_0 : decode cMo_through 0 = .ok (.iconst 1, 1) := by decide +kernel
theorem dMo_through_1 : decode cMo_through 1 = .ok (.istore_n 2, 1) := by decide +kernel
theorem dMo_through_2 : decode cMo_through 2 = .ok (.iconst 0, 1) := by decide +kernel
theorem dMo_through_3 : decode cMo_through 3 = .ok (.istore_n 3, 1) := by decide +kernel
theorem dMo_through_4 : decode cMo_through 4 = .ok (.iload_n 3, 1) := by decide +kernel
theorem dMo_through_5 : decode cMo_through 5 = .ok (.iload_n 1, 1) := by decide +kernel
theorem dMo_through_6 : decode cMo_through 6 = .ok (.if_icmp .ge 16, 3) := by decide +kernel
theorem dMo_through_9 : decode cMo_through 9 = .ok (.iload_n 2, 1) := by decide +kernel
theorem dMo_through_10 : decode cMo_through 10 = .ok (.aload_n 0, 1) := by decide +kernel
theorem dMo_through_11 : decode cMo_through 11 = .ok (.getfield 46, 3) := by decide +kernel
theorem dMo_through_14 : decode cMo_through 14 = .ok (.imul, 1) := by decide +kernel
theorem dMo_through_15 : decode cMo_through 15 = .ok (.istore_n 2, 1) := by decide +kernel
theorem dMo_through_16 : decode cMo_through 16 = .ok (.iinc 3 1, 3) := by decide +kernel
theorem dMo_through_19 : decode cMo_through 19 = .ok (.goto (-15), 3) := by decide +kernel
theorem dMo_through_22 : decode cMo_through 22 = .ok (.iconst 0, 1) := by decide +kernel
theorem dMo_through_23 : decode cMo_through 23 = .ok (.istore_n 3, 1) := by decide +kernel
theorem dMo_through_24 : decode cMo_through 24 = .ok (.iconst 0, 1) := by decide +kernel
theorem dMo_through_25 : decode cMo_through 25 = .ok (.istore 4, 2) := by decide +kernel
theorem dMo_through_27 : decode cMo_through 27 = .ok (.iload 4, 2) := by decide +kernel
theorem dMo_through_29 : decode cMo_through 29 = .ok (.iload_n 2, 1) := by decide +kernel
theorem dMo_through_30 : decode cMo_through 30 = .ok (.if_icmp .ge 66, 3) := by decide +kernel
theorem dMo_through_33 : decode cMo_through 33 = .ok (.aload_n 0, 1) := by decide +kernel
theorem dMo_through_34 : decode cMo_through 34 = .ok (.iload_n 1, 1) := by decide +kernel
theorem dMo_through_35 : decode cMo_through 35 = .ok (.iload 4, 2) := by decide +kernel
theorem dMo_through_37 : decode cMo_through 37 = .ok (.invokevirtual 111, 3) := by decide +kernel
theorem dMo_through_40 : decode cMo_through 40 = .ok (.aload_n 0, 1) := by decide +kernel
theorem dMo_through_41 : decode cMo_through 41 = .ok (.invokevirtual 115, 3) := by decide +kernel
theorem dMo_through_44 : decode cMo_through 44 = .ok (.ifCond .eq 46, 3) := by decide +kernel
theorem dMo_through_47 : decode cMo_through 47 = .ok (.iconst 0, 1) := by decide +kernel
theorem dMo_through_48 : decode cMo_through 48 = .ok (.istore 5, 2) := by decide +kernel
theorem dMo_through_50 : decode cMo_through 50 = .ok (.iload 5, 2) := by decide +kernel
theorem dMo_through_52 : decode cMo_through 52 = .ok (.iconst 3, 1) := by decide +kernel
theorem dMo_through_53 : decode cMo_through 53 = .ok (.if_icmp .ge 34, 3) := by decide +kernel
theorem dMo_through_56 : decode cMo_through 56 = .ok (.iload_n 3, 1) := by decide +kernel
theorem dMo_through_57 : decode cMo_through 57 = .ok (.sipush 200, 3) := by decide +kernel
theorem dMo_through_60 : decode cMo_through 60 = .ok (.if_icmp .ge 27, 3) := by decide +kernel
theorem dMo_through_63 : decode cMo_through 63 = .ok (.aload_n 0, 1) := by decide +kernel
theorem dMo_through_64 : decode cMo_through 64 = .ok (.getfield 39, 3) := by decide +kernel
theorem dMo_through_67 : decode cMo_through 67 = .ok (.iconst 3, 1) := by decide +kernel
theorem dMo_through_68 : decode cMo_through 68 = .ok (.iload_n 3, 1) := by decide +kernel
theorem dMo_through_69 : decode cMo_through 69 = .ok (.imul, 1) := by decide +kernel
theorem dMo_through_70 : decode cMo_through 70 = .ok (.iload 5, 2) := by decide +kernel
theorem dMo_through_72 : decode cMo_through 72 = .ok (.iadd, 1) := by decide +kernel
theorem dMo_through_73 : decode cMo_through 73 = .ok (.aload_n 0, 1) := by decide +kernel
theorem dMo_through_74 : decode cMo_through 74 = .ok (.getfield 32, 3) := by decide +kernel
theorem dMo_through_77 : decode cMo_through 77 = .ok (.iload 5, 2) := by decide +kernel
theorem dMo_through_79 : decode cMo_through 79 = .ok (.iaload, 1) := by decide +kernel
theorem dMo_through_80 : decode cMo_through 80 = .ok (.iastore, 1) := by decide +kernel
theorem dMo_through_81 : decode cMo_through 81 = .ok (.iinc 5 1, 3) := by decide +kernel
theorem dMo_through_84 : decode cMo_through 84 = .ok (.goto (-34), 3) := by decide +kernel
theorem dMo_through_87 : decode cMo_through 87 = .ok (.iinc 3 1, 3) := by decide +kernel
theorem dMo_through_90 : decode cMo_through 90 = .ok (.iinc 4 1, 3) := by decide +kernel
theorem dMo_through_93 : decode cMo_through 93 = .ok (.goto (-66), 3) := by decide +kernel
theorem dMo_through_96 : decode cMo_through 96 = .ok (.iload_n 3, 1) := by decide +kernel
theorem dMo_through_97 : decode cMo_through 97 = .ok (.ireturn, 1) := by decide +kernel
theorem dMo_run_0 : decode cMo_run 0 = .ok (.aload_n 0, 1) := by decide +kernel
theorem dMo_run_1 : decode cMo_run 1 = .ok (.iload_n 1, 1) := by decide +kernel
theorem dMo_run_2 : decode cMo_run 2 = .ok (.iload_n 2, 1) := by decide +kernel
theorem dMo_run_3 : decode cMo_run 3 = .ok (.iload_n 3, 1) := by decide +kernel
theorem dMo_run_4 : decode cMo_run 4 = .ok (.invokevirtual 119, 3) := by decide +kernel
theorem dMo_run_7 : decode cMo_run 7 = .ok (.ifCond .ne 5, 3) := by decide +kernel
theorem dMo_run_10 : decode cMo_run 10 = .ok (.iconst (-1), 1) := by decide +kernel
theorem dMo_run_11 : decode cMo_run 11 = .ok (.ireturn, 1) := by decide +kernel
theorem dMo_run_12 : decode cMo_run 12 = .ok (.aload_n 0, 1) := by decide +kernel
theorem dMo_run_13 : decode cMo_run 13 = .ok (.iconst 0, 1) := by decide +kernel
theorem dMo_run_14 : decode cMo_run 14 = .ok (.putfield 123, 3) := by decide +kernel
theorem dMo_run_17 : decode cMo_run 17 = .ok (.iconst 1, 1) := by decide +kernel
theorem dMo_run_18 : decode cMo_run 18 = .ok (.istore 4, 2) := by decide +kernel
theorem dMo_run_20 : decode cMo_run 20 = .ok (.iload 4, 2) := by decide +kernel
theorem dMo_run_22 : decode cMo_run 22 = .ok (.aload_n 0, 1) := by decide +kernel
theorem dMo_run_23 : decode cMo_run 23 = .ok (.getfield 99, 3) := by decide +kernel
theorem dMo_run_26 : decode cMo_run 26 = .ok (.if_icmp .ge 28, 3) := by decide +kernel
theorem dMo_run_29 : decode cMo_run 29 = .ok (.aload_n 0, 1) := by decide +kernel
theorem dMo_run_30 : decode cMo_run 30 = .ok (.iload 4, 2) := by decide +kernel
theorem dMo_run_32 : decode cMo_run 32 = .ok (.invokevirtual 126, 3) := by decide +kernel
theorem dMo_run_35 : decode cMo_run 35 = .ok (.istore 5, 2) := by decide +kernel
theorem dMo_run_37 : decode cMo_run 37 = .ok (.aload_n 0, 1) := by decide +kernel
theorem dMo_run_38 : decode cMo_run 38 = .ok (.aload_n 0, 1) := by decide +kernel
theorem dMo_run_39 : decode cMo_run 39 = .ok (.getfield 123, 3) := by decide +kernel
theorem dMo_run_42 : decode cMo_run 42 = .ok (.iload 5, 2) := by decide +kernel
theorem dMo_run_44 : decode cMo_run 44 = .ok (.iadd, 1) := by decide +kernel
theorem dMo_run_45 : decode cMo_run 45 = .ok (.putfield 123, 3) := by decide +kernel
theorem dMo_run_48 : decode cMo_run 48 = .ok (.iinc 4 1, 3) := by decide +kernel
theorem dMo_run_51 : decode cMo_run 51 = .ok (.goto (-31), 3) := by decide +kernel
theorem dMo_run_54 : decode cMo_run 54 = .ok (.aload_n 0, 1) := by decide +kernel
theorem dMo_run_55 : decode cMo_run 55 = .ok (.aload_n 0, 1) := by decide +kernel
theorem dMo_run_56 : decode cMo_run 56 = .ok (.aload_n 0, 1) := by decide +kernel
theorem dMo_run_57 : decode cMo_run 57 = .ok (.getfield 99, 3) := by decide +kernel
theorem dMo_run_60 : decode cMo_run 60 = .ok (.invokevirtual 126, 3) := by decide +kernel
theorem dMo_run_63 : decode cMo_run 63 = .ok (.putfield 129, 3) := by decide +kernel
theorem dMo_run_66 : decode cMo_run 66 = .ok (.aload_n 0, 1) := by decide +kernel
theorem dMo_run_67 : decode cMo_run 67 = .ok (.aload_n 0, 1) := by decide +kernel
theorem dMo_run_68 : decode cMo_run 68 = .ok (.getfield 99, 3) := by decide +kernel
theorem dMo_run_71 : decode cMo_run 71 = .ok (.ifCond .le 15, 3) := by decide +kernel
theorem dMo_run_74 : decode cMo_run 74 = .ok (.aload_n 0, 1) := by decide +kernel
theorem dMo_run_75 : decode cMo_run 75 = .ok (.getfield 123, 3) := by decide +kernel
theorem dMo_run_78 : decode cMo_run 78 = .ok (.aload_n 0, 1) := by decide +kernel
theorem dMo_run_79 : decode cMo_run 79 = .ok (.getfield 129, 3) := by decide +kernel
theorem dMo_run_82 : decode cMo_run 82 = .ok (.iadd, 1) := by decide +kernel
theorem dMo_run_83 : decode cMo_run 83 = .ok (.goto 4, 3) := by decide +kernel
theorem dMo_run_86 : decode cMo_run 86 = .ok (.iconst 0, 1) := by decide +kernel
theorem dMo_run_87 : decode cMo_run 87 = .ok (.putfield 123, 3) := by decide +kernel
theorem dMo_run_90 : decode cMo_run 90 = .ok (.aload_n 0, 1) := by decide +kernel
theorem dMo_run_91 : decode cMo_run 91 = .ok (.getfield 129, 3) := by decide +kernel
theorem dMo_run_94 : decode cMo_run 94 = .ok (.ireturn, 1) := by decide +kernel
theorem dMo_answer_0 : decode cMo_answer 0 = .ok (.iload_n 1, 1) := by decide +kernel
theorem dMo_answer_1 : decode cMo_answer 1 = .ok (.ifCond .lt 30, 3) := by decide +kernel
theorem dMo_answer_4 : decode cMo_answer 4 = .ok (.iload_n 1, 1) := by decide +kernel
theorem dMo_answer_5 : decode cMo_answer 5 = .ok (.aload_n 0, 1) := by decide +kernel
theorem dMo_answer_6 : decode cMo_answer 6 = .ok (.getfield 129, 3) := by decide +kernel
theorem dMo_answer_9 : decode cMo_answer 9 = .ok (.if_icmp .ge 22, 3) := by decide +kernel
theorem dMo_answer_12 : decode cMo_answer 12 = .ok (.iload_n 1, 1) := by decide +kernel
theorem dMo_answer_13 : decode cMo_answer 13 = .ok (.sipush 200, 3) := by decide +kernel
theorem dMo_answer_16 : decode cMo_answer 16 = .ok (.if_icmp .ge 15, 3) := by decide +kernel
theorem dMo_answer_19 : decode cMo_answer 19 = .ok (.iload_n 2, 1) := by decide +kernel
theorem dMo_answer_20 : decode cMo_answer 20 = .ok (.bipush 32, 2) := by decide +kernel
theorem dMo_answer_22 : decode cMo_answer 22 = .ok (.if_icmp .lt 9, 3) := by decide +kernel
theorem dMo_answer_25 : decode cMo_answer 25 = .ok (.iload_n 2, 1) := by decide +kernel
theorem dMo_answer_26 : decode cMo_answer 26 = .ok (.bipush 34, 2) := by decide +kernel
theorem dMo_answer_28 : decode cMo_answer 28 = .ok (.if_icmp .le 7, 3) := by decide +kernel
theorem dMo_answer_31 : decode cMo_answer 31 = .ok (.iconst (-1), 1) := by decide +kernel
theorem dMo_answer_32 : decode cMo_answer 32 = .ok (.goto 16, 3) := by decide +kernel
theorem dMo_answer_35 : decode cMo_answer 35 = .ok (.aload_n 0, 1) := by decide +kernel
theorem dMo_answer_36 : decode cMo_answer 36 = .ok (.getfield 39, 3) := by decide +kernel
theorem dMo_answer_39 : decode cMo_answer 39 = .ok (.iconst 3, 1) := by decide +kernel
theorem dMo_answer_40 : decode cMo_answer 40 = .ok (.iload_n 1, 1) := by decide +kernel
theorem dMo_answer_41 : decode cMo_answer 41 = .ok (.imul, 1) := by decide +kernel
theorem dMo_answer_42 : decode cMo_answer 42 = .ok (.iload_n 2, 1) := by decide +kernel
theorem dMo_answer_43 : decode cMo_answer 43 = .ok (.iadd, 1) := by decide +kernel
theorem dMo_answer_44 : decode cMo_answer 44 = .ok (.bipush 32, 2) := by decide +kernel
theorem dMo_answer_46 : decode cMo_answer 46 = .ok (.isub, 1) := by decide +kernel
theorem dMo_answer_47 : decode cMo_answer 47 = .ok (.iaload, 1) := by decide +kernel
theorem dMo_answer_48 : decode cMo_answer 48 = .ok (.ireturn, 1) := by decide +kernel
theorem dMo_live_0 : decode cMo_live 0 = .ok (.aload_n 0, 1) := by decide +kernel
theorem dMo_live_1 : decode cMo_live 1 = .ok (.getfield 123, 3) := by decide +kernel
theorem dMo_live_4 : decode cMo_live 4 = .ok (.ireturn, 1) := by decide +kernel
