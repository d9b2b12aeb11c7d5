theorem dMo_init_0 : decode cMo_init 0 = .ok (.aload_n 0, 1) := by decide +kernel
theorem dMo_init_1 : decode cMo_init 1 = .ok (.invokespecial 1, 3) := by decide +kernel
theorem dMo_init_4 : decode cMo_init 4 = .ok (.aload_n 0, 1) := by decide +kernel
theorem dMo_init_5 : decode cMo_init 5 = .ok (.bipush 6, 2) := by decide +kernel
theorem dMo_init_7 : decode cMo_init 7 = .ok (.newarray .char, 2) := by decide +kernel
theorem dMo_init_9 : decode cMo_init 9 = .ok (.putfield 7, 3) := by decide +kernel
theorem dMo_init_12 : decode cMo_init 12 = .ok (.aload_n 0, 1) := by decide +kernel
theorem dMo_init_13 : decode cMo_init 13 = .ok (.bipush 24, 2) := by decide +kernel
theorem dMo_init_15 : decode cMo_init 15 = .ok (.newarray .int, 2) := by decide +kernel
theorem dMo_init_17 : decode cMo_init 17 = .ok (.putfield 13, 3) := by decide +kernel
theorem dMo_init_20 : decode cMo_init 20 = .ok (.aload_n 0, 1) := by decide +kernel
theorem dMo_init_21 : decode cMo_init 21 = .ok (.sipush 144, 3) := by decide +kernel
theorem dMo_init_24 : decode cMo_init 24 = .ok (.newarray .char, 2) := by decide +kernel
theorem dMo_init_26 : decode cMo_init 26 = .ok (.putfield 17, 3) := by decide +kernel
theorem dMo_init_29 : decode cMo_init 29 = .ok (.aload_n 0, 1) := by decide +kernel
theorem dMo_init_30 : decode cMo_init 30 = .ok (.bipush 60, 2) := by decide +kernel
theorem dMo_init_32 : decode cMo_init 32 = .ok (.newarray .int, 2) := by decide +kernel
theorem dMo_init_34 : decode cMo_init 34 = .ok (.putfield 20, 3) := by decide +kernel
theorem dMo_init_37 : decode cMo_init 37 = .ok (.aload_n 0, 1) := by decide +kernel
theorem dMo_init_38 : decode cMo_init 38 = .ok (.bipush 60, 2) := by decide +kernel
theorem dMo_init_40 : decode cMo_init 40 = .ok (.newarray .int, 2) := by decide +kernel
theorem dMo_init_42 : decode cMo_init 42 = .ok (.putfield 23, 3) := by decide +kernel
theorem dMo_init_45 : decode cMo_init 45 = .ok (.aload_n 0, 1) := by decide +kernel
theorem dMo_init_46 : decode cMo_init 46 = .ok (.bipush 12, 2) := by decide +kernel
theorem dMo_init_48 : decode cMo_init 48 = .ok (.newarray .int, 2) := by decide +kernel
theorem dMo_init_50 : decode cMo_init 50 = .ok (.putfield 26, 3) := by decide +kernel
theorem dMo_init_53 : decode cMo_init 53 = .ok (.aload_n 0, 1) := by decide +kernel
theorem dMo_init_54 : decode cMo_init 54 = .ok (.iconst 3, 1) := by decide +kernel
theorem dMo_init_55 : decode cMo_init 55 = .ok (.newarray .int, 2) := by decide +kernel
theorem dMo_init_57 : decode cMo_init 57 = .ok (.putfield 29, 3) := by decide +kernel
theorem dMo_init_60 : decode cMo_init 60 = .ok (.aload_n 0, 1) := by decide +kernel
theorem dMo_init_61 : decode cMo_init 61 = .ok (.iconst 3, 1) := by decide +kernel
theorem dMo_init_62 : decode cMo_init 62 = .ok (.newarray .int, 2) := by decide +kernel
theorem dMo_init_64 : decode cMo_init 64 = .ok (.putfield 32, 3) := by decide +kernel
theorem dMo_init_67 : decode cMo_init 67 = .ok (.aload_n 0, 1) := by decide +kernel
theorem dMo_init_68 : decode cMo_init 68 = .ok (.iconst 3, 1) := by decide +kernel
theorem dMo_init_69 : decode cMo_init 69 = .ok (.newarray .boolean, 2) := by decide +kernel
theorem dMo_init_71 : decode cMo_init 71 = .ok (.putfield 35, 3) := by decide +kernel
theorem dMo_init_74 : decode cMo_init 74 = .ok (.aload_n 0, 1) := by decide +kernel
theorem dMo_init_75 : decode cMo_init 75 = .ok (.sipush 600, 3) := by decide +kernel
theorem dMo_init_78 : decode cMo_init 78 = .ok (.newarray .int, 2) := by decide +kernel
theorem dMo_init_80 : decode cMo_init 80 = .ok (.putfield 39, 3) := by decide +kernel
theorem dMo_init_83 : decode cMo_init 83 = .ok (.return_, 1) := by decide +kernel
theorem dMo_letter_0 : decode cMo_letter 0 = .ok (.iload_n 1, 1) := by decide +kernel
theorem dMo_letter_1 : decode cMo_letter 1 = .ok (.bipush 33, 2) := by decide +kernel
theorem dMo_letter_3 : decode cMo_letter 3 = .ok (.if_icmp .lt 18, 3) := by decide +kernel
theorem dMo_letter_6 : decode cMo_letter 6 = .ok (.iload_n 1, 1) := by decide +kernel
theorem dMo_letter_7 : decode cMo_letter 7 = .ok (.bipush 126, 2) := by decide +kernel
theorem dMo_letter_9 : decode cMo_letter 9 = .ok (.if_icmp .gt 12, 3) := by decide +kernel
theorem dMo_letter_12 : decode cMo_letter 12 = .ok (.aload_n 0, 1) := by decide +kernel
theorem dMo_letter_13 : decode cMo_letter 13 = .ok (.getfield 42, 3) := by decide +kernel
theorem dMo_letter_16 : decode cMo_letter 16 = .ok (.bipush 6, 2) := by decide +kernel
theorem dMo_letter_18 : decode cMo_letter 18 = .ok (.if_icmp .ne 5, 3) := by decide +kernel
theorem dMo_letter_21 : decode cMo_letter 21 = .ok (.iconst 0, 1) := by decide +kernel
theorem dMo_letter_22 : decode cMo_letter 22 = .ok (.ireturn, 1) := by decide +kernel
theorem dMo_letter_23 : decode cMo_letter 23 = .ok (.aload_n 0, 1) := by decide +kernel
theorem dMo_letter_24 : decode cMo_letter 24 = .ok (.getfield 7, 3) := by decide +kernel
theorem dMo_letter_27 : decode cMo_letter 27 = .ok (.aload_n 0, 1) := by decide +kernel
theorem dMo_letter_28 : decode cMo_letter 28 = .ok (.getfield 42, 3) := by decide +kernel
theorem dMo_letter_31 : decode cMo_letter 31 = .ok (.iload_n 1, 1) := by decide +kernel
theorem dMo_letter_32 : decode cMo_letter 32 = .ok (.castore, 1) := by decide +kernel
theorem dMo_letter_33 : decode cMo_letter 33 = .ok (.aload_n 0, 1) := by decide +kernel
theorem dMo_letter_34 : decode cMo_letter 34 = .ok (.dup, 1) := by decide +kernel
theorem dMo_letter_35 : decode cMo_letter 35 = .ok (.getfield 42, 3) := by decide +kernel
theorem dMo_letter_38 : decode cMo_letter 38 = .ok (.iconst 1, 1) := by decide +kernel
theorem dMo_letter_39 : decode cMo_letter 39 = .ok (.iadd, 1) := by decide +kernel
theorem dMo_letter_40 : decode cMo_letter 40 = .ok (.putfield 42, 3) := by decide +kernel
theorem dMo_letter_43 : decode cMo_letter 43 = .ok (.iconst 1, 1) := by decide +kernel
theorem dMo_letter_44 : decode cMo_letter 44 = .ok (.ireturn, 1) := by decide +kernel
theorem dMo_isWord_0 : decode cMo_isWord 0 = .ok (.aload_n 0, 1) := by decide +kernel
theorem dMo_isWord_1 : decode cMo_isWord 1 = .ok (.getfield 13, 3) := by decide +kernel
theorem dMo_isWord_4 : decode cMo_isWord 4 = .ok (.iload_n 1, 1) := by decide +kernel
theorem dMo_isWord_5 : decode cMo_isWord 5 = .ok (.iaload, 1) := by decide +kernel
theorem dMo_isWord_6 : decode cMo_isWord 6 = .ok (.aload_n 0, 1) := by decide +kernel
theorem dMo_isWord_7 : decode cMo_isWord 7 = .ok (.getfield 42, 3) := by decide +kernel
theorem dMo_isWord_10 : decode cMo_isWord 10 = .ok (.if_icmp .ne 7, 3) := by decide +kernel
theorem dMo_isWord_13 : decode cMo_isWord 13 = .ok (.iconst 1, 1) := by decide +kernel
theorem dMo_isWord_14 : decode cMo_isWord 14 = .ok (.goto 4, 3) := by decide +kernel
theorem dMo_isWord_17 : decode cMo_isWord 17 = .ok (.iconst 0, 1) := by decide +kernel
theorem dMo_isWord_18 : decode cMo_isWord 18 = .ok (.istore_n 2, 1) := by decide +kernel
theorem dMo_isWord_19 : decode cMo_isWord 19 = .ok (.iconst 0, 1) := by decide +kernel
theorem dMo_isWord_20 : decode cMo_isWord 20 = .ok (.istore_n 3, 1) := by decide +kernel
theorem dMo_isWord_21 : decode cMo_isWord 21 = .ok (.iload_n 3, 1) := by decide +kernel
theorem dMo_isWord_22 : decode cMo_isWord 22 = .ok (.aload_n 0, 1) := by decide +kernel
theorem dMo_isWord_23 : decode cMo_isWord 23 = .ok (.getfield 42, 3) := by decide +kernel
theorem dMo_isWord_26 : decode cMo_isWord 26 = .ok (.if_icmp .ge 39, 3) := by decide +kernel
theorem dMo_isWord_29 : decode cMo_isWord 29 = .ok (.iload_n 2, 1) := by decide +kernel
theorem dMo_isWord_30 : decode cMo_isWord 30 = .ok (.ifCond .eq 35, 3) := by decide +kernel
theorem dMo_isWord_33 : decode cMo_isWord 33 = .ok (.aload_n 0, 1) := by decide +kernel
theorem dMo_isWord_34 : decode cMo_isWord 34 = .ok (.getfield 17, 3) := by decide +kernel
theorem dMo_isWord_37 : decode cMo_isWord 37 = .ok (.bipush 6, 2) := by decide +kernel
theorem dMo_isWord_39 : decode cMo_isWord 39 = .ok (.iload_n 1, 1) := by decide +kernel
theorem dMo_isWord_40 : decode cMo_isWord 40 = .ok (.imul, 1) := by decide +kernel
theorem dMo_isWord_41 : decode cMo_isWord 41 = .ok (.iload_n 3, 1) := by decide +kernel
theorem dMo_isWord_42 : decode cMo_isWord 42 = .ok (.iadd, 1) := by decide +kernel
theorem dMo_isWord_43 : decode cMo_isWord 43 = .ok (.caload, 1) := by decide +kernel
theorem dMo_isWord_44 : decode cMo_isWord 44 = .ok (.aload_n 0, 1) := by decide +kernel
theorem dMo_isWord_45 : decode cMo_isWord 45 = .ok (.getfield 7, 3) := by decide +kernel
theorem dMo_isWord_48 : decode cMo_isWord 48 = .ok (.iload_n 3, 1) := by decide +kernel
theorem dMo_isWord_49 : decode cMo_isWord 49 = .ok (.caload, 1) := by decide +kernel
theorem dMo_isWord_50 : decode cMo_isWord 50 = .ok (.if_icmp .ne 7, 3) := by decide +kernel
theorem dMo_isWord_53 : decode cMo_isWord 53 = .ok (.iconst 1, 1) := by decide +kernel
theorem dMo_isWord_54 : decode cMo_isWord 54 = .ok (.goto 4, 3) := by decide +kernel
theorem dMo_isWord_57 : decode cMo_isWord 57 = .ok (.iconst 0, 1) := by decide +kernel
theorem dMo_isWord_58 : decode cMo_isWord 58 = .ok (.istore_n 2, 1) := by decide +kernel
theorem dMo_isWord_59 : decode cMo_isWord 59 = .ok (.iinc 3 1, 3) := by decide +kernel
theorem dMo_isWord_62 : decode cMo_isWord 62 = .ok (.goto (-41), 3) := by decide +kernel
theorem dMo_isWord_65 : decode cMo_isWord 65 = .ok (.iload_n 2, 1) := by decide +kernel
theorem dMo_isWord_66 : decode cMo_isWord 66 = .ok (.ireturn, 1) := by decide +kernel
theorem dMo_intern_0 : decode cMo_intern 0 = .ok (.aload_n 0, 1) := by decide +kernel
theorem dMo_intern_1 : decode cMo_intern 1 = .ok (.getfield 42, 3) := by decide +kernel
theorem dMo_intern_4 : decode cMo_intern 4 = .ok (.ifCond .ne 5, 3) := by decide +kernel
theorem dMo_intern_7 : decode cMo_intern 7 = .ok (.iconst (-1), 1) := by decide +kernel
theorem dMo_intern_8 : decode cMo_intern 8 = .ok (.ireturn, 1) := by decide +kernel
theorem dMo_intern_9 : decode cMo_intern 9 = .ok (.iconst 0, 1) := by decide +kernel
theorem dMo_intern_10 : decode cMo_intern 10 = .ok (.istore_n 1, 1) := by decide +kernel
theorem dMo_intern_11 : decode cMo_intern 11 = .ok (.iload_n 1, 1) := by decide +kernel
theorem dMo_intern_12 : decode cMo_intern 12 = .ok (.aload_n 0, 1) := by decide +kernel
theorem dMo_intern_13 : decode cMo_intern 13 = .ok (.getfield 46, 3) := by decide +kernel
theorem dMo_intern_16 : decode cMo_intern 16 = .ok (.if_icmp .ge 24, 3) := by decide +kernel
theorem dMo_intern_19 : decode cMo_intern 19 = .ok (.aload_n 0, 1) := by decide +kernel
theorem dMo_intern_20 : decode cMo_intern 20 = .ok (.iload_n 1, 1) := by decide +kernel
theorem dMo_intern_21 : decode cMo_intern 21 = .ok (.invokevirtual 49, 3) := by decide +kernel
theorem dMo_intern_24 : decode cMo_intern 24 = .ok (.ifCond .eq 10, 3) := by decide +kernel
theorem dMo_intern_27 : decode cMo_intern 27 = .ok (.aload_n 0, 1) := by decide +kernel
theorem dMo_intern_28 : decode cMo_intern 28 = .ok (.iconst 0, 1) := by decide +kernel
theorem dMo_intern_29 : decode cMo_intern 29 = .ok (.putfield 42, 3) := by decide +kernel
theorem dMo_intern_32 : decode cMo_intern 32 = .ok (.iload_n 1, 1) := by decide +kernel
theorem dMo_intern_33 : decode cMo_intern 33 = .ok (.ireturn, 1) := by decide +kernel
theorem dMo_intern_34 : decode cMo_intern 34 = .ok (.iinc 1 1, 3) := by decide +kernel
theorem dMo_intern_37 : decode cMo_intern 37 = .ok (.goto (-26), 3) := by decide +kernel
theorem dMo_intern_40 : decode cMo_intern 40 = .ok (.aload_n 0, 1) := by decide +kernel
theorem dMo_intern_41 : decode cMo_intern 41 = .ok (.getfield 46, 3) := by decide +kernel
theorem dMo_intern_44 : decode cMo_intern 44 = .ok (.bipush 24, 2) := by decide +kernel
theorem dMo_intern_46 : decode cMo_intern 46 = .ok (.if_icmp .ne 6, 3) := by decide +kernel
theorem dMo_intern_49 : decode cMo_intern 49 = .ok (.bipush (-2), 2) := by decide +kernel
theorem dMo_intern_51 : decode cMo_intern 51 = .ok (.ireturn, 1) := by decide +kernel
theorem dMo_intern_52 : decode cMo_intern 52 = .ok (.iconst 0, 1) := by decide +kernel
theorem dMo_intern_53 : decode cMo_intern 53 = .ok (.istore_n 1, 1) := by decide +kernel
theorem dMo_intern_54 : decode cMo_intern 54 = .ok (.iload_n 1, 1) := by decide +kernel
theorem dMo_intern_55 : decode cMo_intern 55 = .ok (.aload_n 0, 1) := by decide +kernel
theorem dMo_intern_56 : decode cMo_intern 56 = .ok (.getfield 42, 3) := by decide +kernel
theorem dMo_intern_59 : decode cMo_intern 59 = .ok (.if_icmp .ge 29, 3) := by decide +kernel
theorem dMo_intern_62 : decode cMo_intern 62 = .ok (.aload_n 0, 1) := by decide +kernel
theorem dMo_intern_63 : decode cMo_intern 63 = .ok (.getfield 17, 3) := by decide +kernel
theorem dMo_intern_66 : decode cMo_intern 66 = .ok (.bipush 6, 2) := by decide +kernel
theorem dMo_intern_68 : decode cMo_intern 68 = .ok (.aload_n 0, 1) := by decide +kernel
theorem dMo_intern_69 : decode cMo_intern 69 = .ok (.getfield 46, 3) := by decide +kernel
theorem dMo_intern_72 : decode cMo_intern 72 = .ok (.imul, 1) := by decide +kernel
theorem dMo_intern_73 : decode cMo_intern 73 = .ok (.iload_n 1, 1) := by decide +kernel
theorem dMo_intern_74 : decode cMo_intern 74 = .ok (.iadd, 1) := by decide +kernel
theorem dMo_intern_75 : decode cMo_intern 75 = .ok (.aload_n 0, 1) := by decide +kernel
theorem dMo_intern_76 : decode cMo_intern 76 = .ok (.getfield 7, 3) := by decide +kernel
theorem dMo_intern_79 : decode cMo_intern 79 = .ok (.iload_n 1, 1) := by decide +kernel
theorem dMo_intern_80 : decode cMo_intern 80 = .ok (.caload, 1) := by decide +kernel
theorem dMo_intern_81 : decode cMo_intern 81 = .ok (.castore, 1) := by decide +kernel
theorem dMo_intern_82 : decode cMo_intern 82 = .ok (.iinc 1 1, 3) := by decide +kernel
theorem dMo_intern_85 : decode cMo_intern 85 = .ok (.goto (-31), 3) := by decide +kernel
theorem dMo_intern_88 : decode cMo_intern 88 = .ok (.aload_n 0, 1) := by decide +kernel
theorem dMo_intern_89 : decode cMo_intern 89 = .ok (.getfield 13, 3) := by decide +kernel
theorem dMo_intern_92 : decode cMo_intern 92 = .ok (.aload_n 0, 1) := by decide +kernel
theorem dMo_intern_93 : decode cMo_intern 93 = .ok (.getfield 46, 3) := by decide +kernel
theorem dMo_intern_96 : decode cMo_intern 96 = .ok (.aload_n 0, 1) := by decide +kernel
theorem dMo_intern_97 : decode cMo_intern 97 = .ok (.getfield 42, 3) := by decide +kernel
theorem dMo_intern_100 : decode cMo_intern 100 = .ok (.iastore, 1) := by decide +kernel
theorem dMo_intern_101 : decode cMo_intern 101 = .ok (.aload_n 0, 1) := by decide +kernel
theorem dMo_intern_102 : decode cMo_intern 102 = .ok (.iconst 0, 1) := by decide +kernel
theorem dMo_intern_103 : decode cMo_intern 103 = .ok (.putfield 42, 3) := by decide +kernel
theorem dMo_intern_106 : decode cMo_intern 106 = .ok (.aload_n 0, 1) := by decide +kernel
theorem dMo_intern_107 : decode cMo_intern 107 = .ok (.dup, 1) := by decide +kernel
theorem dMo_intern_108 : decode cMo_intern 108 = .ok (.getfield 46, 3) := by decide +kernel
theorem dMo_intern_111 : decode cMo_intern 111 = .ok (.iconst 1, 1) := by decide +kernel
theorem dMo_intern_112 : decode cMo_intern 112 = .ok (.iadd, 1) := by decide +kernel
theorem dMo_intern_113 : decode cMo_intern 113 = .ok (.putfield 46, 3) := by decide +kernel
theorem dMo_intern_116 : decode cMo_intern 116 = .ok (.aload_n 0, 1) := by decide +kernel
theorem dMo_intern_117 : decode cMo_intern 117 = .ok (.getfield 46, 3) := by decide +kernel
theorem dMo_intern_120 : decode cMo_intern 120 = .ok (.iconst 1, 1) := by decide +kernel
theorem dMo_intern_121 : decode cMo_intern 121 = .ok (.isub, 1) := by decide +kernel
theorem dMo_intern_122 : decode cMo_intern 122 = .ok (.ireturn, 1) := by decide +kernel
theorem dMo_words_0 : decode cMo_words 0 = .ok (.aload_n 0, 1) := by decide +kernel
theorem dMo_words_1 : decode cMo_words 1 = .ok (.getfield 46, 3) := by decide +kernel
theorem dMo_words_4 : decode cMo_words 4 = .ok (.ireturn, 1) := by decide +kernel
theorem dMo_spell_0 : decode cMo_spell 0 = .ok (.iload_n 1, 1) := by decide +kernel
theorem dMo_spell_1 : decode cMo_spell 1 = .ok (.ifCond .lt 25, 3) := by decide +kernel
theorem dMo_spell_4 : decode cMo_spell 4 = .ok (.iload_n 1, 1) := by decide +kernel
theorem dMo_spell_5 : decode cMo_spell 5 = .ok (.aload_n 0, 1) := by decide +kernel
theorem dMo_spell_6 : decode cMo_spell 6 = .ok (.getfield 46, 3) := by decide +kernel
theorem dMo_spell_9 : decode cMo_spell 9 = .ok (.if_icmp .ge 17, 3) := by decide +kernel
theorem dMo_spell_12 : decode cMo_spell 12 = .ok (.iload_n 2, 1) := by decide +kernel
theorem dMo_spell_13 : decode cMo_spell 13 = .ok (.ifCond .lt 13, 3) := by decide +kernel
theorem dMo_spell_16 : decode cMo_spell 16 = .ok (.iload_n 2, 1) := by decide +kernel
theorem dMo_spell_17 : decode cMo_spell 17 = .ok (.aload_n 0, 1) := by decide +kernel
theorem dMo_spell_18 : decode cMo_spell 18 = .ok (.getfield 13, 3) := by decide +kernel
theorem dMo_spell_21 : decode cMo_spell 21 = .ok (.iload_n 1, 1) := by decide +kernel
theorem dMo_spell_22 : decode cMo_spell 22 = .ok (.iaload, 1) := by decide +kernel
theorem dMo_spell_23 : decode cMo_spell 23 = .ok (.if_icmp .lt 7, 3) := by decide +kernel
theorem dMo_spell_26 : decode cMo_spell 26 = .ok (.iconst (-1), 1) := by decide +kernel
theorem dMo_spell_27 : decode cMo_spell 27 = .ok (.goto 14, 3) := by decide +kernel
theorem dMo_spell_30 : decode cMo_spell 30 = .ok (.aload_n 0, 1) := by decide +kernel
theorem dMo_spell_31 : decode cMo_spell 31 = .ok (.getfield 17, 3) := by decide +kernel
theorem dMo_spell_34 : decode cMo_spell 34 = .ok (.bipush 6, 2) := by decide +kernel
theorem dMo_spell_36 : decode cMo_spell 36 = .ok (.iload_n 1, 1) := by decide +kernel
theorem dMo_spell_37 : decode cMo_spell 37 = .ok (.imul, 1) := by decide +kernel
theorem dMo_spell_38 : decode cMo_spell 38 = .ok (.iload_n 2, 1) := by decide +kernel
theorem dMo_spell_39 : decode cMo_spell 39 = .ok (.iadd, 1) := by decide +kernel
theorem dMo_spell_40 : decode cMo_spell 40 = .ok (.caload, 1) := by decide +kernel
theorem dMo_spell_41 : decode cMo_spell 41 = .ok (.ireturn, 1) := by decide +kernel
theorem dMo_term_0 : decode cMo_term 0 = .ok (.iload_n 1, 1) := by decide +kernel
theorem dMo_term_1 : decode cMo_term 1 = .ok (.ifCond .lt 15, 3) := by decide +kernel
theorem dMo_term_4 : decode cMo_term 4 = .ok (.iload_n 1, 1) := by decide +kernel
theorem dMo_term_5 : decode cMo_term 5 = .ok (.aload_n 0, 1) := by decide +kernel
theorem dMo_term_6 : decode cMo_term 6 = .ok (.getfield 46, 3) := by decide +kernel
theorem dMo_term_9 : decode cMo_term 9 = .ok (.if_icmp .ge 7, 3) := by decide +kernel
theorem dMo_term_12 : decode cMo_term 12 = .ok (.iconst 1, 1) := by decide +kernel
theorem dMo_term_13 : decode cMo_term 13 = .ok (.goto 4, 3) := by decide +kernel
theorem dMo_term_16 : decode cMo_term 16 = .ok (.iconst 0, 1) := by decide +kernel
theorem dMo_term_17 : decode cMo_term 17 = .ok (.ireturn, 1) := by decide +kernel
theorem dMo_code_0 : decode cMo_code 0 = .ok (.iload_n 0, 1) := by decide +kernel
theorem dMo_code_1 : decode cMo_code 1 = .ok (.bipush 32, 2) := by decide +kernel
theorem dMo_code_3 : decode cMo_code 3 = .ok (.imul, 1) := by decide +kernel
theorem dMo_code_4 : decode cMo_code 4 = .ok (.iload_n 1, 1) := by decide +kernel
theorem dMo_code_5 : decode cMo_code 5 = .ok (.iadd, 1) := by decide +kernel
theorem dMo_code_6 : decode cMo_code 6 = .ok (.bipush 32, 2) := by decide +kernel
theorem dMo_code_8 : decode cMo_code 8 = .ok (.imul, 1) := by decide +kernel
theorem dMo_code_9 : decode cMo_code 9 = .ok (.iload_n 2, 1) := by decide +kernel
theorem dMo_code_10 : decode cMo_code 10 = .ok (.iadd, 1) := by decide +kernel
theorem dMo_code_11 : decode cMo_code 11 = .ok (.ireturn, 1) := by decide +kernel
theorem dMo_place_0 : decode cMo_place 0 = .ok (.iconst 0, 1) := by decide +kernel
theorem dMo_place_1 : decode cMo_place 1 = .ok (.istore_n 2, 1) := by decide +kernel
theorem dMo_place_2 : decode cMo_place 2 = .ok (.iload_n 2, 1) := by decide +kernel
theorem dMo_place_3 : decode cMo_place 3 = .ok (.aload_n 0, 1) := by decide +kernel
theorem dMo_place_4 : decode cMo_place 4 = .ok (.getfield 53, 3) := by decide +kernel
theorem dMo_place_7 : decode cMo_place 7 = .ok (.if_icmp .ge 21, 3) := by decide +kernel
theorem dMo_place_10 : decode cMo_place 10 = .ok (.aload_n 0, 1) := by decide +kernel
theorem dMo_place_11 : decode cMo_place 11 = .ok (.getfield 20, 3) := by decide +kernel
theorem dMo_place_14 : decode cMo_place 14 = .ok (.iload_n 2, 1) := by decide +kernel
theorem dMo_place_15 : decode cMo_place 15 = .ok (.iaload, 1) := by decide +kernel
theorem dMo_place_16 : decode cMo_place 16 = .ok (.iload_n 1, 1) := by decide +kernel
theorem dMo_place_17 : decode cMo_place 17 = .ok (.if_icmp .ne 5, 3) := by decide +kernel
theorem dMo_place_20 : decode cMo_place 20 = .ok (.iload_n 2, 1) := by decide +kernel
theorem dMo_place_21 : decode cMo_place 21 = .ok (.ireturn, 1) := by decide +kernel
theorem dMo_place_22 : decode cMo_place 22 = .ok (.iinc 2 1, 3) := by decide +kernel
theorem dMo_place_25 : decode cMo_place 25 = .ok (.goto (-23), 3) := by decide +kernel
theorem dMo_place_28 : decode cMo_place 28 = .ok (.iconst (-1), 1) := by decide +kernel
theorem dMo_place_29 : decode cMo_place 29 = .ok (.ireturn, 1) := by decide +kernel
theorem dMo_wasSettled_0 : decode cMo_wasSettled 0 = .ok (.iconst 0, 1) := by decide +kernel
theorem dMo_wasSettled_1 : decode cMo_wasSettled 1 = .ok (.istore_n 2, 1) := by decide +kernel
theorem dMo_wasSettled_2 : decode cMo_wasSettled 2 = .ok (.iconst 0, 1) := by decide +kernel
theorem dMo_wasSettled_3 : decode cMo_wasSettled 3 = .ok (.istore_n 3, 1) := by decide +kernel
theorem dMo_wasSettled_4 : decode cMo_wasSettled 4 = .ok (.iload_n 3, 1) := by decide +kernel
theorem dMo_wasSettled_5 : decode cMo_wasSettled 5 = .ok (.aload_n 0, 1) := by decide +kernel
theorem dMo_wasSettled_6 : decode cMo_wasSettled 6 = .ok (.getfield 56, 3) := by decide +kernel
theorem dMo_wasSettled_9 : decode cMo_wasSettled 9 = .ok (.if_icmp .ge 29, 3) := by decide +kernel
theorem dMo_wasSettled_12 : decode cMo_wasSettled 12 = .ok (.iload_n 2, 1) := by decide +kernel
theorem dMo_wasSettled_13 : decode cMo_wasSettled 13 = .ok (.ifCond .ne 13, 3) := by decide +kernel
theorem dMo_wasSettled_16 : decode cMo_wasSettled 16 = .ok (.aload_n 0, 1) := by decide +kernel
theorem dMo_wasSettled_17 : decode cMo_wasSettled 17 = .ok (.getfield 23, 3) := by decide +kernel
theorem dMo_wasSettled_20 : decode cMo_wasSettled 20 = .ok (.iload_n 3, 1) := by decide +kernel
theorem dMo_wasSettled_21 : decode cMo_wasSettled 21 = .ok (.iaload, 1) := by decide +kernel
theorem dMo_wasSettled_22 : decode cMo_wasSettled 22 = .ok (.iload_n 1, 1) := by decide +kernel
theorem dMo_wasSettled_23 : decode cMo_wasSettled 23 = .ok (.if_icmp .ne 7, 3) := by decide +kernel
theorem dMo_wasSettled_26 : decode cMo_wasSettled 26 = .ok (.iconst 1, 1) := by decide +kernel
theorem dMo_wasSettled_27 : decode cMo_wasSettled 27 = .ok (.goto 4, 3) := by decide +kernel
theorem dMo_wasSettled_30 : decode cMo_wasSettled 30 = .ok (.iconst 0, 1) := by decide +kernel
theorem dMo_wasSettled_31 : decode cMo_wasSettled 31 = .ok (.istore_n 2, 1) := by decide +kernel
theorem dMo_wasSettled_32 : decode cMo_wasSettled 32 = .ok (.iinc 3 1, 3) := by decide +kernel
theorem dMo_wasSettled_35 : decode cMo_wasSettled 35 = .ok (.goto (-31), 3) := by decide +kernel
theorem dMo_wasSettled_38 : decode cMo_wasSettled 38 = .ok (.iload_n 2, 1) := by decide +kernel
theorem dMo_wasSettled_39 : decode cMo_wasSettled 39 = .ok (.ireturn, 1) := by decide +kernel
theorem dMo_pending_0 : decode cMo_pending 0 = .ok (.iconst 0, 1) := by decide +kernel
theorem dMo_pending_1 : decode cMo_pending 1 = .ok (.istore_n 1, 1) := by decide +kernel
theorem dMo_pending_2 : decode cMo_pending 2 = .ok (.iconst 0, 1) := by decide +kernel
theorem dMo_pending_3 : decode cMo_pending 3 = .ok (.istore_n 2, 1) := by decide +kernel
theorem dMo_pending_4 : decode cMo_pending 4 = .ok (.iload_n 2, 1) := by decide +kernel
theorem dMo_pending_5 : decode cMo_pending 5 = .ok (.aload_n 0, 1) := by decide +kernel
theorem dMo_pending_6 : decode cMo_pending 6 = .ok (.getfield 53, 3) := by decide +kernel
theorem dMo_pending_9 : decode cMo_pending 9 = .ok (.if_icmp .ge 30, 3) := by decide +kernel
theorem dMo_pending_12 : decode cMo_pending 12 = .ok (.iload_n 1, 1) := by decide +kernel
theorem dMo_pending_13 : decode cMo_pending 13 = .ok (.aload_n 0, 1) := by decide +kernel
theorem dMo_pending_14 : decode cMo_pending 14 = .ok (.aload_n 0, 1) := by decide +kernel
theorem dMo_pending_15 : decode cMo_pending 15 = .ok (.getfield 20, 3) := by decide +kernel
theorem dMo_pending_18 : decode cMo_pending 18 = .ok (.iload_n 2, 1) := by decide +kernel
theorem dMo_pending_19 : decode cMo_pending 19 = .ok (.iaload, 1) := by decide +kernel
theorem dMo_pending_20 : decode cMo_pending 20 = .ok (.invokevirtual 59, 3) := by decide +kernel
theorem dMo_pending_23 : decode cMo_pending 23 = .ok (.ifCond .eq 7, 3) := by decide +kernel
theorem dMo_pending_26 : decode cMo_pending 26 = .ok (.iconst 0, 1) := by decide +kernel
theorem dMo_pending_27 : decode cMo_pending 27 = .ok (.goto 4, 3) := by decide +kernel
theorem dMo_pending_30 : decode cMo_pending 30 = .ok (.iconst 1, 1) := by decide +kernel
theorem dMo_pending_31 : decode cMo_pending 31 = .ok (.iadd, 1) := by decide +kernel
theorem dMo_pending_32 : decode cMo_pending 32 = .ok (.istore_n 1, 1) := by decide +kernel
theorem dMo_pending_33 : decode cMo_pending 33 = .ok (.iinc 2 1, 3) := by decide +kernel
theorem dMo_pending_36 : decode cMo_pending 36 = .ok (.goto (-32), 3) := by decide +kernel
theorem dMo_pending_39 : decode cMo_pending 39 = .ok (.iconst 0, 1) := by decide +kernel
theorem dMo_pending_40 : decode cMo_pending 40 = .ok (.istore_n 2, 1) := by decide +kernel
theorem dMo_pending_41 : decode cMo_pending 41 = .ok (.iload_n 2, 1) := by decide +kernel
theorem dMo_pending_42 : decode cMo_pending 42 = .ok (.aload_n 0, 1) := by decide +kernel
theorem dMo_pending_43 : decode cMo_pending 43 = .ok (.getfield 56, 3) := by decide +kernel
theorem dMo_pending_46 : decode cMo_pending 46 = .ok (.if_icmp .ge 30, 3) := by decide +kernel
theorem dMo_pending_49 : decode cMo_pending 49 = .ok (.iload_n 1, 1) := by decide +kernel
theorem dMo_pending_50 : decode cMo_pending 50 = .ok (.aload_n 0, 1) := by decide +kernel
theorem dMo_pending_51 : decode cMo_pending 51 = .ok (.aload_n 0, 1) := by decide +kernel
theorem dMo_pending_52 : decode cMo_pending 52 = .ok (.getfield 23, 3) := by decide +kernel
theorem dMo_pending_55 : decode cMo_pending 55 = .ok (.iload_n 2, 1) := by decide +kernel
theorem dMo_pending_56 : decode cMo_pending 56 = .ok (.iaload, 1) := by decide +kernel
theorem dMo_pending_57 : decode cMo_pending 57 = .ok (.invokevirtual 62, 3) := by decide +kernel
theorem dMo_pending_60 : decode cMo_pending 60 = .ok (.ifCond .ge 7, 3) := by decide +kernel
theorem dMo_pending_63 : decode cMo_pending 63 = .ok (.iconst 1, 1) := by decide +kernel
theorem dMo_pending_64 : decode cMo_pending 64 = .ok (.goto 4, 3) := by decide +kernel
theorem dMo_pending_67 : decode cMo_pending 67 = .ok (.iconst 0, 1) := by decide +kernel
theorem dMo_pending_68 : decode cMo_pending 68 = .ok (.iadd, 1) := by decide +kernel
theorem dMo_pending_69 : decode cMo_pending 69 = .ok (.istore_n 1, 1) := by decide +kernel
theorem dMo_pending_70 : decode cMo_pending 70 = .ok (.iinc 2 1, 3) := by decide +kernel
theorem dMo_pending_73 : decode cMo_pending 73 = .ok (.goto (-32), 3) := by decide +kernel
theorem dMo_pending_76 : decode cMo_pending 76 = .ok (.iload_n 1, 1) := by decide +kernel
theorem dMo_pending_77 : decode cMo_pending 77 = .ok (.ireturn, 1) := by decide +kernel
theorem dMo_merge_0 : decode cMo_merge 0 = .ok (.aload_n 0, 1) := by decide +kernel
theorem dMo_merge_1 : decode cMo_merge 1 = .ok (.invokevirtual 66, 3) := by decide +kernel
theorem dMo_merge_4 : decode cMo_merge 4 = .ok (.istore_n 1, 1) := by decide +kernel
theorem dMo_merge_5 : decode cMo_merge 5 = .ok (.iconst 0, 1) := by decide +kernel
theorem dMo_merge_6 : decode cMo_merge 6 = .ok (.istore_n 2, 1) := by decide +kernel
theorem dMo_merge_7 : decode cMo_merge 7 = .ok (.iload_n 2, 1) := by decide +kernel
theorem dMo_merge_8 : decode cMo_merge 8 = .ok (.aload_n 0, 1) := by decide +kernel
theorem dMo_merge_9 : decode cMo_merge 9 = .ok (.getfield 53, 3) := by decide +kernel
theorem dMo_merge_12 : decode cMo_merge 12 = .ok (.if_icmp .ge 21, 3) := by decide +kernel
theorem dMo_merge_15 : decode cMo_merge 15 = .ok (.aload_n 0, 1) := by decide +kernel
theorem dMo_merge_16 : decode cMo_merge 16 = .ok (.getfield 23, 3) := by decide +kernel
theorem dMo_merge_19 : decode cMo_merge 19 = .ok (.iload_n 2, 1) := by decide +kernel
theorem dMo_merge_20 : decode cMo_merge 20 = .ok (.aload_n 0, 1) := by decide +kernel
theorem dMo_merge_21 : decode cMo_merge 21 = .ok (.getfield 20, 3) := by decide +kernel
theorem dMo_merge_24 : decode cMo_merge 24 = .ok (.iload_n 2, 1) := by decide +kernel
theorem dMo_merge_25 : decode cMo_merge 25 = .ok (.iaload, 1) := by decide +kernel
theorem dMo_merge_26 : decode cMo_merge 26 = .ok (.iastore, 1) := by decide +kernel
theorem dMo_merge_27 : decode cMo_merge 27 = .ok (.iinc 2 1, 3) := by decide +kernel
theorem dMo_merge_30 : decode cMo_merge 30 = .ok (.goto (-23), 3) := by decide +kernel
theorem dMo_merge_33 : decode cMo_merge 33 = .ok (.aload_n 0, 1) := by decide +kernel
theorem dMo_merge_34 : decode cMo_merge 34 = .ok (.aload_n 0, 1) := by decide +kernel
theorem dMo_merge_35 : decode cMo_merge 35 = .ok (.getfield 53, 3) := by decide +kernel
theorem dMo_merge_38 : decode cMo_merge 38 = .ok (.putfield 56, 3) := by decide +kernel
theorem dMo_merge_41 : decode cMo_merge 41 = .ok (.aload_n 0, 1) := by decide +kernel
theorem dMo_merge_42 : decode cMo_merge 42 = .ok (.dup, 1) := by decide +kernel
theorem dMo_merge_43 : decode cMo_merge 43 = .ok (.getfield 70, 3) := by decide +kernel
theorem dMo_merge_46 : decode cMo_merge 46 = .ok (.iconst 1, 1) := by decide +kernel
theorem dMo_merge_47 : decode cMo_merge 47 = .ok (.iadd, 1) := by decide +kernel
theorem dMo_merge_48 : decode cMo_merge 48 = .ok (.putfield 70, 3) := by decide +kernel
theorem dMo_merge_51 : decode cMo_merge 51 = .ok (.iload_n 1, 1) := by decide +kernel
theorem dMo_merge_52 : decode cMo_merge 52 = .ok (.ireturn, 1) := by decide +kernel
theorem dMo_ready_0 : decode cMo_ready 0 = .ok (.aload_n 0, 1) := by decide +kernel
theorem dMo_ready_1 : decode cMo_ready 1 = .ok (.invokevirtual 66, 3) := by decide +kernel
theorem dMo_ready_4 : decode cMo_ready 4 = .ok (.bipush 12, 2) := by decide +kernel
theorem dMo_ready_6 : decode cMo_ready 6 = .ok (.if_icmp .ne 8, 3) := by decide +kernel
theorem dMo_ready_9 : decode cMo_ready 9 = .ok (.aload_n 0, 1) := by decide +kernel
theorem dMo_ready_10 : decode cMo_ready 10 = .ok (.invokevirtual 73, 3) := by decide +kernel
theorem dMo_ready_13 : decode cMo_ready 13 = .ok (.pop, 1) := by decide +kernel
theorem dMo_ready_14 : decode cMo_ready 14 = .ok (.return_, 1) := by decide +kernel
theorem dMo_insert_0 : decode cMo_insert 0 = .ok (.aload_n 0, 1) := by decide +kernel
theorem dMo_insert_1 : decode cMo_insert 1 = .ok (.iload_n 1, 1) := by decide +kernel
theorem dMo_insert_2 : decode cMo_insert 2 = .ok (.invokevirtual 76, 3) := by decide +kernel
theorem dMo_insert_5 : decode cMo_insert 5 = .ok (.ifCond .eq 19, 3) := by decide +kernel
theorem dMo_insert_8 : decode cMo_insert 8 = .ok (.aload_n 0, 1) := by decide +kernel
theorem dMo_insert_9 : decode cMo_insert 9 = .ok (.iload_n 2, 1) := by decide +kernel
theorem dMo_insert_10 : decode cMo_insert 10 = .ok (.invokevirtual 76, 3) := by decide +kernel
theorem dMo_insert_13 : decode cMo_insert 13 = .ok (.ifCond .eq 11, 3) := by decide +kernel
theorem dMo_insert_16 : decode cMo_insert 16 = .ok (.aload_n 0, 1) := by decide +kernel
theorem dMo_insert_17 : decode cMo_insert 17 = .ok (.iload_n 3, 1) := by decide +kernel
theorem dMo_insert_18 : decode cMo_insert 18 = .ok (.invokevirtual 76, 3) := by decide +kernel
theorem dMo_insert_21 : decode cMo_insert 21 = .ok (.ifCond .ne 5, 3) := by decide +kernel
theorem dMo_insert_24 : decode cMo_insert 24 = .ok (.iconst (-1), 1) := by decide +kernel
theorem dMo_insert_25 : decode cMo_insert 25 = .ok (.ireturn, 1) := by decide +kernel
theorem dMo_insert_26 : decode cMo_insert 26 = .ok (.iload_n 1, 1) := by decide +kernel
theorem dMo_insert_27 : decode cMo_insert 27 = .ok (.iload_n 2, 1) := by decide +kernel
theorem dMo_insert_28 : decode cMo_insert 28 = .ok (.iload_n 3, 1) := by decide +kernel
theorem dMo_insert_29 : decode cMo_insert 29 = .ok (.invokestatic 79, 3) := by decide +kernel
theorem dMo_insert_32 : decode cMo_insert 32 = .ok (.istore 4, 2) := by decide +kernel
theorem dMo_insert_34 : decode cMo_insert 34 = .ok (.aload_n 0, 1) := by decide +kernel
theorem dMo_insert_35 : decode cMo_insert 35 = .ok (.iload 4, 2) := by decide +kernel
theorem dMo_insert_37 : decode cMo_insert 37 = .ok (.invokevirtual 62, 3) := by decide +kernel
theorem dMo_insert_40 : decode cMo_insert 40 = .ok (.ifCond .lt 5, 3) := by decide +kernel
theorem dMo_insert_43 : decode cMo_insert 43 = .ok (.iconst 0, 1) := by decide +kernel
theorem dMo_insert_44 : decode cMo_insert 44 = .ok (.ireturn, 1) := by decide +kernel
theorem dMo_insert_45 : decode cMo_insert 45 = .ok (.aload_n 0, 1) := by decide +kernel
theorem dMo_insert_46 : decode cMo_insert 46 = .ok (.getfield 53, 3) := by decide +kernel
theorem dMo_insert_49 : decode cMo_insert 49 = .ok (.bipush 60, 2) := by decide +kernel
theorem dMo_insert_51 : decode cMo_insert 51 = .ok (.if_icmp .ne 6, 3) := by decide +kernel
theorem dMo_insert_54 : decode cMo_insert 54 = .ok (.bipush (-2), 2) := by decide +kernel
theorem dMo_insert_56 : decode cMo_insert 56 = .ok (.ireturn, 1) := by decide +kernel
theorem dMo_insert_57 : decode cMo_insert 57 = .ok (.aload_n 0, 1) := by decide +kernel
theorem dMo_insert_58 : decode cMo_insert 58 = .ok (.invokevirtual 83, 3) := by decide +kernel
theorem dMo_insert_61 : decode cMo_insert 61 = .ok (.aload_n 0, 1) := by decide +kernel
theorem dMo_insert_62 : decode cMo_insert 62 = .ok (.getfield 20, 3) := by decide +kernel
theorem dMo_insert_65 : decode cMo_insert 65 = .ok (.aload_n 0, 1) := by decide +kernel
theorem dMo_insert_66 : decode cMo_insert 66 = .ok (.getfield 53, 3) := by decide +kernel
theorem dMo_insert_69 : decode cMo_insert 69 = .ok (.iload 4, 2) := by decide +kernel
theorem dMo_insert_71 : decode cMo_insert 71 = .ok (.iastore, 1) := by decide +kernel
theorem dMo_insert_72 : decode cMo_insert 72 = .ok (.aload_n 0, 1) := by decide +kernel
theorem dMo_insert_73 : decode cMo_insert 73 = .ok (.dup, 1) := by decide +kernel
theorem dMo_insert_74 : decode cMo_insert 74 = .ok (.getfield 53, 3) := by decide +kernel
theorem dMo_insert_77 : decode cMo_insert 77 = .ok (.iconst 1, 1) := by decide +kernel
theorem dMo_insert_78 : decode cMo_insert 78 = .ok (.iadd, 1) := by decide +kernel
theorem dMo_insert_79 : decode cMo_insert 79 = .ok (.putfield 53, 3) := by decide +kernel
theorem dMo_insert_82 : decode cMo_insert 82 = .ok (.iconst 1, 1) := by decide +kernel
theorem dMo_insert_83 : decode cMo_insert 83 = .ok (.ireturn, 1) := by decide +kernel
theorem dMo_remove_0 : decode cMo_remove 0 = .ok (.aload_n 0, 1) := by decide +kernel
theorem dMo_remove_1 : decode cMo_remove 1 = .ok (.iload_n 1, 1) := by decide +kernel
theorem dMo_remove_2 : decode cMo_remove 2 = .ok (.invokevirtual 76, 3) := by decide +kernel
theorem dMo_remove_5 : decode cMo_remove 5 = .ok (.ifCond .eq 19, 3) := by decide +kernel
theorem dMo_remove_8 : decode cMo_remove 8 = .ok (.aload_n 0, 1) := by decide +kernel
theorem dMo_remove_9 : decode cMo_remove 9 = .ok (.iload_n 2, 1) := by decide +kernel
theorem dMo_remove_10 : decode cMo_remove 10 = .ok (.invokevirtual 76, 3) := by decide +kernel
theorem dMo_remove_13 : decode cMo_remove 13 = .ok (.ifCond .eq 11, 3) := by decide +kernel
theorem dMo_remove_16 : decode cMo_remove 16 = .ok (.aload_n 0, 1) := by decide +kernel
theorem dMo_remove_17 : decode cMo_remove 17 = .ok (.iload_n 3, 1) := by decide +kernel
theorem dMo_remove_18 : decode cMo_remove 18 = .ok (.invokevirtual 76, 3) := by decide +kernel
theorem dMo_remove_21 : decode cMo_remove 21 = .ok (.ifCond .ne 5, 3) := by decide +kernel
theorem dMo_remove_24 : decode cMo_remove 24 = .ok (.iconst (-1), 1) := by decide +kernel
theorem dMo_remove_25 : decode cMo_remove 25 = .ok (.ireturn, 1) := by decide +kernel
theorem dMo_remove_26 : decode cMo_remove 26 = .ok (.aload_n 0, 1) := by decide +kernel
theorem dMo_remove_27 : decode cMo_remove 27 = .ok (.iload_n 1, 1) := by decide +kernel
theorem dMo_remove_28 : decode cMo_remove 28 = .ok (.iload_n 2, 1) := by decide +kernel
theorem dMo_remove_29 : decode cMo_remove 29 = .ok (.iload_n 3, 1) := by decide +kernel
theorem dMo_remove_30 : decode cMo_remove 30 = .ok (.invokestatic 79, 3) := by decide +kernel
theorem dMo_remove_33 : decode cMo_remove 33 = .ok (.invokevirtual 62, 3) := by decide +kernel
theorem dMo_remove_36 : decode cMo_remove 36 = .ok (.istore 4, 2) := by decide +kernel
theorem dMo_remove_38 : decode cMo_remove 38 = .ok (.iload 4, 2) := by decide +kernel
theorem dMo_remove_40 : decode cMo_remove 40 = .ok (.ifCond .ge 5, 3) := by decide +kernel
theorem dMo_remove_43 : decode cMo_remove 43 = .ok (.iconst 0, 1) := by decide +kernel
theorem dMo_remove_44 : decode cMo_remove 44 = .ok (.ireturn, 1) := by decide +kernel
theorem dMo_remove_45 : decode cMo_remove 45 = .ok (.aload_n 0, 1) := by decide +kernel
theorem dMo_remove_46 : decode cMo_remove 46 = .ok (.invokevirtual 83, 3) := by decide +kernel
theorem dMo_remove_49 : decode cMo_remove 49 = .ok (.aload_n 0, 1) := by decide +kernel
theorem dMo_remove_50 : decode cMo_remove 50 = .ok (.dup, 1) := by decide +kernel
theorem dMo_remove_51 : decode cMo_remove 51 = .ok (.getfield 53, 3) := by decide +kernel
theorem dMo_remove_54 : decode cMo_remove 54 = .ok (.iconst 1, 1) := by decide +kernel
theorem dMo_remove_55 : decode cMo_remove 55 = .ok (.isub, 1) := by decide +kernel
theorem dMo_remove_56 : decode cMo_remove 56 = .ok (.putfield 53, 3) := by decide +kernel
theorem dMo_remove_59 : decode cMo_remove 59 = .ok (.aload_n 0, 1) := by decide +kernel
theorem dMo_remove_60 : decode cMo_remove 60 = .ok (.getfield 20, 3) := by decide +kernel
theorem dMo_remove_63 : decode cMo_remove 63 = .ok (.iload 4, 2) := by decide +kernel
theorem dMo_remove_65 : decode cMo_remove 65 = .ok (.aload_n 0, 1) := by decide +kernel
theorem dMo_remove_66 : decode cMo_remove 66 = .ok (.getfield 20, 3) := by decide +kernel
theorem dMo_remove_69 : decode cMo_remove 69 = .ok (.aload_n 0, 1) := by decide +kernel
theorem dMo_remove_70 : decode cMo_remove 70 = .ok (.getfield 53, 3) := by decide +kernel
theorem dMo_remove_73 : decode cMo_remove 73 = .ok (.iaload, 1) := by decide +kernel
theorem dMo_remove_74 : decode cMo_remove 74 = .ok (.iastore, 1) := by decide +kernel
theorem dMo_remove_75 : decode cMo_remove 75 = .ok (.iconst 1, 1) := by decide +kernel
theorem dMo_remove_76 : decode cMo_remove 76 = .ok (.ireturn, 1) := by decide +kernel
theorem dMo_size_0 : decode cMo_size 0 = .ok (.aload_n 0, 1) := by decide +kernel
theorem dMo_size_1 : decode cMo_size 1 = .ok (.getfield 53, 3) := by decide +kernel
theorem dMo_size_4 : decode cMo_size 4 = .ok (.ireturn, 1) := by decide +kernel
theorem dMo_merges_0 : decode cMo_merges 0 = .ok (.aload_n 0, 1) := by decide +kernel
theorem dMo_merges_1 : decode cMo_merges 1 = .ok (.getfield 70, 3) := by decide +kernel
theorem dMo_merges_4 : decode cMo_merges 4 = .ok (.ireturn, 1) := by decide +kernel
theorem dMo_partOf_0 : decode cMo_partOf 0 = .ok (.iload_n 1, 1) := by decide +kernel
theorem dMo_partOf_1 : decode cMo_partOf 1 = .ok (.ifCond .ne 11, 3) := by decide +kernel
theorem dMo_partOf_4 : decode cMo_partOf 4 = .ok (.iload_n 0, 1) := by decide +kernel
theorem dMo_partOf_5 : decode cMo_partOf 5 = .ok (.sipush 1024, 3) := by decide +kernel
theorem dMo_partOf_8 : decode cMo_partOf 8 = .ok (.idiv, 1) := by decide +kernel
theorem dMo_partOf_9 : decode cMo_partOf 9 = .ok (.goto 22, 3) := by decide +kernel
theorem dMo_partOf_12 : decode cMo_partOf 12 = .ok (.iload_n 1, 1) := by decide +kernel
theorem dMo_partOf_13 : decode cMo_partOf 13 = .ok (.iconst 1, 1) := by decide +kernel
theorem dMo_partOf_14 : decode cMo_partOf 14 = .ok (.if_icmp .ne 13, 3) := by decide +kernel
theorem dMo_partOf_17 : decode cMo_partOf 17 = .ok (.iload_n 0, 1) := by decide +kernel
theorem dMo_partOf_18 : decode cMo_partOf 18 = .ok (.bipush 32, 2) := by decide +kernel
theorem dMo_partOf_20 : decode cMo_partOf 20 = .ok (.idiv, 1) := by decide +kernel
theorem dMo_partOf_21 : decode cMo_partOf 21 = .ok (.bipush 32, 2) := by decide +kernel
theorem dMo_partOf_23 : decode cMo_partOf 23 = .ok (.irem, 1) := by decide +kernel
theorem dMo_partOf_24 : decode cMo_partOf 24 = .ok (.goto 7, 3) := by decide +kernel
theorem dMo_partOf_27 : decode cMo_partOf 27 = .ok (.iload_n 0, 1) := by decide +kernel
theorem dMo_partOf_28 : decode cMo_partOf 28 = .ok (.bipush 32, 2) := by decide +kernel
theorem dMo_partOf_30 : decode cMo_partOf 30 = .ok (.irem, 1) := by decide +kernel
theorem dMo_partOf_31 : decode cMo_partOf 31 = .ok (.ireturn, 1) := by decide +kernel
theorem dMo_turned_0 : decode cMo_turned 0 = .ok (.iload_n 1, 1) := by decide +kernel
theorem dMo_turned_1 : decode cMo_turned 1 = .ok (.iconst 2, 1) := by decide +kernel
theorem dMo_turned_2 : decode cMo_turned 2 = .ok (.idiv, 1) := by decide +kernel
theorem dMo_turned_3 : decode cMo_turned 3 = .ok (.istore_n 2, 1) := by decide +kernel
theorem dMo_turned_4 : decode cMo_turned 4 = .ok (.iload_n 1, 1) := by decide +kernel
theorem dMo_turned_5 : decode cMo_turned 5 = .ok (.iconst 2, 1) := by decide +kernel
theorem dMo_turned_6 : decode cMo_turned 6 = .ok (.irem, 1) := by decide +kernel
theorem dMo_turned_7 : decode cMo_turned 7 = .ok (.ifCond .ne 15, 3) := by decide +kernel
theorem dMo_turned_10 : decode cMo_turned 10 = .ok (.iload_n 2, 1) := by decide +kernel
theorem dMo_turned_11 : decode cMo_turned 11 = .ok (.ifCond .ne 7, 3) := by decide +kernel
theorem dMo_turned_14 : decode cMo_turned 14 = .ok (.iconst 1, 1) := by decide +kernel
theorem dMo_turned_15 : decode cMo_turned 15 = .ok (.goto 17, 3) := by decide +kernel
theorem dMo_turned_18 : decode cMo_turned 18 = .ok (.iconst 0, 1) := by decide +kernel
theorem dMo_turned_19 : decode cMo_turned 19 = .ok (.goto 13, 3) := by decide +kernel
theorem dMo_turned_22 : decode cMo_turned 22 = .ok (.iload_n 2, 1) := by decide +kernel
theorem dMo_turned_23 : decode cMo_turned 23 = .ok (.iconst 2, 1) := by decide +kernel
theorem dMo_turned_24 : decode cMo_turned 24 = .ok (.if_icmp .ne 7, 3) := by decide +kernel
theorem dMo_turned_27 : decode cMo_turned 27 = .ok (.iconst 1, 1) := by decide +kernel
theorem dMo_turned_28 : decode cMo_turned 28 = .ok (.goto 4, 3) := by decide +kernel
theorem dMo_turned_31 : decode cMo_turned 31 = .ok (.iconst 2, 1) := by decide +kernel
theorem dMo_turned_32 : decode cMo_turned 32 = .ok (.istore_n 3, 1) := by decide +kernel
theorem dMo_turned_33 : decode cMo_turned 33 = .ok (.iload_n 0, 1) := by decide +kernel
theorem dMo_turned_34 : decode cMo_turned 34 = .ok (.iload_n 2, 1) := by decide +kernel
theorem dMo_turned_35 : decode cMo_turned 35 = .ok (.invokestatic 86, 3) := by decide +kernel
theorem dMo_turned_38 : decode cMo_turned 38 = .ok (.iload_n 0, 1) := by decide +kernel
theorem dMo_turned_39 : decode cMo_turned 39 = .ok (.iload_n 3, 1) := by decide +kernel
theorem dMo_turned_40 : decode cMo_turned 40 = .ok (.invokestatic 86, 3) := by decide +kernel
theorem dMo_turned_43 : decode cMo_turned 43 = .ok (.iload_n 0, 1) := by decide +kernel
theorem dMo_turned_44 : decode cMo_turned 44 = .ok (.iconst 3, 1) := by decide +kernel
theorem dMo_turned_45 : decode cMo_turned 45 = .ok (.iload_n 2, 1) := by decide +kernel
theorem dMo_turned_46 : decode cMo_turned 46 = .ok (.isub, 1) := by decide +kernel
theorem dMo_turned_47 : decode cMo_turned 47 = .ok (.iload_n 3, 1) := by decide +kernel
theorem dMo_turned_48 : decode cMo_turned 48 = .ok (.isub, 1) := by decide +kernel
theorem dMo_turned_49 : decode cMo_turned 49 = .ok (.invokestatic 86, 3) := by decide +kernel
theorem dMo_turned_52 : decode cMo_turned 52 = .ok (.invokestatic 79, 3) := by decide +kernel
theorem dMo_turned_55 : decode cMo_turned 55 = .ok (.ireturn, 1) := by decide +kernel
theorem dMo_triple_0 : decode cMo_triple 0 = .ok (.iload_n 1, 1) := by decide +kernel
theorem dMo_triple_1 : decode cMo_triple 1 = .ok (.ifCond .lt 20, 3) := by decide +kernel
theorem dMo_triple_4 : decode cMo_triple 4 = .ok (.iload_n 1, 1) := by decide +kernel
theorem dMo_triple_5 : decode cMo_triple 5 = .ok (.iconst 5, 1) := by decide +kernel
theorem dMo_triple_6 : decode cMo_triple 6 = .ok (.if_icmp .gt 15, 3) := by decide +kernel
theorem dMo_triple_9 : decode cMo_triple 9 = .ok (.iload_n 2, 1) := by decide +kernel
theorem dMo_triple_10 : decode cMo_triple 10 = .ok (.ifCond .lt 11, 3) := by decide +kernel
theorem dMo_triple_13 : decode cMo_triple 13 = .ok (.iload_n 2, 1) := by decide +kernel
theorem dMo_triple_14 : decode cMo_triple 14 = .ok (.aload_n 0, 1) := by decide +kernel
theorem dMo_triple_15 : decode cMo_triple 15 = .ok (.getfield 53, 3) := by decide +kernel
theorem dMo_triple_18 : decode cMo_triple 18 = .ok (.if_icmp .lt 5, 3) := by decide +kernel
theorem dMo_triple_21 : decode cMo_triple 21 = .ok (.iconst (-1), 1) := by decide +kernel
theorem dMo_triple_22 : decode cMo_triple 22 = .ok (.ireturn, 1) := by decide +kernel
theorem dMo_triple_23 : decode cMo_triple 23 = .ok (.iconst 0, 1) := by decide +kernel
theorem dMo_triple_24 : decode cMo_triple 24 = .ok (.istore_n 3, 1) := by decide +kernel
theorem dMo_triple_25 : decode cMo_triple 25 = .ok (.iload_n 3, 1) := by decide +kernel
theorem dMo_triple_26 : decode cMo_triple 26 = .ok (.aload_n 0, 1) := by decide +kernel
theorem dMo_triple_27 : decode cMo_triple 27 = .ok (.getfield 53, 3) := by decide +kernel
theorem dMo_triple_30 : decode cMo_triple 30 = .ok (.if_icmp .ge 77, 3) := by decide +kernel
theorem dMo_triple_33 : decode cMo_triple 33 = .ok (.iconst 0, 1) := by decide +kernel
theorem dMo_triple_34 : decode cMo_triple 34 = .ok (.istore 4, 2) := by decide +kernel
theorem dMo_triple_36 : decode cMo_triple 36 = .ok (.iconst 0, 1) := by decide +kernel
theorem dMo_triple_37 : decode cMo_triple 37 = .ok (.istore 5, 2) := by decide +kernel
theorem dMo_triple_39 : decode cMo_triple 39 = .ok (.iload 5, 2) := by decide +kernel
theorem dMo_triple_41 : decode cMo_triple 41 = .ok (.aload_n 0, 1) := by decide +kernel
theorem dMo_triple_42 : decode cMo_triple 42 = .ok (.getfield 53, 3) := by decide +kernel
theorem dMo_triple_45 : decode cMo_triple 45 = .ok (.if_icmp .ge 43, 3) := by decide +kernel
theorem dMo_triple_48 : decode cMo_triple 48 = .ok (.iload 4, 2) := by decide +kernel
theorem dMo_triple_50 : decode cMo_triple 50 = .ok (.aload_n 0, 1) := by decide +kernel
theorem dMo_triple_51 : decode cMo_triple 51 = .ok (.getfield 20, 3) := by decide +kernel
theorem dMo_triple_54 : decode cMo_triple 54 = .ok (.iload 5, 2) := by decide +kernel
theorem dMo_triple_56 : decode cMo_triple 56 = .ok (.iaload, 1) := by decide +kernel
theorem dMo_triple_57 : decode cMo_triple 57 = .ok (.iload_n 1, 1) := by decide +kernel
theorem dMo_triple_58 : decode cMo_triple 58 = .ok (.invokestatic 90, 3) := by decide +kernel
theorem dMo_triple_61 : decode cMo_triple 61 = .ok (.aload_n 0, 1) := by decide +kernel
theorem dMo_triple_62 : decode cMo_triple 62 = .ok (.getfield 20, 3) := by decide +kernel
theorem dMo_triple_65 : decode cMo_triple 65 = .ok (.iload_n 3, 1) := by decide +kernel
theorem dMo_triple_66 : decode cMo_triple 66 = .ok (.iaload, 1) := by decide +kernel
theorem dMo_triple_67 : decode cMo_triple 67 = .ok (.iload_n 1, 1) := by decide +kernel
theorem dMo_triple_68 : decode cMo_triple 68 = .ok (.invokestatic 90, 3) := by decide +kernel
theorem dMo_triple_71 : decode cMo_triple 71 = .ok (.if_icmp .ge 7, 3) := by decide +kernel
theorem dMo_triple_74 : decode cMo_triple 74 = .ok (.iconst 1, 1) := by decide +kernel
theorem dMo_triple_75 : decode cMo_triple 75 = .ok (.goto 4, 3) := by decide +kernel
theorem dMo_triple_78 : decode cMo_triple 78 = .ok (.iconst 0, 1) := by decide +kernel
theorem dMo_triple_79 : decode cMo_triple 79 = .ok (.iadd, 1) := by decide +kernel
theorem dMo_triple_80 : decode cMo_triple 80 = .ok (.istore 4, 2) := by decide +kernel
theorem dMo_triple_82 : decode cMo_triple 82 = .ok (.iinc 5 1, 3) := by decide +kernel
theorem dMo_triple_85 : decode cMo_triple 85 = .ok (.goto (-46), 3) := by decide +kernel
theorem dMo_triple_88 : decode cMo_triple 88 = .ok (.iload 4, 2) := by decide +kernel
theorem dMo_triple_90 : decode cMo_triple 90 = .ok (.iload_n 2, 1) := by decide +kernel
theorem dMo_triple_91 : decode cMo_triple 91 = .ok (.if_icmp .ne 10, 3) := by decide +kernel
theorem dMo_triple_94 : decode cMo_triple 94 = .ok (.aload_n 0, 1) := by decide +kernel
theorem dMo_triple_95 : decode cMo_triple 95 = .ok (.getfield 20, 3) := by decide +kernel
theorem dMo_triple_98 : decode cMo_triple 98 = .ok (.iload_n 3, 1) := by decide +kernel
theorem dMo_triple_99 : decode cMo_triple 99 = .ok (.iaload, 1) := by decide +kernel
theorem dMo_triple_100 : decode cMo_triple 100 = .ok (.ireturn, 1) := by decide +kernel
theorem dMo_triple_101 : decode cMo_triple 101 = .ok (.iinc 3 1, 3) := by decide +kernel
theorem dMo_triple_104 : decode cMo_triple 104 = .ok (.goto (-79), 3) := by decide +kernel
theorem dMo_triple_107 : decode cMo_triple 107 = .ok (.iconst (-1), 1) := by decide +kernel
theorem dMo_triple_108 : decode cMo_triple 108 = .ok (.ireturn, 1) := by decide +kernel
theorem dMo_fits_0 : decode cMo_fits 0 = .ok (.aload_n 0, 1) := by decide +kernel
theorem dMo_fits_1 : decode cMo_fits 1 = .ok (.iload_n 1, 1) := by decide +kernel
theorem dMo_fits_2 : decode cMo_fits 2 = .ok (.invokevirtual 76, 3) := by decide +kernel
theorem dMo_fits_5 : decode cMo_fits 5 = .ok (.ifCond .ne 15, 3) := by decide +kernel
theorem dMo_fits_8 : decode cMo_fits 8 = .ok (.iload_n 1, 1) := by decide +kernel
theorem dMo_fits_9 : decode cMo_fits 9 = .ok (.bipush 32, 2) := by decide +kernel
theorem dMo_fits_11 : decode cMo_fits 11 = .ok (.if_icmp .lt 13, 3) := by decide +kernel
theorem dMo_fits_14 : decode cMo_fits 14 = .ok (.iload_n 1, 1) := by decide +kernel
theorem dMo_fits_15 : decode cMo_fits 15 = .ok (.bipush 34, 2) := by decide +kernel
theorem dMo_fits_17 : decode cMo_fits 17 = .ok (.if_icmp .gt 7, 3) := by decide +kernel
theorem dMo_fits_20 : decode cMo_fits 20 = .ok (.iconst 1, 1) := by decide +kernel
theorem dMo_fits_21 : decode cMo_fits 21 = .ok (.goto 4, 3) := by decide +kernel
theorem dMo_fits_24 : decode cMo_fits 24 = .ok (.iconst 0, 1) := by decide +kernel
theorem dMo_fits_25 : decode cMo_fits 25 = .ok (.ireturn, 1) := by decide +kernel
theorem dMo_where_0 : decode cMo_where 0 = .ok (.aload_n 0, 1) := by decide +kernel
