theorem dSx_init_0 : decode cSx_init 0 = .ok (.aload_n 0, 1) := by decide +kernel
theorem dSx_init_1 : decode cSx_init 1 = .ok (.invokespecial 1, 3) := by decide +kernel
theorem dSx_init_4 : decode cSx_init 4 = .ok (.aload_n 0, 1) := by decide +kernel
theorem dSx_init_5 : decode cSx_init 5 = .ok (.new 7, 3) := by decide +kernel
theorem dSx_init_8 : decode cSx_init 8 = .ok (.dup, 1) := by decide +kernel
theorem dSx_init_9 : decode cSx_init 9 = .ok (.invokespecial 9, 3) := by decide +kernel
theorem dSx_init_12 : decode cSx_init 12 = .ok (.putfield 10, 3) := by decide +kernel
theorem dSx_init_15 : decode cSx_init 15 = .ok (.aload_n 0, 1) := by decide +kernel
theorem dSx_init_16 : decode cSx_init 16 = .ok (.new 16, 3) := by decide +kernel
theorem dSx_init_19 : decode cSx_init 19 = .ok (.dup, 1) := by decide +kernel
theorem dSx_init_20 : decode cSx_init 20 = .ok (.invokespecial 18, 3) := by decide +kernel
theorem dSx_init_23 : decode cSx_init 23 = .ok (.putfield 19, 3) := by decide +kernel
theorem dSx_init_26 : decode cSx_init 26 = .ok (.aload_n 0, 1) := by decide +kernel
theorem dSx_init_27 : decode cSx_init 27 = .ok (.new 23, 3) := by decide +kernel
theorem dSx_init_30 : decode cSx_init 30 = .ok (.dup, 1) := by decide +kernel
theorem dSx_init_31 : decode cSx_init 31 = .ok (.invokespecial 25, 3) := by decide +kernel
theorem dSx_init_34 : decode cSx_init 34 = .ok (.putfield 26, 3) := by decide +kernel
theorem dSx_init_37 : decode cSx_init 37 = .ok (.aload_n 0, 1) := by decide +kernel
theorem dSx_init_38 : decode cSx_init 38 = .ok (.new 30, 3) := by decide +kernel
theorem dSx_init_41 : decode cSx_init 41 = .ok (.dup, 1) := by decide +kernel
theorem dSx_init_42 : decode cSx_init 42 = .ok (.invokespecial 32, 3) := by decide +kernel
theorem dSx_init_45 : decode cSx_init 45 = .ok (.putfield 33, 3) := by decide +kernel
theorem dSx_init_48 : decode cSx_init 48 = .ok (.return_, 1) := by decide +kernel
theorem dSx_letter_0 : decode cSx_letter 0 = .ok (.aload_n 0, 1) := by decide +kernel
theorem dSx_letter_1 : decode cSx_letter 1 = .ok (.getfield 10, 3) := by decide +kernel
theorem dSx_letter_4 : decode cSx_letter 4 = .ok (.iload_n 1, 1) := by decide +kernel
theorem dSx_letter_5 : decode cSx_letter 5 = .ok (.invokevirtual 37, 3) := by decide +kernel
theorem dSx_letter_8 : decode cSx_letter 8 = .ok (.ireturn, 1) := by decide +kernel
theorem dSx_intern_0 : decode cSx_intern 0 = .ok (.aload_n 0, 1) := by decide +kernel
theorem dSx_intern_1 : decode cSx_intern 1 = .ok (.getfield 10, 3) := by decide +kernel
theorem dSx_intern_4 : decode cSx_intern 4 = .ok (.invokevirtual 41, 3) := by decide +kernel
theorem dSx_intern_7 : decode cSx_intern 7 = .ok (.ireturn, 1) := by decide +kernel
theorem dSx_words_0 : decode cSx_words 0 = .ok (.aload_n 0, 1) := by decide +kernel
theorem dSx_words_1 : decode cSx_words 1 = .ok (.getfield 10, 3) := by decide +kernel
theorem dSx_words_4 : decode cSx_words 4 = .ok (.getfield 45, 3) := by decide +kernel
theorem dSx_words_7 : decode cSx_words 7 = .ok (.ireturn, 1) := by decide +kernel
theorem dSx_spell_0 : decode cSx_spell 0 = .ok (.aload_n 0, 1) := by decide +kernel
theorem dSx_spell_1 : decode cSx_spell 1 = .ok (.getfield 10, 3) := by decide +kernel
theorem dSx_spell_4 : decode cSx_spell 4 = .ok (.iload_n 1, 1) := by decide +kernel
theorem dSx_spell_5 : decode cSx_spell 5 = .ok (.iload_n 2, 1) := by decide +kernel
theorem dSx_spell_6 : decode cSx_spell 6 = .ok (.invokevirtual 49, 3) := by decide +kernel
theorem dSx_spell_9 : decode cSx_spell 9 = .ok (.ireturn, 1) := by decide +kernel
theorem dSx_insert_0 : decode cSx_insert 0 = .ok (.aload_n 0, 1) := by decide +kernel
theorem dSx_insert_1 : decode cSx_insert 1 = .ok (.iload_n 1, 1) := by decide +kernel
theorem dSx_insert_2 : decode cSx_insert 2 = .ok (.iload_n 2, 1) := by decide +kernel
theorem dSx_insert_3 : decode cSx_insert 3 = .ok (.iload_n 3, 1) := by decide +kernel
theorem dSx_insert_4 : decode cSx_insert 4 = .ok (.invokevirtual 53, 3) := by decide +kernel
theorem dSx_insert_7 : decode cSx_insert 7 = .ok (.ifCond .ne 5, 3) := by decide +kernel
theorem dSx_insert_10 : decode cSx_insert 10 = .ok (.iconst (-1), 1) := by decide +kernel
theorem dSx_insert_11 : decode cSx_insert 11 = .ok (.ireturn, 1) := by decide +kernel
theorem dSx_insert_12 : decode cSx_insert 12 = .ok (.iload_n 1, 1) := by decide +kernel
theorem dSx_insert_13 : decode cSx_insert 13 = .ok (.iload_n 2, 1) := by decide +kernel
theorem dSx_insert_14 : decode cSx_insert 14 = .ok (.iload_n 3, 1) := by decide +kernel
theorem dSx_insert_15 : decode cSx_insert 15 = .ok (.invokestatic 57, 3) := by decide +kernel
theorem dSx_insert_18 : decode cSx_insert 18 = .ok (.istore 4, 2) := by decide +kernel
theorem dSx_insert_20 : decode cSx_insert 20 = .ok (.aload_n 0, 1) := by decide +kernel
theorem dSx_insert_21 : decode cSx_insert 21 = .ok (.getfield 19, 3) := by decide +kernel
theorem dSx_insert_24 : decode cSx_insert 24 = .ok (.iload 4, 2) := by decide +kernel
theorem dSx_insert_26 : decode cSx_insert 26 = .ok (.invokevirtual 61, 3) := by decide +kernel
theorem dSx_insert_29 : decode cSx_insert 29 = .ok (.ifCond .eq 5, 3) := by decide +kernel
theorem dSx_insert_32 : decode cSx_insert 32 = .ok (.iconst 0, 1) := by decide +kernel
theorem dSx_insert_33 : decode cSx_insert 33 = .ok (.ireturn, 1) := by decide +kernel
theorem dSx_insert_34 : decode cSx_insert 34 = .ok (.aload_n 0, 1) := by decide +kernel
theorem dSx_insert_35 : decode cSx_insert 35 = .ok (.getfield 19, 3) := by decide +kernel
theorem dSx_insert_38 : decode cSx_insert 38 = .ok (.invokevirtual 65, 3) := by decide +kernel
theorem dSx_insert_41 : decode cSx_insert 41 = .ok (.ifCond .eq 6, 3) := by decide +kernel
theorem dSx_insert_44 : decode cSx_insert 44 = .ok (.bipush (-2), 2) := by decide +kernel
theorem dSx_insert_46 : decode cSx_insert 46 = .ok (.ireturn, 1) := by decide +kernel
theorem dSx_insert_47 : decode cSx_insert 47 = .ok (.aload_n 0, 1) := by decide +kernel
theorem dSx_insert_48 : decode cSx_insert 48 = .ok (.getfield 19, 3) := by decide +kernel
theorem dSx_insert_51 : decode cSx_insert 51 = .ok (.iload 4, 2) := by decide +kernel
theorem dSx_insert_53 : decode cSx_insert 53 = .ok (.invokevirtual 69, 3) := by decide +kernel
theorem dSx_insert_56 : decode cSx_insert 56 = .ok (.iconst 1, 1) := by decide +kernel
theorem dSx_insert_57 : decode cSx_insert 57 = .ok (.ireturn, 1) := by decide +kernel
theorem dSx_remove_0 : decode cSx_remove 0 = .ok (.aload_n 0, 1) := by decide +kernel
theorem dSx_remove_1 : decode cSx_remove 1 = .ok (.iload_n 1, 1) := by decide +kernel
theorem dSx_remove_2 : decode cSx_remove 2 = .ok (.iload_n 2, 1) := by decide +kernel
theorem dSx_remove_3 : decode cSx_remove 3 = .ok (.iload_n 3, 1) := by decide +kernel
theorem dSx_remove_4 : decode cSx_remove 4 = .ok (.invokevirtual 53, 3) := by decide +kernel
theorem dSx_remove_7 : decode cSx_remove 7 = .ok (.ifCond .ne 5, 3) := by decide +kernel
theorem dSx_remove_10 : decode cSx_remove 10 = .ok (.iconst (-1), 1) := by decide +kernel
theorem dSx_remove_11 : decode cSx_remove 11 = .ok (.ireturn, 1) := by decide +kernel
theorem dSx_remove_12 : decode cSx_remove 12 = .ok (.iload_n 1, 1) := by decide +kernel
theorem dSx_remove_13 : decode cSx_remove 13 = .ok (.iload_n 2, 1) := by decide +kernel
theorem dSx_remove_14 : decode cSx_remove 14 = .ok (.iload_n 3, 1) := by decide +kernel
theorem dSx_remove_15 : decode cSx_remove 15 = .ok (.invokestatic 57, 3) := by decide +kernel
theorem dSx_remove_18 : decode cSx_remove 18 = .ok (.istore 4, 2) := by decide +kernel
theorem dSx_remove_20 : decode cSx_remove 20 = .ok (.aload_n 0, 1) := by decide +kernel
theorem dSx_remove_21 : decode cSx_remove 21 = .ok (.getfield 19, 3) := by decide +kernel
theorem dSx_remove_24 : decode cSx_remove 24 = .ok (.iload 4, 2) := by decide +kernel
theorem dSx_remove_26 : decode cSx_remove 26 = .ok (.invokevirtual 61, 3) := by decide +kernel
theorem dSx_remove_29 : decode cSx_remove 29 = .ok (.ifCond .ne 5, 3) := by decide +kernel
theorem dSx_remove_32 : decode cSx_remove 32 = .ok (.iconst 0, 1) := by decide +kernel
theorem dSx_remove_33 : decode cSx_remove 33 = .ok (.ireturn, 1) := by decide +kernel
theorem dSx_remove_34 : decode cSx_remove 34 = .ok (.aload_n 0, 1) := by decide +kernel
theorem dSx_remove_35 : decode cSx_remove 35 = .ok (.getfield 19, 3) := by decide +kernel
theorem dSx_remove_38 : decode cSx_remove 38 = .ok (.iload 4, 2) := by decide +kernel
theorem dSx_remove_40 : decode cSx_remove 40 = .ok (.invokevirtual 73, 3) := by decide +kernel
theorem dSx_remove_43 : decode cSx_remove 43 = .ok (.iconst 1, 1) := by decide +kernel
theorem dSx_remove_44 : decode cSx_remove 44 = .ok (.ireturn, 1) := by decide +kernel
theorem dSx_merge_0 : decode cSx_merge 0 = .ok (.aload_n 0, 1) := by decide +kernel
theorem dSx_merge_1 : decode cSx_merge 1 = .ok (.getfield 19, 3) := by decide +kernel
theorem dSx_merge_4 : decode cSx_merge 4 = .ok (.getfield 76, 3) := by decide +kernel
theorem dSx_merge_7 : decode cSx_merge 7 = .ok (.istore_n 1, 1) := by decide +kernel
theorem dSx_merge_8 : decode cSx_merge 8 = .ok (.aload_n 0, 1) := by decide +kernel
theorem dSx_merge_9 : decode cSx_merge 9 = .ok (.getfield 19, 3) := by decide +kernel
theorem dSx_merge_12 : decode cSx_merge 12 = .ok (.invokevirtual 79, 3) := by decide +kernel
theorem dSx_merge_15 : decode cSx_merge 15 = .ok (.iload_n 1, 1) := by decide +kernel
theorem dSx_merge_16 : decode cSx_merge 16 = .ok (.ireturn, 1) := by decide +kernel
theorem dSx_size_0 : decode cSx_size 0 = .ok (.aload_n 0, 1) := by decide +kernel
theorem dSx_size_1 : decode cSx_size 1 = .ok (.getfield 19, 3) := by decide +kernel
theorem dSx_size_4 : decode cSx_size 4 = .ok (.invokevirtual 82, 3) := by decide +kernel
theorem dSx_size_7 : decode cSx_size 7 = .ok (.ireturn, 1) := by decide +kernel
theorem dSx_pending_0 : decode cSx_pending 0 = .ok (.aload_n 0, 1) := by decide +kernel
theorem dSx_pending_1 : decode cSx_pending 1 = .ok (.getfield 19, 3) := by decide +kernel
theorem dSx_pending_4 : decode cSx_pending 4 = .ok (.getfield 76, 3) := by decide +kernel
theorem dSx_pending_7 : decode cSx_pending 7 = .ok (.ireturn, 1) := by decide +kernel
theorem dSx_merges_0 : decode cSx_merges 0 = .ok (.aload_n 0, 1) := by decide +kernel
theorem dSx_merges_1 : decode cSx_merges 1 = .ok (.getfield 19, 3) := by decide +kernel
theorem dSx_merges_4 : decode cSx_merges 4 = .ok (.getfield 84, 3) := by decide +kernel
theorem dSx_merges_7 : decode cSx_merges 7 = .ok (.ireturn, 1) := by decide +kernel
theorem dSx_triple_0 : decode cSx_triple 0 = .ok (.iload_n 1, 1) := by decide +kernel
theorem dSx_triple_1 : decode cSx_triple 1 = .ok (.ifCond .lt 9, 3) := by decide +kernel
theorem dSx_triple_4 : decode cSx_triple 4 = .ok (.iload_n 1, 1) := by decide +kernel
theorem dSx_triple_5 : decode cSx_triple 5 = .ok (.bipush 6, 2) := by decide +kernel
theorem dSx_triple_7 : decode cSx_triple 7 = .ok (.if_icmp .lt 5, 3) := by decide +kernel
theorem dSx_triple_10 : decode cSx_triple 10 = .ok (.iconst (-1), 1) := by decide +kernel
theorem dSx_triple_11 : decode cSx_triple 11 = .ok (.ireturn, 1) := by decide +kernel
theorem dSx_triple_12 : decode cSx_triple 12 = .ok (.aload_n 0, 1) := by decide +kernel
theorem dSx_triple_13 : decode cSx_triple 13 = .ok (.getfield 19, 3) := by decide +kernel
theorem dSx_triple_16 : decode cSx_triple 16 = .ok (.iload_n 1, 1) := by decide +kernel
theorem dSx_triple_17 : decode cSx_triple 17 = .ok (.iload_n 2, 1) := by decide +kernel
theorem dSx_triple_18 : decode cSx_triple 18 = .ok (.invokevirtual 87, 3) := by decide +kernel
theorem dSx_triple_21 : decode cSx_triple 21 = .ok (.ireturn, 1) := by decide +kernel
theorem dSx_where_0 : decode cSx_where 0 = .ok (.aload_n 0, 1) := by decide +kernel
theorem dSx_where_1 : decode cSx_where 1 = .ok (.iload_n 1, 1) := by decide +kernel
theorem dSx_where_2 : decode cSx_where 2 = .ok (.invokevirtual 90, 3) := by decide +kernel
theorem dSx_where_5 : decode cSx_where 5 = .ok (.ifCond .eq 19, 3) := by decide +kernel
theorem dSx_where_8 : decode cSx_where 8 = .ok (.aload_n 0, 1) := by decide +kernel
theorem dSx_where_9 : decode cSx_where 9 = .ok (.iload_n 2, 1) := by decide +kernel
theorem dSx_where_10 : decode cSx_where 10 = .ok (.invokevirtual 90, 3) := by decide +kernel
theorem dSx_where_13 : decode cSx_where 13 = .ok (.ifCond .eq 11, 3) := by decide +kernel
theorem dSx_where_16 : decode cSx_where 16 = .ok (.aload_n 0, 1) := by decide +kernel
theorem dSx_where_17 : decode cSx_where 17 = .ok (.iload_n 3, 1) := by decide +kernel
theorem dSx_where_18 : decode cSx_where 18 = .ok (.invokevirtual 90, 3) := by decide +kernel
theorem dSx_where_21 : decode cSx_where 21 = .ok (.ifCond .ne 5, 3) := by decide +kernel
theorem dSx_where_24 : decode cSx_where 24 = .ok (.iconst (-1), 1) := by decide +kernel
theorem dSx_where_25 : decode cSx_where 25 = .ok (.ireturn, 1) := by decide +kernel
theorem dSx_where_26 : decode cSx_where 26 = .ok (.aload_n 0, 1) := by decide +kernel
theorem dSx_where_27 : decode cSx_where 27 = .ok (.getfield 26, 3) := by decide +kernel
theorem dSx_where_30 : decode cSx_where 30 = .ok (.invokevirtual 93, 3) := by decide +kernel
theorem dSx_where_33 : decode cSx_where 33 = .ok (.ifCond .eq 6, 3) := by decide +kernel
theorem dSx_where_36 : decode cSx_where 36 = .ok (.bipush (-2), 2) := by decide +kernel
theorem dSx_where_38 : decode cSx_where 38 = .ok (.ireturn, 1) := by decide +kernel
theorem dSx_where_39 : decode cSx_where 39 = .ok (.aload_n 0, 1) := by decide +kernel
theorem dSx_where_40 : decode cSx_where 40 = .ok (.getfield 26, 3) := by decide +kernel
theorem dSx_where_43 : decode cSx_where 43 = .ok (.iload_n 1, 1) := by decide +kernel
theorem dSx_where_44 : decode cSx_where 44 = .ok (.iload_n 2, 1) := by decide +kernel
theorem dSx_where_45 : decode cSx_where 45 = .ok (.iload_n 3, 1) := by decide +kernel
theorem dSx_where_46 : decode cSx_where 46 = .ok (.invokevirtual 94, 3) := by decide +kernel
theorem dSx_where_49 : decode cSx_where 49 = .ok (.aload_n 0, 1) := by decide +kernel
theorem dSx_where_50 : decode cSx_where 50 = .ok (.getfield 26, 3) := by decide +kernel
theorem dSx_where_53 : decode cSx_where 53 = .ok (.getfield 98, 3) := by decide +kernel
theorem dSx_where_56 : decode cSx_where 56 = .ok (.ireturn, 1) := by decide +kernel
theorem dSx_clear_0 : decode cSx_clear 0 = .ok (.aload_n 0, 1) := by decide +kernel
theorem dSx_clear_1 : decode cSx_clear 1 = .ok (.getfield 26, 3) := by decide +kernel
theorem dSx_clear_4 : decode cSx_clear 4 = .ok (.iconst 0, 1) := by decide +kernel
theorem dSx_clear_5 : decode cSx_clear 5 = .ok (.putfield 98, 3) := by decide +kernel
theorem dSx_clear_8 : decode cSx_clear 8 = .ok (.return_, 1) := by decide +kernel
theorem dSx_run_0 : decode cSx_run 0 = .ok (.aload_n 0, 1) := by decide +kernel
theorem dSx_run_1 : decode cSx_run 1 = .ok (.getfield 26, 3) := by decide +kernel
theorem dSx_run_4 : decode cSx_run 4 = .ok (.getfield 98, 3) := by decide +kernel
theorem dSx_run_7 : decode cSx_run 7 = .ok (.ifCond .eq 16, 3) := by decide +kernel
theorem dSx_run_10 : decode cSx_run 10 = .ok (.aload_n 0, 1) := by decide +kernel
theorem dSx_run_11 : decode cSx_run 11 = .ok (.getfield 26, 3) := by decide +kernel
theorem dSx_run_14 : decode cSx_run 14 = .ok (.iload_n 1, 1) := by decide +kernel
theorem dSx_run_15 : decode cSx_run 15 = .ok (.iload_n 2, 1) := by decide +kernel
theorem dSx_run_16 : decode cSx_run 16 = .ok (.iload_n 3, 1) := by decide +kernel
theorem dSx_run_17 : decode cSx_run 17 = .ok (.invokevirtual 99, 3) := by decide +kernel
theorem dSx_run_20 : decode cSx_run 20 = .ok (.ifCond .ne 5, 3) := by decide +kernel
theorem dSx_run_23 : decode cSx_run 23 = .ok (.iconst (-1), 1) := by decide +kernel
theorem dSx_run_24 : decode cSx_run 24 = .ok (.ireturn, 1) := by decide +kernel
theorem dSx_run_25 : decode cSx_run 25 = .ok (.aload_n 0, 1) := by decide +kernel
theorem dSx_run_26 : decode cSx_run 26 = .ok (.getfield 33, 3) := by decide +kernel
theorem dSx_run_29 : decode cSx_run 29 = .ok (.iload_n 1, 1) := by decide +kernel
theorem dSx_run_30 : decode cSx_run 30 = .ok (.iload_n 2, 1) := by decide +kernel
theorem dSx_run_31 : decode cSx_run 31 = .ok (.iload_n 3, 1) := by decide +kernel
theorem dSx_run_32 : decode cSx_run 32 = .ok (.invokevirtual 102, 3) := by decide +kernel
theorem dSx_run_35 : decode cSx_run 35 = .ok (.aload_n 0, 1) := by decide +kernel
theorem dSx_run_36 : decode cSx_run 36 = .ok (.getfield 33, 3) := by decide +kernel
theorem dSx_run_39 : decode cSx_run 39 = .ok (.aload_n 0, 1) := by decide +kernel
theorem dSx_run_40 : decode cSx_run 40 = .ok (.getfield 26, 3) := by decide +kernel
theorem dSx_run_43 : decode cSx_run 43 = .ok (.aload_n 0, 1) := by decide +kernel
theorem dSx_run_44 : decode cSx_run 44 = .ok (.getfield 19, 3) := by decide +kernel
theorem dSx_run_47 : decode cSx_run 47 = .ok (.aload_n 0, 1) := by decide +kernel
theorem dSx_run_48 : decode cSx_run 48 = .ok (.getfield 10, 3) := by decide +kernel
theorem dSx_run_51 : decode cSx_run 51 = .ok (.getfield 45, 3) := by decide +kernel
theorem dSx_run_54 : decode cSx_run 54 = .ok (.invokevirtual 105, 3) := by decide +kernel
theorem dSx_run_57 : decode cSx_run 57 = .ok (.aload_n 0, 1) := by decide +kernel
theorem dSx_run_58 : decode cSx_run 58 = .ok (.getfield 33, 3) := by decide +kernel
theorem dSx_run_61 : decode cSx_run 61 = .ok (.invokevirtual 109, 3) := by decide +kernel
theorem dSx_run_64 : decode cSx_run 64 = .ok (.aload_n 0, 1) := by decide +kernel
theorem dSx_run_65 : decode cSx_run 65 = .ok (.getfield 33, 3) := by decide +kernel
theorem dSx_run_68 : decode cSx_run 68 = .ok (.getfield 112, 3) := by decide +kernel
theorem dSx_run_71 : decode cSx_run 71 = .ok (.ireturn, 1) := by decide +kernel
theorem dSx_answer_0 : decode cSx_answer 0 = .ok (.iload_n 2, 1) := by decide +kernel
theorem dSx_answer_1 : decode cSx_answer 1 = .ok (.invokestatic 115, 3) := by decide +kernel
theorem dSx_answer_4 : decode cSx_answer 4 = .ok (.ifCond .ne 5, 3) := by decide +kernel
theorem dSx_answer_7 : decode cSx_answer 7 = .ok (.iconst (-1), 1) := by decide +kernel
theorem dSx_answer_8 : decode cSx_answer 8 = .ok (.ireturn, 1) := by decide +kernel
theorem dSx_answer_9 : decode cSx_answer 9 = .ok (.aload_n 0, 1) := by decide +kernel
theorem dSx_answer_10 : decode cSx_answer 10 = .ok (.getfield 33, 3) := by decide +kernel
theorem dSx_answer_13 : decode cSx_answer 13 = .ok (.iload_n 1, 1) := by decide +kernel
theorem dSx_answer_14 : decode cSx_answer 14 = .ok (.iload_n 2, 1) := by decide +kernel
theorem dSx_answer_15 : decode cSx_answer 15 = .ok (.bipush 32, 2) := by decide +kernel
theorem dSx_answer_17 : decode cSx_answer 17 = .ok (.isub, 1) := by decide +kernel
theorem dSx_answer_18 : decode cSx_answer 18 = .ok (.invokevirtual 118, 3) := by decide +kernel
theorem dSx_answer_21 : decode cSx_answer 21 = .ok (.ireturn, 1) := by decide +kernel
theorem dSx_live_0 : decode cSx_live 0 = .ok (.aload_n 0, 1) := by decide +kernel
theorem dSx_live_1 : decode cSx_live 1 = .ok (.getfield 33, 3) := by decide +kernel
theorem dSx_live_4 : decode cSx_live 4 = .ok (.getfield 121, 3) := by decide +kernel
theorem dSx_live_7 : decode cSx_live 7 = .ok (.ireturn, 1) := by decide +kernel
theorem dSx_areTerms_0 : decode cSx_areTerms 0 = .ok (.aload_n 0, 1) := by decide +kernel
theorem dSx_areTerms_1 : decode cSx_areTerms 1 = .ok (.getfield 10, 3) := by decide +kernel
theorem dSx_areTerms_4 : decode cSx_areTerms 4 = .ok (.iload_n 1, 1) := by decide +kernel
theorem dSx_areTerms_5 : decode cSx_areTerms 5 = .ok (.invokevirtual 124, 3) := by decide +kernel
theorem dSx_areTerms_8 : decode cSx_areTerms 8 = .ok (.ifCond .eq 29, 3) := by decide +kernel
theorem dSx_areTerms_11 : decode cSx_areTerms 11 = .ok (.aload_n 0, 1) := by decide +kernel
theorem dSx_areTerms_12 : decode cSx_areTerms 12 = .ok (.getfield 10, 3) := by decide +kernel
theorem dSx_areTerms_15 : decode cSx_areTerms 15 = .ok (.iload_n 2, 1) := by decide +kernel
theorem dSx_areTerms_16 : decode cSx_areTerms 16 = .ok (.invokevirtual 124, 3) := by decide +kernel
theorem dSx_areTerms_19 : decode cSx_areTerms 19 = .ok (.ifCond .eq 18, 3) := by decide +kernel
theorem dSx_areTerms_22 : decode cSx_areTerms 22 = .ok (.aload_n 0, 1) := by decide +kernel
theorem dSx_areTerms_23 : decode cSx_areTerms 23 = .ok (.getfield 10, 3) := by decide +kernel
theorem dSx_areTerms_26 : decode cSx_areTerms 26 = .ok (.iload_n 3, 1) := by decide +kernel
theorem dSx_areTerms_27 : decode cSx_areTerms 27 = .ok (.invokevirtual 124, 3) := by decide +kernel
theorem dSx_areTerms_30 : decode cSx_areTerms 30 = .ok (.ifCond .eq 7, 3) := by decide +kernel
theorem dSx_areTerms_33 : decode cSx_areTerms 33 = .ok (.iconst 1, 1) := by decide +kernel
theorem dSx_areTerms_34 : decode cSx_areTerms 34 = .ok (.goto 4, 3) := by decide +kernel
theorem dSx_areTerms_37 : decode cSx_areTerms 37 = .ok (.iconst 0, 1) := by decide +kernel
theorem dSx_areTerms_38 : decode cSx_areTerms 38 = .ok (.ireturn, 1) := by decide +kernel
theorem dSx_fitsPattern_0 : decode cSx_fitsPattern 0 = .ok (.iload_n 1, 1) := by decide +kernel
theorem dSx_fitsPattern_1 : decode cSx_fitsPattern 1 = .ok (.invokestatic 115, 3) := by decide +kernel
theorem dSx_fitsPattern_4 : decode cSx_fitsPattern 4 = .ok (.ifCond .ne 14, 3) := by decide +kernel
theorem dSx_fitsPattern_7 : decode cSx_fitsPattern 7 = .ok (.aload_n 0, 1) := by decide +kernel
theorem dSx_fitsPattern_8 : decode cSx_fitsPattern 8 = .ok (.getfield 10, 3) := by decide +kernel
theorem dSx_fitsPattern_11 : decode cSx_fitsPattern 11 = .ok (.iload_n 1, 1) := by decide +kernel
theorem dSx_fitsPattern_12 : decode cSx_fitsPattern 12 = .ok (.invokevirtual 124, 3) := by decide +kernel
theorem dSx_fitsPattern_15 : decode cSx_fitsPattern 15 = .ok (.ifCond .eq 7, 3) := by decide +kernel
theorem dSx_fitsPattern_18 : decode cSx_fitsPattern 18 = .ok (.iconst 1, 1) := by decide +kernel
theorem dSx_fitsPattern_19 : decode cSx_fitsPattern 19 = .ok (.goto 4, 3) := by decide +kernel
theorem dSx_fitsPattern_22 : decode cSx_fitsPattern 22 = .ok (.iconst 0, 1) := by decide +kernel
theorem dSx_fitsPattern_23 : decode cSx_fitsPattern 23 = .ok (.ireturn, 1) := by decide +kernel
theorem dSx_isVariable_0 : decode cSx_isVariable 0 = .ok (.iload_n 0, 1) := by decide +kernel
theorem dSx_isVariable_1 : decode cSx_isVariable 1 = .ok (.bipush 32, 2) := by decide +kernel
theorem dSx_isVariable_3 : decode cSx_isVariable 3 = .ok (.if_icmp .lt 13, 3) := by decide +kernel
theorem dSx_isVariable_6 : decode cSx_isVariable 6 = .ok (.iload_n 0, 1) := by decide +kernel
theorem dSx_isVariable_7 : decode cSx_isVariable 7 = .ok (.bipush 35, 2) := by decide +kernel
theorem dSx_isVariable_9 : decode cSx_isVariable 9 = .ok (.if_icmp .ge 7, 3) := by decide +kernel
theorem dSx_isVariable_12 : decode cSx_isVariable 12 = .ok (.iconst 1, 1) := by decide +kernel
theorem dSx_isVariable_13 : decode cSx_isVariable 13 = .ok (.goto 4, 3) := by decide +kernel
theorem dSx_isVariable_16 : decode cSx_isVariable 16 = .ok (.iconst 0, 1) := by decide +kernel
theorem dSx_isVariable_17 : decode cSx_isVariable 17 = .ok (.ireturn, 1) := by decide +kernel
theorem dSx_codeOf_0 : decode cSx_codeOf 0 = .ok (.iload_n 0, 1) := by decide +kernel
theorem dSx_codeOf_1 : decode cSx_codeOf 1 = .ok (.iconst 5, 1) := by decide +kernel
theorem dSx_codeOf_2 : decode cSx_codeOf 2 = .ok (.ishl, 1) := by decide +kernel
theorem dSx_codeOf_3 : decode cSx_codeOf 3 = .ok (.iload_n 1, 1) := by decide +kernel
theorem dSx_codeOf_4 : decode cSx_codeOf 4 = .ok (.ior, 1) := by decide +kernel
theorem dSx_codeOf_5 : decode cSx_codeOf 5 = .ok (.iconst 5, 1) := by decide +kernel
theorem dSx_codeOf_6 : decode cSx_codeOf 6 = .ok (.ishl, 1) := by decide +kernel
theorem dSx_codeOf_7 : decode cSx_codeOf 7 = .ok (.iload_n 2, 1) := by decide +kernel
theorem dSx_codeOf_8 : decode cSx_codeOf 8 = .ok (.ior, 1) := by decide +kernel
theorem dSx_codeOf_9 : decode cSx_codeOf 9 = .ok (.ireturn, 1) := by decide +kernel
theorem dSx_shiftOf_0 : decode cSx_shiftOf 0 = .ok (.iconst 5, 1) := by decide +kernel
theorem dSx_shiftOf_1 : decode cSx_shiftOf 1 = .ok (.iconst 2, 1) := by decide +kernel
theorem dSx_shiftOf_2 : decode cSx_shiftOf 2 = .ok (.iload_n 0, 1) := by decide +kernel
theorem dSx_shiftOf_3 : decode cSx_shiftOf 3 = .ok (.isub, 1) := by decide +kernel
theorem dSx_shiftOf_4 : decode cSx_shiftOf 4 = .ok (.imul, 1) := by decide +kernel
theorem dSx_shiftOf_5 : decode cSx_shiftOf 5 = .ok (.ireturn, 1) := by decide +kernel
theorem dSx_partOf_0 : decode cSx_partOf 0 = .ok (.iload_n 0, 1) := by decide +kernel
theorem dSx_partOf_1 : decode cSx_partOf 1 = .ok (.iload_n 1, 1) := by decide +kernel
theorem dSx_partOf_2 : decode cSx_partOf 2 = .ok (.invokestatic 127, 3) := by decide +kernel
theorem dSx_partOf_5 : decode cSx_partOf 5 = .ok (.ishr, 1) := by decide +kernel
theorem dSx_partOf_6 : decode cSx_partOf 6 = .ok (.bipush 31, 2) := by decide +kernel
theorem dSx_partOf_8 : decode cSx_partOf 8 = .ok (.iand, 1) := by decide +kernel
theorem dSx_partOf_9 : decode cSx_partOf 9 = .ok (.ireturn, 1) := by decide +kernel
theorem dDi_init_0 : decode cDi_init 0 = .ok (.aload_n 0, 1) := by decide +kernel
theorem dDi_init_1 : decode cDi_init 1 = .ok (.invokespecial 3, 3) := by decide +kernel
theorem dDi_init_4 : decode cDi_init 4 = .ok (.aload_n 0, 1) := by decide +kernel
theorem dDi_init_5 : decode cDi_init 5 = .ok (.bipush 24, 2) := by decide +kernel
theorem dDi_init_7 : decode cDi_init 7 = .ok (.newarray .long, 2) := by decide +kernel
theorem dDi_init_9 : decode cDi_init 9 = .ok (.putfield 9, 3) := by decide +kernel
theorem dDi_init_12 : decode cDi_init 12 = .ok (.aload_n 0, 1) := by decide +kernel
theorem dDi_init_13 : decode cDi_init 13 = .ok (.bipush 24, 2) := by decide +kernel
theorem dDi_init_15 : decode cDi_init 15 = .ok (.newarray .int, 2) := by decide +kernel
theorem dDi_init_17 : decode cDi_init 17 = .ok (.putfield 15, 3) := by decide +kernel
theorem dDi_init_20 : decode cDi_init 20 = .ok (.aload_n 0, 1) := by decide +kernel
theorem dDi_init_21 : decode cDi_init 21 = .ok (.iconst 0, 1) := by decide +kernel
theorem dDi_init_22 : decode cDi_init 22 = .ok (.putfield 19, 3) := by decide +kernel
theorem dDi_init_25 : decode cDi_init 25 = .ok (.aload_n 0, 1) := by decide +kernel
theorem dDi_init_26 : decode cDi_init 26 = .ok (.lconst 0, 1) := by decide +kernel
theorem dDi_init_27 : decode cDi_init 27 = .ok (.putfield 23, 3) := by decide +kernel
theorem dDi_init_30 : decode cDi_init 30 = .ok (.aload_n 0, 1) := by decide +kernel
theorem dDi_init_31 : decode cDi_init 31 = .ok (.iconst 0, 1) := by decide +kernel
theorem dDi_init_32 : decode cDi_init 32 = .ok (.putfield 27, 3) := by decide +kernel
theorem dDi_init_35 : decode cDi_init 35 = .ok (.return_, 1) := by decide +kernel
theorem dDi_has_0 : decode cDi_has 0 = .ok (.iload_n 1, 1) := by decide +kernel
theorem dDi_has_1 : decode cDi_has 1 = .ok (.ifCond .lt 15, 3) := by decide +kernel
theorem dDi_has_4 : decode cDi_has 4 = .ok (.iload_n 1, 1) := by decide +kernel
theorem dDi_has_5 : decode cDi_has 5 = .ok (.aload_n 0, 1) := by decide +kernel
theorem dDi_has_6 : decode cDi_has 6 = .ok (.getfield 19, 3) := by decide +kernel
theorem dDi_has_9 : decode cDi_has 9 = .ok (.if_icmp .ge 7, 3) := by decide +kernel
theorem dDi_has_12 : decode cDi_has 12 = .ok (.iconst 1, 1) := by decide +kernel
theorem dDi_has_13 : decode cDi_has 13 = .ok (.goto 4, 3) := by decide +kernel
theorem dDi_has_16 : decode cDi_has 16 = .ok (.iconst 0, 1) := by decide +kernel
theorem dDi_has_17 : decode cDi_has 17 = .ok (.ireturn, 1) := by decide +kernel
theorem dDi_addLetter_0 : decode cDi_addLetter 0 = .ok (.iload_n 1, 1) := by decide +kernel
theorem dDi_addLetter_1 : decode cDi_addLetter 1 = .ok (.bipush 33, 2) := by decide +kernel
theorem dDi_addLetter_3 : decode cDi_addLetter 3 = .ok (.if_icmp .lt 18, 3) := by decide +kernel
theorem dDi_addLetter_6 : decode cDi_addLetter 6 = .ok (.iload_n 1, 1) := by decide +kernel
theorem dDi_addLetter_7 : decode cDi_addLetter 7 = .ok (.bipush 126, 2) := by decide +kernel
theorem dDi_addLetter_9 : decode cDi_addLetter 9 = .ok (.if_icmp .gt 12, 3) := by decide +kernel
theorem dDi_addLetter_12 : decode cDi_addLetter 12 = .ok (.aload_n 0, 1) := by decide +kernel
theorem dDi_addLetter_13 : decode cDi_addLetter 13 = .ok (.getfield 27, 3) := by decide +kernel
theorem dDi_addLetter_16 : decode cDi_addLetter 16 = .ok (.bipush 6, 2) := by decide +kernel
theorem dDi_addLetter_18 : decode cDi_addLetter 18 = .ok (.if_icmp .lt 5, 3) := by decide +kernel
theorem dDi_addLetter_21 : decode cDi_addLetter 21 = .ok (.iconst 0, 1) := by decide +kernel
theorem dDi_addLetter_22 : decode cDi_addLetter 22 = .ok (.ireturn, 1) := by decide +kernel
theorem dDi_addLetter_23 : decode cDi_addLetter 23 = .ok (.aload_n 0, 1) := by decide +kernel
theorem dDi_addLetter_24 : decode cDi_addLetter 24 = .ok (.aload_n 0, 1) := by decide +kernel
theorem dDi_addLetter_25 : decode cDi_addLetter 25 = .ok (.getfield 23, 3) := by decide +kernel
theorem dDi_addLetter_28 : decode cDi_addLetter 28 = .ok (.bipush 7, 2) := by decide +kernel
theorem dDi_addLetter_30 : decode cDi_addLetter 30 = .ok (.lshl, 1) := by decide +kernel
theorem dDi_addLetter_31 : decode cDi_addLetter 31 = .ok (.iload_n 1, 1) := by decide +kernel
theorem dDi_addLetter_32 : decode cDi_addLetter 32 = .ok (.i2l, 1) := by decide +kernel
theorem dDi_addLetter_33 : decode cDi_addLetter 33 = .ok (.lor, 1) := by decide +kernel
theorem dDi_addLetter_34 : decode cDi_addLetter 34 = .ok (.putfield 23, 3) := by decide +kernel
theorem dDi_addLetter_37 : decode cDi_addLetter 37 = .ok (.aload_n 0, 1) := by decide +kernel
theorem dDi_addLetter_38 : decode cDi_addLetter 38 = .ok (.dup, 1) := by decide +kernel
theorem dDi_addLetter_39 : decode cDi_addLetter 39 = .ok (.getfield 27, 3) := by decide +kernel
theorem dDi_addLetter_42 : decode cDi_addLetter 42 = .ok (.iconst 1, 1) := by decide +kernel
theorem dDi_addLetter_43 : decode cDi_addLetter 43 = .ok (.iadd, 1) := by decide +kernel
theorem dDi_addLetter_44 : decode cDi_addLetter 44 = .ok (.putfield 27, 3) := by decide +kernel
theorem dDi_addLetter_47 : decode cDi_addLetter 47 = .ok (.iconst 1, 1) := by decide +kernel
theorem dDi_addLetter_48 : decode cDi_addLetter 48 = .ok (.ireturn, 1) := by decide +kernel
theorem dDi_takeIn_0 : decode cDi_takeIn 0 = .ok (.aload_n 0, 1) := by decide +kernel
theorem dDi_takeIn_1 : decode cDi_takeIn 1 = .ok (.getfield 27, 3) := by decide +kernel
theorem dDi_takeIn_4 : decode cDi_takeIn 4 = .ok (.ifCond .ne 5, 3) := by decide +kernel
theorem dDi_takeIn_7 : decode cDi_takeIn 7 = .ok (.iconst (-1), 1) := by decide +kernel
theorem dDi_takeIn_8 : decode cDi_takeIn 8 = .ok (.ireturn, 1) := by decide +kernel
theorem dDi_takeIn_9 : decode cDi_takeIn 9 = .ok (.aload_n 0, 1) := by decide +kernel
theorem dDi_takeIn_10 : decode cDi_takeIn 10 = .ok (.invokevirtual 30, 3) := by decide +kernel
theorem dDi_takeIn_13 : decode cDi_takeIn 13 = .ok (.istore_n 1, 1) := by decide +kernel
theorem dDi_takeIn_14 : decode cDi_takeIn 14 = .ok (.iload_n 1, 1) := by decide +kernel
theorem dDi_takeIn_15 : decode cDi_takeIn 15 = .ok (.iconst (-1), 1) := by decide +kernel
theorem dDi_takeIn_16 : decode cDi_takeIn 16 = .ok (.if_icmp .ne 50, 3) := by decide +kernel
theorem dDi_takeIn_19 : decode cDi_takeIn 19 = .ok (.aload_n 0, 1) := by decide +kernel
theorem dDi_takeIn_20 : decode cDi_takeIn 20 = .ok (.getfield 19, 3) := by decide +kernel
theorem dDi_takeIn_23 : decode cDi_takeIn 23 = .ok (.bipush 24, 2) := by decide +kernel
theorem dDi_takeIn_25 : decode cDi_takeIn 25 = .ok (.if_icmp .lt 6, 3) := by decide +kernel
theorem dDi_takeIn_28 : decode cDi_takeIn 28 = .ok (.bipush (-2), 2) := by decide +kernel
theorem dDi_takeIn_30 : decode cDi_takeIn 30 = .ok (.ireturn, 1) := by decide +kernel
theorem dDi_takeIn_31 : decode cDi_takeIn 31 = .ok (.aload_n 0, 1) := by decide +kernel
theorem dDi_takeIn_32 : decode cDi_takeIn 32 = .ok (.getfield 19, 3) := by decide +kernel
theorem dDi_takeIn_35 : decode cDi_takeIn 35 = .ok (.istore_n 1, 1) := by decide +kernel
theorem dDi_takeIn_36 : decode cDi_takeIn 36 = .ok (.aload_n 0, 1) := by decide +kernel
theorem dDi_takeIn_37 : decode cDi_takeIn 37 = .ok (.getfield 9, 3) := by decide +kernel
theorem dDi_takeIn_40 : decode cDi_takeIn 40 = .ok (.iload_n 1, 1) := by decide +kernel
theorem dDi_takeIn_41 : decode cDi_takeIn 41 = .ok (.aload_n 0, 1) := by decide +kernel
theorem dDi_takeIn_42 : decode cDi_takeIn 42 = .ok (.getfield 23, 3) := by decide +kernel
theorem dDi_takeIn_45 : decode cDi_takeIn 45 = .ok (.lastore, 1) := by decide +kernel
theorem dDi_takeIn_46 : decode cDi_takeIn 46 = .ok (.aload_n 0, 1) := by decide +kernel
theorem dDi_takeIn_47 : decode cDi_takeIn 47 = .ok (.getfield 15, 3) := by decide +kernel
theorem dDi_takeIn_50 : decode cDi_takeIn 50 = .ok (.iload_n 1, 1) := by decide +kernel
theorem dDi_takeIn_51 : decode cDi_takeIn 51 = .ok (.aload_n 0, 1) := by decide +kernel
theorem dDi_takeIn_52 : decode cDi_takeIn 52 = .ok (.getfield 27, 3) := by decide +kernel
theorem dDi_takeIn_55 : decode cDi_takeIn 55 = .ok (.iastore, 1) := by decide +kernel
theorem dDi_takeIn_56 : decode cDi_takeIn 56 = .ok (.aload_n 0, 1) := by decide +kernel
theorem dDi_takeIn_57 : decode cDi_takeIn 57 = .ok (.dup, 1) := by decide +kernel
theorem dDi_takeIn_58 : decode cDi_takeIn 58 = .ok (.getfield 19, 3) := by decide +kernel
theorem dDi_takeIn_61 : decode cDi_takeIn 61 = .ok (.iconst 1, 1) := by decide +kernel
theorem dDi_takeIn_62 : decode cDi_takeIn 62 = .ok (.iadd, 1) := by decide +kernel
theorem dDi_takeIn_63 : decode cDi_takeIn 63 = .ok (.putfield 19, 3) := by decide +kernel
theorem dDi_takeIn_66 : decode cDi_takeIn 66 = .ok (.aload_n 0, 1) := by decide +kernel
theorem dDi_takeIn_67 : decode cDi_takeIn 67 = .ok (.lconst 0, 1) := by decide +kernel
theorem dDi_takeIn_68 : decode cDi_takeIn 68 = .ok (.putfield 23, 3) := by decide +kernel
theorem dDi_takeIn_71 : decode cDi_takeIn 71 = .ok (.aload_n 0, 1) := by decide +kernel
theorem dDi_takeIn_72 : decode cDi_takeIn 72 = .ok (.iconst 0, 1) := by decide +kernel
theorem dDi_takeIn_73 : decode cDi_takeIn 73 = .ok (.putfield 27, 3) := by decide +kernel
theorem dDi_takeIn_76 : decode cDi_takeIn 76 = .ok (.iload_n 1, 1) := by decide +kernel
theorem dDi_takeIn_77 : decode cDi_takeIn 77 = .ok (.ireturn, 1) := by decide +kernel
theorem dDi_numberOfBegun_0 : decode cDi_numberOfBegun 0 = .ok (.iconst 0, 1) := by decide +kernel
theorem dDi_numberOfBegun_1 : decode cDi_numberOfBegun 1 = .ok (.istore_n 1, 1) := by decide +kernel
theorem dDi_numberOfBegun_2 : decode cDi_numberOfBegun 2 = .ok (.iload_n 1, 1) := by decide +kernel
theorem dDi_numberOfBegun_3 : decode cDi_numberOfBegun 3 = .ok (.aload_n 0, 1) := by decide +kernel
theorem dDi_numberOfBegun_4 : decode cDi_numberOfBegun 4 = .ok (.getfield 19, 3) := by decide +kernel
theorem dDi_numberOfBegun_7 : decode cDi_numberOfBegun 7 = .ok (.if_icmp .ge 25, 3) := by decide +kernel
theorem dDi_numberOfBegun_10 : decode cDi_numberOfBegun 10 = .ok (.aload_n 0, 1) := by decide +kernel
theorem dDi_numberOfBegun_11 : decode cDi_numberOfBegun 11 = .ok (.getfield 9, 3) := by decide +kernel
theorem dDi_numberOfBegun_14 : decode cDi_numberOfBegun 14 = .ok (.iload_n 1, 1) := by decide +kernel
theorem dDi_numberOfBegun_15 : decode cDi_numberOfBegun 15 = .ok (.laload, 1) := by decide +kernel
theorem dDi_numberOfBegun_16 : decode cDi_numberOfBegun 16 = .ok (.aload_n 0, 1) := by decide +kernel
theorem dDi_numberOfBegun_17 : decode cDi_numberOfBegun 17 = .ok (.getfield 23, 3) := by decide +kernel
theorem dDi_numberOfBegun_20 : decode cDi_numberOfBegun 20 = .ok (.lcmp, 1) := by decide +kernel
theorem dDi_numberOfBegun_21 : decode cDi_numberOfBegun 21 = .ok (.ifCond .ne 5, 3) := by decide +kernel
theorem dDi_numberOfBegun_24 : decode cDi_numberOfBegun 24 = .ok (.iload_n 1, 1) := by decide +kernel
theorem dDi_numberOfBegun_25 : decode cDi_numberOfBegun 25 = .ok (.ireturn, 1) := by decide +kernel
theorem dDi_numberOfBegun_26 : decode cDi_numberOfBegun 26 = .ok (.iinc 1 1, 3) := by decide +kernel
theorem dDi_numberOfBegun_29 : decode cDi_numberOfBegun 29 = .ok (.goto (-27), 3) := by decide +kernel
theorem dDi_numberOfBegun_32 : decode cDi_numberOfBegun 32 = .ok (.iconst (-1), 1) := by decide +kernel
theorem dDi_numberOfBegun_33 : decode cDi_numberOfBegun 33 = .ok (.ireturn, 1) := by decide +kernel
theorem dDi_letterAt_0 : decode cDi_letterAt 0 = .ok (.aload_n 0, 1) := by decide +kernel
theorem dDi_letterAt_1 : decode cDi_letterAt 1 = .ok (.iload_n 1, 1) := by decide +kernel
theorem dDi_letterAt_2 : decode cDi_letterAt 2 = .ok (.invokevirtual 34, 3) := by decide +kernel
theorem dDi_letterAt_5 : decode cDi_letterAt 5 = .ok (.ifCond .eq 17, 3) := by decide +kernel
theorem dDi_letterAt_8 : decode cDi_letterAt 8 = .ok (.iload_n 2, 1) := by decide +kernel
theorem dDi_letterAt_9 : decode cDi_letterAt 9 = .ok (.ifCond .lt 13, 3) := by decide +kernel
theorem dDi_letterAt_12 : decode cDi_letterAt 12 = .ok (.iload_n 2, 1) := by decide +kernel
theorem dDi_letterAt_13 : decode cDi_letterAt 13 = .ok (.aload_n 0, 1) := by decide +kernel
theorem dDi_letterAt_14 : decode cDi_letterAt 14 = .ok (.getfield 15, 3) := by decide +kernel
theorem dDi_letterAt_17 : decode cDi_letterAt 17 = .ok (.iload_n 1, 1) := by decide +kernel
theorem dDi_letterAt_18 : decode cDi_letterAt 18 = .ok (.iaload, 1) := by decide +kernel
theorem dDi_letterAt_19 : decode cDi_letterAt 19 = .ok (.if_icmp .lt 5, 3) := by decide +kernel
theorem dDi_letterAt_22 : decode cDi_letterAt 22 = .ok (.iconst (-1), 1) := by decide +kernel
theorem dDi_letterAt_23 : decode cDi_letterAt 23 = .ok (.ireturn, 1) := by decide +kernel
theorem dDi_letterAt_24 : decode cDi_letterAt 24 = .ok (.bipush 7, 2) := by decide +kernel
theorem dDi_letterAt_26 : decode cDi_letterAt 26 = .ok (.aload_n 0, 1) := by decide +kernel
theorem dDi_letterAt_27 : decode cDi_letterAt 27 = .ok (.getfield 15, 3) := by decide +kernel
theorem dDi_letterAt_30 : decode cDi_letterAt 30 = .ok (.iload_n 1, 1) := by decide +kernel
theorem dDi_letterAt_31 : decode cDi_letterAt 31 = .ok (.iaload, 1) := by decide +kernel
theorem dDi_letterAt_32 : decode cDi_letterAt 32 = .ok (.iconst 1, 1) := by decide +kernel
theorem dDi_letterAt_33 : decode cDi_letterAt 33 = .ok (.isub, 1) := by decide +kernel
theorem dDi_letterAt_34 : decode cDi_letterAt 34 = .ok (.iload_n 2, 1) := by decide +kernel
theorem dDi_letterAt_35 : decode cDi_letterAt 35 = .ok (.isub, 1) := by decide +kernel
theorem dDi_letterAt_36 : decode cDi_letterAt 36 = .ok (.imul, 1) := by decide +kernel
theorem dDi_letterAt_37 : decode cDi_letterAt 37 = .ok (.istore_n 3, 1) := by decide +kernel
theorem dDi_letterAt_38 : decode cDi_letterAt 38 = .ok (.aload_n 0, 1) := by decide +kernel
theorem dDi_letterAt_39 : decode cDi_letterAt 39 = .ok (.getfield 9, 3) := by decide +kernel
theorem dDi_letterAt_42 : decode cDi_letterAt 42 = .ok (.iload_n 1, 1) := by decide +kernel
theorem dDi_letterAt_43 : decode cDi_letterAt 43 = .ok (.laload, 1) := by decide +kernel
theorem dDi_letterAt_44 : decode cDi_letterAt 44 = .ok (.iload_n 3, 1) := by decide +kernel
theorem dDi_letterAt_45 : decode cDi_letterAt 45 = .ok (.lshr, 1) := by decide +kernel
theorem dDi_letterAt_46 : decode cDi_letterAt 46 = .ok (.l2i, 1) := by decide +kernel
theorem dDi_letterAt_47 : decode cDi_letterAt 47 = .ok (.bipush 127, 2) := by decide +kernel
theorem dDi_letterAt_49 : decode cDi_letterAt 49 = .ok (.iand, 1) := by decide +kernel
theorem dDi_letterAt_50 : decode cDi_letterAt 50 = .ok (.ireturn, 1) := by decide +kernel
theorem dOr_init_0 : decode cOr_init 0 = .ok (.aload_n 0, 1) := by decide +kernel
theorem dOr_init_1 : decode cOr_init 1 = .ok (.invokespecial 3, 3) := by decide +kernel
theorem dOr_init_4 : decode cOr_init 4 = .ok (.aload_n 0, 1) := by decide +kernel
theorem dOr_init_5 : decode cOr_init 5 = .ok (.iload_n 1, 1) := by decide +kernel
theorem dOr_init_6 : decode cOr_init 6 = .ok (.putfield 9, 3) := by decide +kernel
theorem dOr_init_9 : decode cOr_init 9 = .ok (.aload_n 0, 1) := by decide +kernel
theorem dOr_init_10 : decode cOr_init 10 = .ok (.iload_n 2, 1) := by decide +kernel
theorem dOr_init_11 : decode cOr_init 11 = .ok (.putfield 15, 3) := by decide +kernel
theorem dOr_init_14 : decode cOr_init 14 = .ok (.aload_n 0, 1) := by decide +kernel
theorem dOr_init_15 : decode cOr_init 15 = .ok (.iload_n 3, 1) := by decide +kernel
theorem dOr_init_16 : decode cOr_init 16 = .ok (.putfield 18, 3) := by decide +kernel
theorem dOr_init_19 : decode cOr_init 19 = .ok (.aload_n 0, 1) := by decide +kernel
theorem dOr_init_20 : decode cOr_init 20 = .ok (.bipush 60, 2) := by decide +kernel
theorem dOr_init_22 : decode cOr_init 22 = .ok (.newarray .int, 2) := by decide +kernel
theorem dOr_init_24 : decode cOr_init 24 = .ok (.putfield 21, 3) := by decide +kernel
theorem dOr_init_27 : decode cOr_init 27 = .ok (.aload_n 0, 1) := by decide +kernel
theorem dOr_init_28 : decode cOr_init 28 = .ok (.iconst 0, 1) := by decide +kernel
theorem dOr_init_29 : decode cOr_init 29 = .ok (.putfield 25, 3) := by decide +kernel
theorem dOr_init_32 : decode cOr_init 32 = .ok (.return_, 1) := by decide +kernel
theorem dOr_keyOf_0 : decode cOr_keyOf 0 = .ok (.iload_n 1, 1) := by decide +kernel
theorem dOr_keyOf_1 : decode cOr_keyOf 1 = .ok (.aload_n 0, 1) := by decide +kernel
theorem dOr_keyOf_2 : decode cOr_keyOf 2 = .ok (.getfield 9, 3) := by decide +kernel
theorem dOr_keyOf_5 : decode cOr_keyOf 5 = .ok (.invokestatic 28, 3) := by decide +kernel
theorem dOr_keyOf_8 : decode cOr_keyOf 8 = .ok (.iload_n 1, 1) := by decide +kernel
theorem dOr_keyOf_9 : decode cOr_keyOf 9 = .ok (.aload_n 0, 1) := by decide +kernel
theorem dOr_keyOf_10 : decode cOr_keyOf 10 = .ok (.getfield 15, 3) := by decide +kernel
theorem dOr_keyOf_13 : decode cOr_keyOf 13 = .ok (.invokestatic 28, 3) := by decide +kernel
theorem dOr_keyOf_16 : decode cOr_keyOf 16 = .ok (.iload_n 1, 1) := by decide +kernel
theorem dOr_keyOf_17 : decode cOr_keyOf 17 = .ok (.aload_n 0, 1) := by decide +kernel
theorem dOr_keyOf_18 : decode cOr_keyOf 18 = .ok (.getfield 18, 3) := by decide +kernel
theorem dOr_keyOf_21 : decode cOr_keyOf 21 = .ok (.invokestatic 28, 3) := by decide +kernel
theorem dOr_keyOf_24 : decode cOr_keyOf 24 = .ok (.invokestatic 32, 3) := by decide +kernel
theorem dOr_keyOf_27 : decode cOr_keyOf 27 = .ok (.ireturn, 1) := by decide +kernel
theorem dOr_rankOf_0 : decode cOr_rankOf 0 = .ok (.iconst 0, 1) := by decide +kernel
theorem dOr_rankOf_1 : decode cOr_rankOf 1 = .ok (.istore_n 2, 1) := by decide +kernel
theorem dOr_rankOf_2 : decode cOr_rankOf 2 = .ok (.iload_n 2, 1) := by decide +kernel
theorem dOr_rankOf_3 : decode cOr_rankOf 3 = .ok (.aload_n 0, 1) := by decide +kernel
theorem dOr_rankOf_4 : decode cOr_rankOf 4 = .ok (.getfield 25, 3) := by decide +kernel
theorem dOr_rankOf_7 : decode cOr_rankOf 7 = .ok (.if_icmp .ge 19, 3) := by decide +kernel
theorem dOr_rankOf_10 : decode cOr_rankOf 10 = .ok (.aload_n 0, 1) := by decide +kernel
theorem dOr_rankOf_11 : decode cOr_rankOf 11 = .ok (.getfield 21, 3) := by decide +kernel
theorem dOr_rankOf_14 : decode cOr_rankOf 14 = .ok (.iload_n 2, 1) := by decide +kernel
theorem dOr_rankOf_15 : decode cOr_rankOf 15 = .ok (.iaload, 1) := by decide +kernel
theorem dOr_rankOf_16 : decode cOr_rankOf 16 = .ok (.iload_n 1, 1) := by decide +kernel
theorem dOr_rankOf_17 : decode cOr_rankOf 17 = .ok (.if_icmp .ge 9, 3) := by decide +kernel
theorem dOr_rankOf_20 : decode cOr_rankOf 20 = .ok (.iinc 2 1, 3) := by decide +kernel
theorem dOr_rankOf_23 : decode cOr_rankOf 23 = .ok (.goto (-21), 3) := by decide +kernel
theorem dOr_rankOf_26 : decode cOr_rankOf 26 = .ok (.iload_n 2, 1) := by decide +kernel
theorem dOr_rankOf_27 : decode cOr_rankOf 27 = .ok (.ireturn, 1) := by decide +kernel
theorem dOr_holds_0 : decode cOr_holds 0 = .ok (.aload_n 0, 1) := by decide +kernel
theorem dOr_holds_1 : decode cOr_holds 1 = .ok (.iload_n 1, 1) := by decide +kernel
theorem dOr_holds_2 : decode cOr_holds 2 = .ok (.invokevirtual 36, 3) := by decide +kernel
theorem dOr_holds_5 : decode cOr_holds 5 = .ok (.istore_n 2, 1) := by decide +kernel
theorem dOr_holds_6 : decode cOr_holds 6 = .ok (.aload_n 0, 1) := by decide +kernel
theorem dOr_holds_7 : decode cOr_holds 7 = .ok (.iload_n 2, 1) := by decide +kernel
theorem dOr_holds_8 : decode cOr_holds 8 = .ok (.invokevirtual 40, 3) := by decide +kernel
theorem dOr_holds_11 : decode cOr_holds 11 = .ok (.istore_n 3, 1) := by decide +kernel
theorem dOr_holds_12 : decode cOr_holds 12 = .ok (.iload_n 3, 1) := by decide +kernel
theorem dOr_holds_13 : decode cOr_holds 13 = .ok (.aload_n 0, 1) := by decide +kernel
theorem dOr_holds_14 : decode cOr_holds 14 = .ok (.getfield 25, 3) := by decide +kernel
theorem dOr_holds_17 : decode cOr_holds 17 = .ok (.if_icmp .ge 17, 3) := by decide +kernel
theorem dOr_holds_20 : decode cOr_holds 20 = .ok (.aload_n 0, 1) := by decide +kernel
theorem dOr_holds_21 : decode cOr_holds 21 = .ok (.getfield 21, 3) := by decide +kernel
theorem dOr_holds_24 : decode cOr_holds 24 = .ok (.iload_n 3, 1) := by decide +kernel
theorem dOr_holds_25 : decode cOr_holds 25 = .ok (.iaload, 1) := by decide +kernel
theorem dOr_holds_26 : decode cOr_holds 26 = .ok (.iload_n 2, 1) := by decide +kernel
theorem dOr_holds_27 : decode cOr_holds 27 = .ok (.if_icmp .ne 7, 3) := by decide +kernel
theorem dOr_holds_30 : decode cOr_holds 30 = .ok (.iconst 1, 1) := by decide +kernel
theorem dOr_holds_31 : decode cOr_holds 31 = .ok (.goto 4, 3) := by decide +kernel
theorem dOr_holds_34 : decode cOr_holds 34 = .ok (.iconst 0, 1) := by decide +kernel
theorem dOr_holds_35 : decode cOr_holds 35 = .ok (.ireturn, 1) := by decide +kernel
theorem dOr_codeAt_0 : decode cOr_codeAt 0 = .ok (.iload_n 1, 1) := by decide +kernel
theorem dOr_codeAt_1 : decode cOr_codeAt 1 = .ok (.ifCond .lt 11, 3) := by decide +kernel
theorem dOr_codeAt_4 : decode cOr_codeAt 4 = .ok (.iload_n 1, 1) := by decide +kernel
theorem dOr_codeAt_5 : decode cOr_codeAt 5 = .ok (.aload_n 0, 1) := by decide +kernel
theorem dOr_codeAt_6 : decode cOr_codeAt 6 = .ok (.getfield 25, 3) := by decide +kernel
theorem dOr_codeAt_9 : decode cOr_codeAt 9 = .ok (.if_icmp .lt 5, 3) := by decide +kernel
theorem dOr_codeAt_12 : decode cOr_codeAt 12 = .ok (.iconst (-1), 1) := by decide +kernel
theorem dOr_codeAt_13 : decode cOr_codeAt 13 = .ok (.ireturn, 1) := by decide +kernel
theorem dOr_codeAt_14 : decode cOr_codeAt 14 = .ok (.aload_n 0, 1) := by decide +kernel
theorem dOr_codeAt_15 : decode cOr_codeAt 15 = .ok (.getfield 21, 3) := by decide +kernel
theorem dOr_codeAt_18 : decode cOr_codeAt 18 = .ok (.iload_n 1, 1) := by decide +kernel
theorem dOr_codeAt_19 : decode cOr_codeAt 19 = .ok (.iaload, 1) := by decide +kernel
theorem dOr_codeAt_20 : decode cOr_codeAt 20 = .ok (.istore_n 2, 1) := by decide +kernel
theorem dOr_codeAt_21 : decode cOr_codeAt 21 = .ok (.iload_n 2, 1) := by decide +kernel
theorem dOr_codeAt_22 : decode cOr_codeAt 22 = .ok (.iconst 0, 1) := by decide +kernel
theorem dOr_codeAt_23 : decode cOr_codeAt 23 = .ok (.invokestatic 28, 3) := by decide +kernel
theorem dOr_codeAt_26 : decode cOr_codeAt 26 = .ok (.aload_n 0, 1) := by decide +kernel
theorem dOr_codeAt_27 : decode cOr_codeAt 27 = .ok (.getfield 9, 3) := by decide +kernel
theorem dOr_codeAt_30 : decode cOr_codeAt 30 = .ok (.invokestatic 43, 3) := by decide +kernel
theorem dOr_codeAt_33 : decode cOr_codeAt 33 = .ok (.ishl, 1) := by decide +kernel
theorem dOr_codeAt_34 : decode cOr_codeAt 34 = .ok (.iload_n 2, 1) := by decide +kernel
theorem dOr_codeAt_35 : decode cOr_codeAt 35 = .ok (.iconst 1, 1) := by decide +kernel
theorem dOr_codeAt_36 : decode cOr_codeAt 36 = .ok (.invokestatic 28, 3) := by decide +kernel
theorem dOr_codeAt_39 : decode cOr_codeAt 39 = .ok (.aload_n 0, 1) := by decide +kernel
theorem dOr_codeAt_40 : decode cOr_codeAt 40 = .ok (.getfield 15, 3) := by decide +kernel
theorem dOr_codeAt_43 : decode cOr_codeAt 43 = .ok (.invokestatic 43, 3) := by decide +kernel
theorem dOr_codeAt_46 : decode cOr_codeAt 46 = .ok (.ishl, 1) := by decide +kernel
theorem dOr_codeAt_47 : decode cOr_codeAt 47 = .ok (.ior, 1) := by decide +kernel
theorem dOr_codeAt_48 : decode cOr_codeAt 48 = .ok (.iload_n 2, 1) := by decide +kernel
theorem dOr_codeAt_49 : decode cOr_codeAt 49 = .ok (.iconst 2, 1) := by decide +kernel
theorem dOr_codeAt_50 : decode cOr_codeAt 50 = .ok (.invokestatic 28, 3) := by decide +kernel
theorem dOr_codeAt_53 : decode cOr_codeAt 53 = .ok (.aload_n 0, 1) := by decide +kernel
theorem dOr_codeAt_54 : decode cOr_codeAt 54 = .ok (.getfield 18, 3) := by decide +kernel
theorem dOr_codeAt_57 : decode cOr_codeAt 57 = .ok (.invokestatic 43, 3) := by decide +kernel
theorem dOr_codeAt_60 : decode cOr_codeAt 60 = .ok (.ishl, 1) := by decide +kernel
theorem dOr_codeAt_61 : decode cOr_codeAt 61 = .ok (.ior, 1) := by decide +kernel
theorem dOr_codeAt_62 : decode cOr_codeAt 62 = .ok (.ireturn, 1) := by decide +kernel
theorem dOr_put_0 : decode cOr_put 0 = .ok (.aload_n 0, 1) := by decide +kernel
theorem dOr_put_1 : decode cOr_put 1 = .ok (.getfield 25, 3) := by decide +kernel
theorem dOr_put_4 : decode cOr_put 4 = .ok (.bipush 60, 2) := by decide +kernel
theorem dOr_put_6 : decode cOr_put 6 = .ok (.if_icmp .lt 4, 3) := by decide +kernel
theorem dOr_put_9 : decode cOr_put 9 = .ok (.return_, 1) := by decide +kernel
theorem dOr_put_10 : decode cOr_put 10 = .ok (.aload_n 0, 1) := by decide +kernel
theorem dOr_put_11 : decode cOr_put 11 = .ok (.iload_n 1, 1) := by decide +kernel
theorem dOr_put_12 : decode cOr_put 12 = .ok (.invokevirtual 36, 3) := by decide +kernel
theorem dOr_put_15 : decode cOr_put 15 = .ok (.istore_n 2, 1) := by decide +kernel
theorem dOr_put_16 : decode cOr_put 16 = .ok (.aload_n 0, 1) := by decide +kernel
theorem dOr_put_17 : decode cOr_put 17 = .ok (.iload_n 2, 1) := by decide +kernel
theorem dOr_put_18 : decode cOr_put 18 = .ok (.invokevirtual 40, 3) := by decide +kernel
theorem dOr_put_21 : decode cOr_put 21 = .ok (.istore_n 3, 1) := by decide +kernel
theorem dOr_put_22 : decode cOr_put 22 = .ok (.aload_n 0, 1) := by decide +kernel
theorem dOr_put_23 : decode cOr_put 23 = .ok (.getfield 21, 3) := by decide +kernel
theorem dOr_put_26 : decode cOr_put 26 = .ok (.iload_n 3, 1) := by decide +kernel
theorem dOr_put_27 : decode cOr_put 27 = .ok (.aload_n 0, 1) := by decide +kernel
theorem dOr_put_28 : decode cOr_put 28 = .ok (.getfield 21, 3) := by decide +kernel
theorem dOr_put_31 : decode cOr_put 31 = .ok (.iload_n 3, 1) := by decide +kernel
theorem dOr_put_32 : decode cOr_put 32 = .ok (.iconst 1, 1) := by decide +kernel
theorem dOr_put_33 : decode cOr_put 33 = .ok (.iadd, 1) := by decide +kernel
theorem dOr_put_34 : decode cOr_put 34 = .ok (.aload_n 0, 1) := by decide +kernel
theorem dOr_put_35 : decode cOr_put 35 = .ok (.getfield 25, 3) := by decide +kernel
theorem dOr_put_38 : decode cOr_put 38 = .ok (.iload_n 3, 1) := by decide +kernel
theorem dOr_put_39 : decode cOr_put 39 = .ok (.isub, 1) := by decide +kernel
theorem dOr_put_40 : decode cOr_put 40 = .ok (.invokestatic 46, 3) := by decide +kernel
theorem dOr_put_43 : decode cOr_put 43 = .ok (.aload_n 0, 1) := by decide +kernel
theorem dOr_put_44 : decode cOr_put 44 = .ok (.getfield 21, 3) := by decide +kernel
theorem dOr_put_47 : decode cOr_put 47 = .ok (.iload_n 3, 1) := by decide +kernel
theorem dOr_put_48 : decode cOr_put 48 = .ok (.iload_n 2, 1) := by decide +kernel
theorem dOr_put_49 : decode cOr_put 49 = .ok (.iastore, 1) := by decide +kernel
theorem dOr_put_50 : decode cOr_put 50 = .ok (.aload_n 0, 1) := by decide +kernel
theorem dOr_put_51 : decode cOr_put 51 = .ok (.dup, 1) := by decide +kernel
theorem dOr_put_52 : decode cOr_put 52 = .ok (.getfield 25, 3) := by decide +kernel
theorem dOr_put_55 : decode cOr_put 55 = .ok (.iconst 1, 1) := by decide +kernel
theorem dOr_put_56 : decode cOr_put 56 = .ok (.iadd, 1) := by decide +kernel
theorem dOr_put_57 : decode cOr_put 57 = .ok (.putfield 25, 3) := by decide +kernel
theorem dOr_put_60 : decode cOr_put 60 = .ok (.return_, 1) := by decide +kernel
theorem dOr_take_0 : decode cOr_take 0 = .ok (.aload_n 0, 1) := by decide +kernel
theorem dOr_take_1 : decode cOr_take 1 = .ok (.iload_n 1, 1) := by decide +kernel
theorem dOr_take_2 : decode cOr_take 2 = .ok (.invokevirtual 36, 3) := by decide +kernel
theorem dOr_take_5 : decode cOr_take 5 = .ok (.istore_n 2, 1) := by decide +kernel
theorem dOr_take_6 : decode cOr_take 6 = .ok (.aload_n 0, 1) := by decide +kernel
theorem dOr_take_7 : decode cOr_take 7 = .ok (.iload_n 2, 1) := by decide +kernel
theorem dOr_take_8 : decode cOr_take 8 = .ok (.invokevirtual 40, 3) := by decide +kernel
theorem dOr_take_11 : decode cOr_take 11 = .ok (.istore_n 3, 1) := by decide +kernel
theorem dOr_take_12 : decode cOr_take 12 = .ok (.iload_n 3, 1) := by decide +kernel
theorem dOr_take_13 : decode cOr_take 13 = .ok (.aload_n 0, 1) := by decide +kernel
theorem dOr_take_14 : decode cOr_take 14 = .ok (.getfield 25, 3) := by decide +kernel
theorem dOr_take_17 : decode cOr_take 17 = .ok (.if_icmp .ge 13, 3) := by decide +kernel
theorem dOr_take_20 : decode cOr_take 20 = .ok (.aload_n 0, 1) := by decide +kernel
theorem dOr_take_21 : decode cOr_take 21 = .ok (.getfield 21, 3) := by decide +kernel
theorem dOr_take_24 : decode cOr_take 24 = .ok (.iload_n 3, 1) := by decide +kernel
theorem dOr_take_25 : decode cOr_take 25 = .ok (.iaload, 1) := by decide +kernel
theorem dOr_take_26 : decode cOr_take 26 = .ok (.iload_n 2, 1) := by decide +kernel
theorem dOr_take_27 : decode cOr_take 27 = .ok (.if_icmp .eq 4, 3) := by decide +kernel
theorem dOr_take_30 : decode cOr_take 30 = .ok (.return_, 1) := by decide +kernel
theorem dOr_take_31 : decode cOr_take 31 = .ok (.aload_n 0, 1) := by decide +kernel
theorem dOr_take_32 : decode cOr_take 32 = .ok (.getfield 21, 3) := by decide +kernel
theorem dOr_take_35 : decode cOr_take 35 = .ok (.iload_n 3, 1) := by decide +kernel
theorem dOr_take_36 : decode cOr_take 36 = .ok (.iconst 1, 1) := by decide +kernel
theorem dOr_take_37 : decode cOr_take 37 = .ok (.iadd, 1) := by decide +kernel
theorem dOr_take_38 : decode cOr_take 38 = .ok (.aload_n 0, 1) := by decide +kernel
theorem dOr_take_39 : decode cOr_take 39 = .ok (.getfield 21, 3) := by decide +kernel
theorem dOr_take_42 : decode cOr_take 42 = .ok (.iload_n 3, 1) := by decide +kernel
theorem dOr_take_43 : decode cOr_take 43 = .ok (.aload_n 0, 1) := by decide +kernel
theorem dOr_take_44 : decode cOr_take 44 = .ok (.getfield 25, 3) := by decide +kernel
theorem dOr_take_47 : decode cOr_take 47 = .ok (.iload_n 3, 1) := by decide +kernel
theorem dOr_take_48 : decode cOr_take 48 = .ok (.isub, 1) := by decide +kernel
theorem dOr_take_49 : decode cOr_take 49 = .ok (.iconst 1, 1) := by decide +kernel
theorem dOr_take_50 : decode cOr_take 50 = .ok (.isub, 1) := by decide +kernel
theorem dOr_take_51 : decode cOr_take 51 = .ok (.invokestatic 46, 3) := by decide +kernel
theorem dOr_take_54 : decode cOr_take 54 = .ok (.aload_n 0, 1) := by decide +kernel
theorem dOr_take_55 : decode cOr_take 55 = .ok (.dup, 1) := by decide +kernel
theorem dOr_take_56 : decode cOr_take 56 = .ok (.getfield 25, 3) := by decide +kernel
theorem dOr_take_59 : decode cOr_take 59 = .ok (.iconst 1, 1) := by decide +kernel
theorem dOr_take_60 : decode cOr_take 60 = .ok (.isub, 1) := by decide +kernel
theorem dOr_take_61 : decode cOr_take 61 = .ok (.putfield 25, 3) := by decide +kernel
theorem dOr_take_64 : decode cOr_take 64 = .ok (.return_, 1) := by decide +kernel
theorem dOr_copyFrom_0 : decode cOr_copyFrom 0 = .ok (.aload_n 1, 1) := by decide +kernel
theorem dOr_copyFrom_1 : decode cOr_copyFrom 1 = .ok (.getfield 21, 3) := by decide +kernel
theorem dOr_copyFrom_4 : decode cOr_copyFrom 4 = .ok (.iconst 0, 1) := by decide +kernel
theorem dOr_copyFrom_5 : decode cOr_copyFrom 5 = .ok (.aload_n 0, 1) := by decide +kernel
theorem dOr_copyFrom_6 : decode cOr_copyFrom 6 = .ok (.getfield 21, 3) := by decide +kernel
theorem dOr_copyFrom_9 : decode cOr_copyFrom 9 = .ok (.iconst 0, 1) := by decide +kernel
theorem dOr_copyFrom_10 : decode cOr_copyFrom 10 = .ok (.aload_n 1, 1) := by decide +kernel
theorem dOr_copyFrom_11 : decode cOr_copyFrom 11 = .ok (.getfield 25, 3) := by decide +kernel
theorem dOr_copyFrom_14 : decode cOr_copyFrom 14 = .ok (.invokestatic 46, 3) := by decide +kernel
theorem dOr_copyFrom_17 : decode cOr_copyFrom 17 = .ok (.aload_n 0, 1) := by decide +kernel
theorem dOr_copyFrom_18 : decode cOr_copyFrom 18 = .ok (.aload_n 1, 1) := by decide +kernel
theorem dOr_copyFrom_19 : decode cOr_copyFrom 19 = .ok (.getfield 25, 3) := by decide +kernel
theorem dOr_copyFrom_22 : decode cOr_copyFrom 22 = .ok (.putfield 25, 3) := by decide +kernel
theorem dOr_copyFrom_25 : decode cOr_copyFrom 25 = .ok (.return_, 1) := by decide +kernel
theorem dQu_init_0 : decode cQu_init 0 = .ok (.aload_n 0, 1) := by decide +kernel
theorem dQu_init_1 : decode cQu_init 1 = .ok (.invokespecial 3, 3) := by decide +kernel
theorem dQu_init_4 : decode cQu_init 4 = .ok (.aload_n 0, 1) := by decide +kernel
theorem dQu_init_5 : decode cQu_init 5 = .ok (.bipush 12, 2) := by decide +kernel
theorem dQu_init_7 : decode cQu_init 7 = .ok (.newarray .int, 2) := by decide +kernel
theorem dQu_init_9 : decode cQu_init 9 = .ok (.putfield 9, 3) := by decide +kernel
theorem dQu_init_12 : decode cQu_init 12 = .ok (.aload_n 0, 1) := by decide +kernel
theorem dQu_init_13 : decode cQu_init 13 = .ok (.iconst 0, 1) := by decide +kernel
theorem dQu_init_14 : decode cQu_init 14 = .ok (.putfield 15, 3) := by decide +kernel
theorem dQu_init_17 : decode cQu_init 17 = .ok (.return_, 1) := by decide +kernel
theorem dQu_isFull_0 : decode cQu_isFull 0 = .ok (.aload_n 0, 1) := by decide +kernel
theorem dQu_isFull_1 : decode cQu_isFull 1 = .ok (.getfield 15, 3) := by decide +kernel
theorem dQu_isFull_4 : decode cQu_isFull 4 = .ok (.iconst 4, 1) := by decide +kernel
theorem dQu_isFull_5 : decode cQu_isFull 5 = .ok (.if_icmp .lt 7, 3) := by decide +kernel
theorem dQu_isFull_8 : decode cQu_isFull 8 = .ok (.iconst 1, 1) := by decide +kernel
theorem dQu_isFull_9 : decode cQu_isFull 9 = .ok (.goto 4, 3) := by decide +kernel
theorem dQu_isFull_12 : decode cQu_isFull 12 = .ok (.iconst 0, 1) := by decide +kernel
theorem dQu_isFull_13 : decode cQu_isFull 13 = .ok (.ireturn, 1) := by decide +kernel
theorem dQu_add_0 : decode cQu_add 0 = .ok (.aload_n 0, 1) := by decide +kernel
theorem dQu_add_1 : decode cQu_add 1 = .ok (.getfield 15, 3) := by decide +kernel
theorem dQu_add_4 : decode cQu_add 4 = .ok (.iconst 3, 1) := by decide +kernel
theorem dQu_add_5 : decode cQu_add 5 = .ok (.imul, 1) := by decide +kernel
theorem dQu_add_6 : decode cQu_add 6 = .ok (.istore 4, 2) := by decide +kernel
theorem dQu_add_8 : decode cQu_add 8 = .ok (.aload_n 0, 1) := by decide +kernel
theorem dQu_add_9 : decode cQu_add 9 = .ok (.getfield 9, 3) := by decide +kernel
theorem dQu_add_12 : decode cQu_add 12 = .ok (.iload 4, 2) := by decide +kernel
theorem dQu_add_14 : decode cQu_add 14 = .ok (.iload_n 1, 1) := by decide +kernel
theorem dQu_add_15 : decode cQu_add 15 = .ok (.iastore, 1) := by decide +kernel
theorem dQu_add_16 : decode cQu_add 16 = .ok (.aload_n 0, 1) := by decide +kernel
theorem dQu_add_17 : decode cQu_add 17 = .ok (.getfield 9, 3) := by decide +kernel
theorem dQu_add_20 : decode cQu_add 20 = .ok (.iload 4, 2) := by decide +kernel
theorem dQu_add_22 : decode cQu_add 22 = .ok (.iconst 1, 1) := by decide +kernel
theorem dQu_add_23 : decode cQu_add 23 = .ok (.iadd, 1) := by decide +kernel
theorem dQu_add_24 : decode cQu_add 24 = .ok (.iload_n 2, 1) := by decide +kernel
theorem dQu_add_25 : decode cQu_add 25 = .ok (.iastore, 1) := by decide +kernel
theorem dQu_add_26 : decode cQu_add 26 = .ok (.aload_n 0, 1) := by decide +kernel
theorem dQu_add_27 : decode cQu_add 27 = .ok (.getfield 9, 3) := by decide +kernel
theorem dQu_add_30 : decode cQu_add 30 = .ok (.iload 4, 2) := by decide +kernel
theorem dQu_add_32 : decode cQu_add 32 = .ok (.iconst 2, 1) := by decide +kernel
theorem dQu_add_33 : decode cQu_add 33 = .ok (.iadd, 1) := by decide +kernel
theorem dQu_add_34 : decode cQu_add 34 = .ok (.iload_n 3, 1) := by decide +kernel
theorem dQu_add_35 : decode cQu_add 35 = .ok (.iastore, 1) := by decide +kernel
theorem dQu_add_36 : decode cQu_add 36 = .ok (.aload_n 0, 1) := by decide +kernel
theorem dQu_add_37 : decode cQu_add 37 = .ok (.dup, 1) := by decide +kernel
theorem dQu_add_38 : decode cQu_add 38 = .ok (.getfield 15, 3) := by decide +kernel
theorem dQu_add_41 : decode cQu_add 41 = .ok (.iconst 1, 1) := by decide +kernel
theorem dQu_add_42 : decode cQu_add 42 = .ok (.iadd, 1) := by decide +kernel
theorem dQu_add_43 : decode cQu_add 43 = .ok (.putfield 15, 3) := by decide +kernel
theorem dQu_add_46 : decode cQu_add 46 = .ok (.return_, 1) := by decide +kernel
theorem dQu_placeOf_0 : decode cQu_placeOf 0 = .ok (.iconst 0, 1) := by decide +kernel
theorem dQu_placeOf_1 : decode cQu_placeOf 1 = .ok (.istore_n 3, 1) := by decide +kernel
theorem dQu_placeOf_2 : decode cQu_placeOf 2 = .ok (.iload_n 3, 1) := by decide +kernel
theorem dQu_placeOf_3 : decode cQu_placeOf 3 = .ok (.iconst 3, 1) := by decide +kernel
theorem dQu_placeOf_4 : decode cQu_placeOf 4 = .ok (.if_icmp .ge 25, 3) := by decide +kernel
theorem dQu_placeOf_7 : decode cQu_placeOf 7 = .ok (.aload_n 0, 1) := by decide +kernel
theorem dQu_placeOf_8 : decode cQu_placeOf 8 = .ok (.getfield 9, 3) := by decide +kernel
theorem dQu_placeOf_11 : decode cQu_placeOf 11 = .ok (.iload_n 1, 1) := by decide +kernel
theorem dQu_placeOf_12 : decode cQu_placeOf 12 = .ok (.iconst 3, 1) := by decide +kernel
theorem dQu_placeOf_13 : decode cQu_placeOf 13 = .ok (.imul, 1) := by decide +kernel
theorem dQu_placeOf_14 : decode cQu_placeOf 14 = .ok (.iload_n 3, 1) := by decide +kernel
theorem dQu_placeOf_15 : decode cQu_placeOf 15 = .ok (.iadd, 1) := by decide +kernel
theorem dQu_placeOf_16 : decode cQu_placeOf 16 = .ok (.iaload, 1) := by decide +kernel
theorem dQu_placeOf_17 : decode cQu_placeOf 17 = .ok (.iload_n 2, 1) := by decide +kernel
theorem dQu_placeOf_18 : decode cQu_placeOf 18 = .ok (.if_icmp .ne 5, 3) := by decide +kernel
theorem dQu_placeOf_21 : decode cQu_placeOf 21 = .ok (.iload_n 3, 1) := by decide +kernel
theorem dQu_placeOf_22 : decode cQu_placeOf 22 = .ok (.ireturn, 1) := by decide +kernel
theorem dQu_placeOf_23 : decode cQu_placeOf 23 = .ok (.iinc 3 1, 3) := by decide +kernel
theorem dQu_placeOf_26 : decode cQu_placeOf 26 = .ok (.goto (-24), 3) := by decide +kernel
theorem dQu_placeOf_29 : decode cQu_placeOf 29 = .ok (.iconst (-1), 1) := by decide +kernel
theorem dQu_placeOf_30 : decode cQu_placeOf 30 = .ok (.ireturn, 1) := by decide +kernel
theorem dQu_agrees_0 : decode cQu_agrees 0 = .ok (.iconst 0, 1) := by decide +kernel
theorem dQu_agrees_1 : decode cQu_agrees 1 = .ok (.istore_n 3, 1) := by decide +kernel
theorem dQu_agrees_2 : decode cQu_agrees 2 = .ok (.iload_n 3, 1) := by decide +kernel
theorem dQu_agrees_3 : decode cQu_agrees 3 = .ok (.iconst 3, 1) := by decide +kernel
theorem dQu_agrees_4 : decode cQu_agrees 4 = .ok (.if_icmp .ge 59, 3) := by decide +kernel
theorem dQu_agrees_7 : decode cQu_agrees 7 = .ok (.aload_n 0, 1) := by decide +kernel
theorem dQu_agrees_8 : decode cQu_agrees 8 = .ok (.getfield 9, 3) := by decide +kernel
theorem dQu_agrees_11 : decode cQu_agrees 11 = .ok (.iload_n 1, 1) := by decide +kernel
theorem dQu_agrees_12 : decode cQu_agrees 12 = .ok (.iconst 3, 1) := by decide +kernel
theorem dQu_agrees_13 : decode cQu_agrees 13 = .ok (.imul, 1) := by decide +kernel
theorem dQu_agrees_14 : decode cQu_agrees 14 = .ok (.iload_n 3, 1) := by decide +kernel
theorem dQu_agrees_15 : decode cQu_agrees 15 = .ok (.iadd, 1) := by decide +kernel
theorem dQu_agrees_16 : decode cQu_agrees 16 = .ok (.iaload, 1) := by decide +kernel
theorem dQu_agrees_17 : decode cQu_agrees 17 = .ok (.istore 4, 2) := by decide +kernel
theorem dQu_agrees_19 : decode cQu_agrees 19 = .ok (.iload 4, 2) := by decide +kernel
theorem dQu_agrees_21 : decode cQu_agrees 21 = .ok (.invokestatic 19, 3) := by decide +kernel
theorem dQu_agrees_24 : decode cQu_agrees 24 = .ok (.ifCond .eq 17, 3) := by decide +kernel
theorem dQu_agrees_27 : decode cQu_agrees 27 = .ok (.iload_n 2, 1) := by decide +kernel
theorem dQu_agrees_28 : decode cQu_agrees 28 = .ok (.aload_n 0, 1) := by decide +kernel
theorem dQu_agrees_29 : decode cQu_agrees 29 = .ok (.iload_n 1, 1) := by decide +kernel
theorem dQu_agrees_30 : decode cQu_agrees 30 = .ok (.iload 4, 2) := by decide +kernel
theorem dQu_agrees_32 : decode cQu_agrees 32 = .ok (.invokevirtual 23, 3) := by decide +kernel
theorem dQu_agrees_35 : decode cQu_agrees 35 = .ok (.invokestatic 27, 3) := by decide +kernel
theorem dQu_agrees_38 : decode cQu_agrees 38 = .ok (.goto 5, 3) := by decide +kernel
theorem dQu_agrees_41 : decode cQu_agrees 41 = .ok (.iload 4, 2) := by decide +kernel
theorem dQu_agrees_43 : decode cQu_agrees 43 = .ok (.istore 5, 2) := by decide +kernel
theorem dQu_agrees_45 : decode cQu_agrees 45 = .ok (.iload_n 2, 1) := by decide +kernel
theorem dQu_agrees_46 : decode cQu_agrees 46 = .ok (.iload_n 3, 1) := by decide +kernel
theorem dQu_agrees_47 : decode cQu_agrees 47 = .ok (.invokestatic 27, 3) := by decide +kernel
theorem dQu_agrees_50 : decode cQu_agrees 50 = .ok (.iload 5, 2) := by decide +kernel
theorem dQu_agrees_52 : decode cQu_agrees 52 = .ok (.if_icmp .eq 5, 3) := by decide +kernel
theorem dQu_agrees_55 : decode cQu_agrees 55 = .ok (.iconst 0, 1) := by decide +kernel
theorem dQu_agrees_56 : decode cQu_agrees 56 = .ok (.ireturn, 1) := by decide +kernel
theorem dQu_agrees_57 : decode cQu_agrees 57 = .ok (.iinc 3 1, 3) := by decide +kernel
theorem dQu_agrees_60 : decode cQu_agrees 60 = .ok (.goto (-58), 3) := by decide +kernel
theorem dQu_agrees_63 : decode cQu_agrees 63 = .ok (.iconst 1, 1) := by decide +kernel
theorem dQu_agrees_64 : decode cQu_agrees 64 = .ok (.ireturn, 1) := by decide +kernel
theorem dQu_hasRow_0 : decode cQu_hasRow 0 = .ok (.aload_n 0, 1) := by decide +kernel
theorem dQu_hasRow_1 : decode cQu_hasRow 1 = .ok (.invokevirtual 30, 3) := by decide +kernel
theorem dQu_hasRow_4 : decode cQu_hasRow 4 = .ok (.iload_n 1, 1) := by decide +kernel
theorem dQu_hasRow_5 : decode cQu_hasRow 5 = .ok (.invokestatic 34, 3) := by decide +kernel
theorem dQu_hasRow_8 : decode cQu_hasRow 8 = .ok (.istore 4, 2) := by decide +kernel
theorem dQu_hasRow_10 : decode cQu_hasRow 10 = .ok (.iload 4, 2) := by decide +kernel
theorem dQu_hasRow_12 : decode cQu_hasRow 12 = .ok (.iload_n 2, 1) := by decide +kernel
theorem dQu_hasRow_13 : decode cQu_hasRow 13 = .ok (.invokestatic 34, 3) := by decide +kernel
theorem dQu_hasRow_16 : decode cQu_hasRow 16 = .ok (.istore 4, 2) := by decide +kernel
theorem dQu_hasRow_18 : decode cQu_hasRow 18 = .ok (.iload 4, 2) := by decide +kernel
theorem dQu_hasRow_20 : decode cQu_hasRow 20 = .ok (.iload_n 3, 1) := by decide +kernel
theorem dQu_hasRow_21 : decode cQu_hasRow 21 = .ok (.invokestatic 34, 3) := by decide +kernel
theorem dQu_hasRow_24 : decode cQu_hasRow 24 = .ok (.istore 4, 2) := by decide +kernel
theorem dQu_hasRow_26 : decode cQu_hasRow 26 = .ok (.iload 4, 2) := by decide +kernel
theorem dQu_hasRow_28 : decode cQu_hasRow 28 = .ok (.ifCond .ne 7, 3) := by decide +kernel
theorem dQu_hasRow_31 : decode cQu_hasRow 31 = .ok (.iconst 1, 1) := by decide +kernel
theorem dQu_hasRow_32 : decode cQu_hasRow 32 = .ok (.goto 4, 3) := by decide +kernel
theorem dQu_hasRow_35 : decode cQu_hasRow 35 = .ok (.iconst 0, 1) := by decide +kernel
theorem dQu_hasRow_36 : decode cQu_hasRow 36 = .ok (.ireturn, 1) := by decide +kernel
theorem dQu_variableBits_0 : decode cQu_variableBits 0 = .ok (.iconst 0, 1) := by decide +kernel
theorem dQu_variableBits_1 : decode cQu_variableBits 1 = .ok (.istore_n 1, 1) := by decide +kernel
theorem dQu_variableBits_2 : decode cQu_variableBits 2 = .ok (.iconst 0, 1) := by decide +kernel
theorem dQu_variableBits_3 : decode cQu_variableBits 3 = .ok (.istore_n 2, 1) := by decide +kernel
theorem dQu_variableBits_4 : decode cQu_variableBits 4 = .ok (.iload_n 2, 1) := by decide +kernel
theorem dQu_variableBits_5 : decode cQu_variableBits 5 = .ok (.aload_n 0, 1) := by decide +kernel
theorem dQu_variableBits_6 : decode cQu_variableBits 6 = .ok (.getfield 15, 3) := by decide +kernel
theorem dQu_variableBits_9 : decode cQu_variableBits 9 = .ok (.iconst 3, 1) := by decide +kernel
theorem dQu_variableBits_10 : decode cQu_variableBits 10 = .ok (.imul, 1) := by decide +kernel
theorem dQu_variableBits_11 : decode cQu_variableBits 11 = .ok (.if_icmp .ge 35, 3) := by decide +kernel
theorem dQu_variableBits_14 : decode cQu_variableBits 14 = .ok (.aload_n 0, 1) := by decide +kernel
theorem dQu_variableBits_15 : decode cQu_variableBits 15 = .ok (.getfield 9, 3) := by decide +kernel
theorem dQu_variableBits_18 : decode cQu_variableBits 18 = .ok (.iload_n 2, 1) := by decide +kernel
theorem dQu_variableBits_19 : decode cQu_variableBits 19 = .ok (.iaload, 1) := by decide +kernel
theorem dQu_variableBits_20 : decode cQu_variableBits 20 = .ok (.invokestatic 19, 3) := by decide +kernel
theorem dQu_variableBits_23 : decode cQu_variableBits 23 = .ok (.ifCond .eq 17, 3) := by decide +kernel
theorem dQu_variableBits_26 : decode cQu_variableBits 26 = .ok (.iload_n 1, 1) := by decide +kernel
theorem dQu_variableBits_27 : decode cQu_variableBits 27 = .ok (.iconst 1, 1) := by decide +kernel
theorem dQu_variableBits_28 : decode cQu_variableBits 28 = .ok (.aload_n 0, 1) := by decide +kernel
theorem dQu_variableBits_29 : decode cQu_variableBits 29 = .ok (.getfield 9, 3) := by decide +kernel
theorem dQu_variableBits_32 : decode cQu_variableBits 32 = .ok (.iload_n 2, 1) := by decide +kernel
theorem dQu_variableBits_33 : decode cQu_variableBits 33 = .ok (.iaload, 1) := by decide +kernel
theorem dQu_variableBits_34 : decode cQu_variableBits 34 = .ok (.bipush 32, 2) := by decide +kernel
theorem dQu_variableBits_36 : decode cQu_variableBits 36 = .ok (.isub, 1) := by decide +kernel
theorem dQu_variableBits_37 : decode cQu_variableBits 37 = .ok (.ishl, 1) := by decide +kernel
theorem dQu_variableBits_38 : decode cQu_variableBits 38 = .ok (.ior, 1) := by decide +kernel
theorem dQu_variableBits_39 : decode cQu_variableBits 39 = .ok (.istore_n 1, 1) := by decide +kernel
theorem dQu_variableBits_40 : decode cQu_variableBits 40 = .ok (.iinc 2 1, 3) := by decide +kernel
theorem dQu_variableBits_43 : decode cQu_variableBits 43 = .ok (.goto (-39), 3) := by decide +kernel
theorem dQu_variableBits_46 : decode cQu_variableBits 46 = .ok (.iload_n 1, 1) := by decide +kernel
theorem dQu_variableBits_47 : decode cQu_variableBits 47 = .ok (.ireturn, 1) := by decide +kernel
theorem dQu_awaitedAfter_0 : decode cQu_awaitedAfter 0 = .ok (.iload_n 0, 1) := by decide +kernel
theorem dQu_awaitedAfter_1 : decode cQu_awaitedAfter 1 = .ok (.iconst (-1), 1) := by decide +kernel
theorem dQu_awaitedAfter_2 : decode cQu_awaitedAfter 2 = .ok (.if_icmp .ne 5, 3) := by decide +kernel
theorem dQu_awaitedAfter_5 : decode cQu_awaitedAfter 5 = .ok (.iconst (-1), 1) := by decide +kernel
theorem dQu_awaitedAfter_6 : decode cQu_awaitedAfter 6 = .ok (.ireturn, 1) := by decide +kernel
theorem dQu_awaitedAfter_7 : decode cQu_awaitedAfter 7 = .ok (.iload_n 1, 1) := by decide +kernel
theorem dQu_awaitedAfter_8 : decode cQu_awaitedAfter 8 = .ok (.iconst (-1), 1) := by decide +kernel
theorem dQu_awaitedAfter_9 : decode cQu_awaitedAfter 9 = .ok (.if_icmp .ne 13, 3) := by decide +kernel
theorem dQu_awaitedAfter_12 : decode cQu_awaitedAfter 12 = .ok (.iload_n 0, 1) := by decide +kernel
theorem dQu_awaitedAfter_13 : decode cQu_awaitedAfter 13 = .ok (.ifCond .ne 7, 3) := by decide +kernel
theorem dQu_awaitedAfter_16 : decode cQu_awaitedAfter 16 = .ok (.iconst 0, 1) := by decide +kernel
theorem dQu_awaitedAfter_17 : decode cQu_awaitedAfter 17 = .ok (.goto 4, 3) := by decide +kernel
theorem dQu_awaitedAfter_20 : decode cQu_awaitedAfter 20 = .ok (.iconst (-1), 1) := by decide +kernel
theorem dQu_awaitedAfter_21 : decode cQu_awaitedAfter 21 = .ok (.ireturn, 1) := by decide +kernel
theorem dQu_awaitedAfter_22 : decode cQu_awaitedAfter 22 = .ok (.iload_n 1, 1) := by decide +kernel
theorem dQu_awaitedAfter_23 : decode cQu_awaitedAfter 23 = .ok (.invokestatic 19, 3) := by decide +kernel
theorem dQu_awaitedAfter_26 : decode cQu_awaitedAfter 26 = .ok (.ifCond .ne 5, 3) := by decide +kernel
theorem dQu_awaitedAfter_29 : decode cQu_awaitedAfter 29 = .ok (.iconst (-1), 1) := by decide +kernel
theorem dQu_awaitedAfter_30 : decode cQu_awaitedAfter 30 = .ok (.ireturn, 1) := by decide +kernel
theorem dQu_awaitedAfter_31 : decode cQu_awaitedAfter 31 = .ok (.iconst 1, 1) := by decide +kernel
theorem dQu_awaitedAfter_32 : decode cQu_awaitedAfter 32 = .ok (.iload_n 1, 1) := by decide +kernel
theorem dQu_awaitedAfter_33 : decode cQu_awaitedAfter 33 = .ok (.bipush 32, 2) := by decide +kernel
theorem dQu_awaitedAfter_35 : decode cQu_awaitedAfter 35 = .ok (.isub, 1) := by decide +kernel
theorem dQu_awaitedAfter_36 : decode cQu_awaitedAfter 36 = .ok (.ishl, 1) := by decide +kernel
theorem dQu_awaitedAfter_37 : decode cQu_awaitedAfter 37 = .ok (.istore_n 2, 1) := by decide +kernel
theorem dQu_awaitedAfter_38 : decode cQu_awaitedAfter 38 = .ok (.iload_n 0, 1) := by decide +kernel
theorem dQu_awaitedAfter_39 : decode cQu_awaitedAfter 39 = .ok (.iload_n 2, 1) := by decide +kernel
theorem dQu_awaitedAfter_40 : decode cQu_awaitedAfter 40 = .ok (.iand, 1) := by decide +kernel
theorem dQu_awaitedAfter_41 : decode cQu_awaitedAfter 41 = .ok (.ifCond .eq 9, 3) := by decide +kernel
theorem dQu_awaitedAfter_44 : decode cQu_awaitedAfter 44 = .ok (.iload_n 0, 1) := by decide +kernel
theorem dQu_awaitedAfter_45 : decode cQu_awaitedAfter 45 = .ok (.iload_n 2, 1) := by decide +kernel
theorem dQu_awaitedAfter_46 : decode cQu_awaitedAfter 46 = .ok (.isub, 1) := by decide +kernel
theorem dQu_awaitedAfter_47 : decode cQu_awaitedAfter 47 = .ok (.goto 4, 3) := by decide +kernel
theorem dQu_awaitedAfter_50 : decode cQu_awaitedAfter 50 = .ok (.iconst (-1), 1) := by decide +kernel
theorem dQu_awaitedAfter_51 : decode cQu_awaitedAfter 51 = .ok (.ireturn, 1) := by decide +kernel
theorem dTs_init_0 : decode cTs_init 0 = .ok (.aload_n 0, 1) := by decide +kernel
theorem dTs_init_1 : decode cTs_init 1 = .ok (.invokespecial 3, 3) := by decide +kernel
theorem dTs_init_4 : decode cTs_init 4 = .ok (.aload_n 0, 1) := by decide +kernel
theorem dTs_init_5 : decode cTs_init 5 = .ok (.bipush 6, 2) := by decide +kernel
theorem dTs_init_7 : decode cTs_init 7 = .ok (.anewarray 9, 3) := by decide +kernel
theorem dTs_init_10 : decode cTs_init 10 = .ok (.putfield 11, 3) := by decide +kernel
theorem dTs_init_13 : decode cTs_init 13 = .ok (.iconst 0, 1) := by decide +kernel
theorem dTs_init_14 : decode cTs_init 14 = .ok (.istore_n 1, 1) := by decide +kernel
theorem dTs_init_15 : decode cTs_init 15 = .ok (.iload_n 1, 1) := by decide +kernel
theorem dTs_init_16 : decode cTs_init 16 = .ok (.bipush 6, 2) := by decide +kernel
theorem dTs_init_18 : decode cTs_init 18 = .ok (.if_icmp .ge 19, 3) := by decide +kernel
theorem dTs_init_21 : decode cTs_init 21 = .ok (.aload_n 0, 1) := by decide +kernel
theorem dTs_init_22 : decode cTs_init 22 = .ok (.getfield 11, 3) := by decide +kernel
theorem dTs_init_25 : decode cTs_init 25 = .ok (.iload_n 1, 1) := by decide +kernel
theorem dTs_init_26 : decode cTs_init 26 = .ok (.iload_n 1, 1) := by decide +kernel
theorem dTs_init_27 : decode cTs_init 27 = .ok (.invokestatic 17, 3) := by decide +kernel
theorem dTs_init_30 : decode cTs_init 30 = .ok (.aastore, 1) := by decide +kernel
theorem dTs_init_31 : decode cTs_init 31 = .ok (.iinc 1 1, 3) := by decide +kernel
theorem dTs_init_34 : decode cTs_init 34 = .ok (.goto (-19), 3) := by decide +kernel
theorem dTs_init_37 : decode cTs_init 37 = .ok (.aload_n 0, 1) := by decide +kernel
theorem dTs_init_38 : decode cTs_init 38 = .ok (.iconst 0, 1) := by decide +kernel
theorem dTs_init_39 : decode cTs_init 39 = .ok (.invokestatic 17, 3) := by decide +kernel
theorem dTs_init_42 : decode cTs_init 42 = .ok (.putfield 21, 3) := by decide +kernel
theorem dTs_init_45 : decode cTs_init 45 = .ok (.aload_n 0, 1) := by decide +kernel
theorem dTs_init_46 : decode cTs_init 46 = .ok (.iconst 0, 1) := by decide +kernel
theorem dTs_init_47 : decode cTs_init 47 = .ok (.putfield 25, 3) := by decide +kernel
theorem dTs_init_50 : decode cTs_init 50 = .ok (.aload_n 0, 1) := by decide +kernel
theorem dTs_init_51 : decode cTs_init 51 = .ok (.iconst 0, 1) := by decide +kernel
theorem dTs_init_52 : decode cTs_init 52 = .ok (.putfield 29, 3) := by decide +kernel
theorem dTs_init_55 : decode cTs_init 55 = .ok (.return_, 1) := by decide +kernel
theorem dTs_orderOfWay_0 : decode cTs_orderOfWay 0 = .ok (.iconst 3, 1) := by decide +kernel
theorem dTs_orderOfWay_1 : decode cTs_orderOfWay 1 = .ok (.iload_n 0, 1) := by decide +kernel
theorem dTs_orderOfWay_2 : decode cTs_orderOfWay 2 = .ok (.imul, 1) := by decide +kernel
theorem dTs_orderOfWay_3 : decode cTs_orderOfWay 3 = .ok (.istore_n 1, 1) := by decide +kernel
theorem dTs_orderOfWay_4 : decode cTs_orderOfWay 4 = .ok (.new 9, 3) := by decide +kernel
theorem dTs_orderOfWay_7 : decode cTs_orderOfWay 7 = .ok (.dup, 1) := by decide +kernel
theorem dTs_orderOfWay_8 : decode cTs_orderOfWay 8 = .ok (.getstatic 32, 3) := by decide +kernel
theorem dTs_orderOfWay_11 : decode cTs_orderOfWay 11 = .ok (.iload_n 1, 1) := by decide +kernel
theorem dTs_orderOfWay_12 : decode cTs_orderOfWay 12 = .ok (.iaload, 1) := by decide +kernel
theorem dTs_orderOfWay_13 : decode cTs_orderOfWay 13 = .ok (.getstatic 32, 3) := by decide +kernel
theorem dTs_orderOfWay_16 : decode cTs_orderOfWay 16 = .ok (.iload_n 1, 1) := by decide +kernel
theorem dTs_orderOfWay_17 : decode cTs_orderOfWay 17 = .ok (.iconst 1, 1) := by decide +kernel
theorem dTs_orderOfWay_18 : decode cTs_orderOfWay 18 = .ok (.iadd, 1) := by decide +kernel
theorem dTs_orderOfWay_19 : decode cTs_orderOfWay 19 = .ok (.iaload, 1) := by decide +kernel
theorem dTs_orderOfWay_20 : decode cTs_orderOfWay 20 = .ok (.getstatic 32, 3) := by decide +kernel
theorem dTs_orderOfWay_23 : decode cTs_orderOfWay 23 = .ok (.iload_n 1, 1) := by decide +kernel
theorem dTs_orderOfWay_24 : decode cTs_orderOfWay 24 = .ok (.iconst 2, 1) := by decide +kernel
theorem dTs_orderOfWay_25 : decode cTs_orderOfWay 25 = .ok (.iadd, 1) := by decide +kernel
theorem dTs_orderOfWay_26 : decode cTs_orderOfWay 26 = .ok (.iaload, 1) := by decide +kernel
theorem dTs_orderOfWay_27 : decode cTs_orderOfWay 27 = .ok (.invokespecial 36, 3) := by decide +kernel
theorem dTs_orderOfWay_30 : decode cTs_orderOfWay 30 = .ok (.areturn, 1) := by decide +kernel
theorem dTs_count_0 : decode cTs_count 0 = .ok (.aload_n 0, 1) := by decide +kernel
theorem dTs_count_1 : decode cTs_count 1 = .ok (.getfield 11, 3) := by decide +kernel
theorem dTs_count_4 : decode cTs_count 4 = .ok (.iconst 0, 1) := by decide +kernel
theorem dTs_count_5 : decode cTs_count 5 = .ok (.aaload, 1) := by decide +kernel
theorem dTs_count_6 : decode cTs_count 6 = .ok (.getfield 39, 3) := by decide +kernel
theorem dTs_count_9 : decode cTs_count 9 = .ok (.ireturn, 1) := by decide +kernel
theorem dTs_isFull_0 : decode cTs_isFull 0 = .ok (.aload_n 0, 1) := by decide +kernel
theorem dTs_isFull_1 : decode cTs_isFull 1 = .ok (.getfield 11, 3) := by decide +kernel
theorem dTs_isFull_4 : decode cTs_isFull 4 = .ok (.iconst 0, 1) := by decide +kernel
theorem dTs_isFull_5 : decode cTs_isFull 5 = .ok (.aaload, 1) := by decide +kernel
theorem dTs_isFull_6 : decode cTs_isFull 6 = .ok (.getfield 39, 3) := by decide +kernel
theorem dTs_isFull_9 : decode cTs_isFull 9 = .ok (.bipush 60, 2) := by decide +kernel
theorem dTs_isFull_11 : decode cTs_isFull 11 = .ok (.if_icmp .lt 7, 3) := by decide +kernel
theorem dTs_isFull_14 : decode cTs_isFull 14 = .ok (.iconst 1, 1) := by decide +kernel
theorem dTs_isFull_15 : decode cTs_isFull 15 = .ok (.goto 4, 3) := by decide +kernel
theorem dTs_isFull_18 : decode cTs_isFull 18 = .ok (.iconst 0, 1) := by decide +kernel
theorem dTs_isFull_19 : decode cTs_isFull 19 = .ok (.ireturn, 1) := by decide +kernel
theorem dTs_holds_0 : decode cTs_holds 0 = .ok (.aload_n 0, 1) := by decide +kernel
theorem dTs_holds_1 : decode cTs_holds 1 = .ok (.getfield 11, 3) := by decide +kernel
theorem dTs_holds_4 : decode cTs_holds 4 = .ok (.iconst 0, 1) := by decide +kernel
theorem dTs_holds_5 : decode cTs_holds 5 = .ok (.aaload, 1) := by decide +kernel
theorem dTs_holds_6 : decode cTs_holds 6 = .ok (.iload_n 1, 1) := by decide +kernel
theorem dTs_holds_7 : decode cTs_holds 7 = .ok (.invokevirtual 42, 3) := by decide +kernel
theorem dTs_holds_10 : decode cTs_holds 10 = .ok (.ireturn, 1) := by decide +kernel
theorem dTs_codeAt_0 : decode cTs_codeAt 0 = .ok (.aload_n 0, 1) := by decide +kernel
theorem dTs_codeAt_1 : decode cTs_codeAt 1 = .ok (.getfield 11, 3) := by decide +kernel
theorem dTs_codeAt_4 : decode cTs_codeAt 4 = .ok (.iload_n 1, 1) := by decide +kernel
theorem dTs_codeAt_5 : decode cTs_codeAt 5 = .ok (.aaload, 1) := by decide +kernel
theorem dTs_codeAt_6 : decode cTs_codeAt 6 = .ok (.iload_n 2, 1) := by decide +kernel
theorem dTs_codeAt_7 : decode cTs_codeAt 7 = .ok (.invokevirtual 46, 3) := by decide +kernel
theorem dTs_codeAt_10 : decode cTs_codeAt 10 = .ok (.ireturn, 1) := by decide +kernel
theorem dTs_put_0 : decode cTs_put 0 = .ok (.aload_n 0, 1) := by decide +kernel
theorem dTs_put_1 : decode cTs_put 1 = .ok (.invokevirtual 50, 3) := by decide +kernel
theorem dTs_put_4 : decode cTs_put 4 = .ok (.iconst 0, 1) := by decide +kernel
theorem dTs_put_5 : decode cTs_put 5 = .ok (.istore_n 2, 1) := by decide +kernel
theorem dTs_put_6 : decode cTs_put 6 = .ok (.iload_n 2, 1) := by decide +kernel
theorem dTs_put_7 : decode cTs_put 7 = .ok (.bipush 6, 2) := by decide +kernel
theorem dTs_put_9 : decode cTs_put 9 = .ok (.if_icmp .ge 19, 3) := by decide +kernel
theorem dTs_put_12 : decode cTs_put 12 = .ok (.aload_n 0, 1) := by decide +kernel
theorem dTs_put_13 : decode cTs_put 13 = .ok (.getfield 11, 3) := by decide +kernel
theorem dTs_put_16 : decode cTs_put 16 = .ok (.iload_n 2, 1) := by decide +kernel
theorem dTs_put_17 : decode cTs_put 17 = .ok (.aaload, 1) := by decide +kernel
theorem dTs_put_18 : decode cTs_put 18 = .ok (.iload_n 1, 1) := by decide +kernel
theorem dTs_put_19 : decode cTs_put 19 = .ok (.invokevirtual 53, 3) := by decide +kernel
theorem dTs_put_22 : decode cTs_put 22 = .ok (.iinc 2 1, 3) := by decide +kernel
theorem dTs_put_25 : decode cTs_put 25 = .ok (.goto (-19), 3) := by decide +kernel
theorem dTs_put_28 : decode cTs_put 28 = .ok (.aload_n 0, 1) := by decide +kernel
theorem dTs_put_29 : decode cTs_put 29 = .ok (.dup, 1) := by decide +kernel
theorem dTs_put_30 : decode cTs_put 30 = .ok (.getfield 25, 3) := by decide +kernel
theorem dTs_put_33 : decode cTs_put 33 = .ok (.aload_n 0, 1) := by decide +kernel
theorem dTs_put_34 : decode cTs_put 34 = .ok (.getfield 21, 3) := by decide +kernel
theorem dTs_put_37 : decode cTs_put 37 = .ok (.iload_n 1, 1) := by decide +kernel
theorem dTs_put_38 : decode cTs_put 38 = .ok (.invokevirtual 42, 3) := by decide +kernel
theorem dTs_put_41 : decode cTs_put 41 = .ok (.ifCond .eq 7, 3) := by decide +kernel
theorem dTs_put_44 : decode cTs_put 44 = .ok (.iconst (-1), 1) := by decide +kernel
theorem dTs_put_45 : decode cTs_put 45 = .ok (.goto 4, 3) := by decide +kernel
theorem dTs_put_48 : decode cTs_put 48 = .ok (.iconst 1, 1) := by decide +kernel
theorem dTs_put_49 : decode cTs_put 49 = .ok (.iadd, 1) := by decide +kernel
theorem dTs_put_50 : decode cTs_put 50 = .ok (.putfield 25, 3) := by decide +kernel
theorem dTs_put_53 : decode cTs_put 53 = .ok (.return_, 1) := by decide +kernel
theorem dTs_take_0 : decode cTs_take 0 = .ok (.aload_n 0, 1) := by decide +kernel
theorem dTs_take_1 : decode cTs_take 1 = .ok (.invokevirtual 50, 3) := by decide +kernel
theorem dTs_take_4 : decode cTs_take 4 = .ok (.iconst 0, 1) := by decide +kernel
theorem dTs_take_5 : decode cTs_take 5 = .ok (.istore_n 2, 1) := by decide +kernel
theorem dTs_take_6 : decode cTs_take 6 = .ok (.iload_n 2, 1) := by decide +kernel
theorem dTs_take_7 : decode cTs_take 7 = .ok (.bipush 6, 2) := by decide +kernel
theorem dTs_take_9 : decode cTs_take 9 = .ok (.if_icmp .ge 19, 3) := by decide +kernel
theorem dTs_take_12 : decode cTs_take 12 = .ok (.aload_n 0, 1) := by decide +kernel
theorem dTs_take_13 : decode cTs_take 13 = .ok (.getfield 11, 3) := by decide +kernel
theorem dTs_take_16 : decode cTs_take 16 = .ok (.iload_n 2, 1) := by decide +kernel
theorem dTs_take_17 : decode cTs_take 17 = .ok (.aaload, 1) := by decide +kernel
theorem dTs_take_18 : decode cTs_take 18 = .ok (.iload_n 1, 1) := by decide +kernel
theorem dTs_take_19 : decode cTs_take 19 = .ok (.invokevirtual 57, 3) := by decide +kernel
theorem dTs_take_22 : decode cTs_take 22 = .ok (.iinc 2 1, 3) := by decide +kernel
theorem dTs_take_25 : decode cTs_take 25 = .ok (.goto (-19), 3) := by decide +kernel
theorem dTs_take_28 : decode cTs_take 28 = .ok (.aload_n 0, 1) := by decide +kernel
theorem dTs_take_29 : decode cTs_take 29 = .ok (.dup, 1) := by decide +kernel
theorem dTs_take_30 : decode cTs_take 30 = .ok (.getfield 25, 3) := by decide +kernel
theorem dTs_take_33 : decode cTs_take 33 = .ok (.aload_n 0, 1) := by decide +kernel
theorem dTs_take_34 : decode cTs_take 34 = .ok (.getfield 21, 3) := by decide +kernel
theorem dTs_take_37 : decode cTs_take 37 = .ok (.iload_n 1, 1) := by decide +kernel
theorem dTs_take_38 : decode cTs_take 38 = .ok (.invokevirtual 42, 3) := by decide +kernel
theorem dTs_take_41 : decode cTs_take 41 = .ok (.ifCond .eq 7, 3) := by decide +kernel
theorem dTs_take_44 : decode cTs_take 44 = .ok (.iconst 1, 1) := by decide +kernel
theorem dTs_take_45 : decode cTs_take 45 = .ok (.goto 4, 3) := by decide +kernel
theorem dTs_take_48 : decode cTs_take 48 = .ok (.iconst (-1), 1) := by decide +kernel
theorem dTs_take_49 : decode cTs_take 49 = .ok (.iadd, 1) := by decide +kernel
theorem dTs_take_50 : decode cTs_take 50 = .ok (.putfield 25, 3) := by decide +kernel
theorem dTs_take_53 : decode cTs_take 53 = .ok (.return_, 1) := by decide +kernel
theorem dTs_settleWhenDue_0 : decode cTs_settleWhenDue 0 = .ok (.aload_n 0, 1) := by decide +kernel
theorem dTs_settleWhenDue_1 : decode cTs_settleWhenDue 1 = .ok (.getfield 25, 3) := by decide +kernel
theorem dTs_settleWhenDue_4 : decode cTs_settleWhenDue 4 = .ok (.bipush 12, 2) := by decide +kernel
theorem dTs_settleWhenDue_6 : decode cTs_settleWhenDue 6 = .ok (.if_icmp .lt 7, 3) := by decide +kernel
theorem dTs_settleWhenDue_9 : decode cTs_settleWhenDue 9 = .ok (.aload_n 0, 1) := by decide +kernel
theorem dTs_settleWhenDue_10 : decode cTs_settleWhenDue 10 = .ok (.invokevirtual 60, 3) := by decide +kernel
theorem dTs_settleWhenDue_13 : decode cTs_settleWhenDue 13 = .ok (.return_, 1) := by decide +kernel
theorem dTs_settle_0 : decode cTs_settle 0 = .ok (.aload_n 0, 1) := by decide +kernel
theorem dTs_settle_1 : decode cTs_settle 1 = .ok (.getfield 21, 3) := by decide +kernel
theorem dTs_settle_4 : decode cTs_settle 4 = .ok (.aload_n 0, 1) := by decide +kernel
theorem dTs_settle_5 : decode cTs_settle 5 = .ok (.getfield 11, 3) := by decide +kernel
theorem dTs_settle_8 : decode cTs_settle 8 = .ok (.iconst 0, 1) := by decide +kernel
theorem dTs_settle_9 : decode cTs_settle 9 = .ok (.aaload, 1) := by decide +kernel
theorem dTs_settle_10 : decode cTs_settle 10 = .ok (.invokevirtual 63, 3) := by decide +kernel
theorem dTs_settle_13 : decode cTs_settle 13 = .ok (.aload_n 0, 1) := by decide +kernel
theorem dTs_settle_14 : decode cTs_settle 14 = .ok (.iconst 0, 1) := by decide +kernel
theorem dTs_settle_15 : decode cTs_settle 15 = .ok (.putfield 25, 3) := by decide +kernel
theorem dTs_settle_18 : decode cTs_settle 18 = .ok (.aload_n 0, 1) := by decide +kernel
theorem dTs_settle_19 : decode cTs_settle 19 = .ok (.dup, 1) := by decide +kernel
theorem dTs_settle_20 : decode cTs_settle 20 = .ok (.getfield 29, 3) := by decide +kernel
theorem dTs_settle_23 : decode cTs_settle 23 = .ok (.iconst 1, 1) := by decide +kernel
theorem dTs_settle_24 : decode cTs_settle 24 = .ok (.iadd, 1) := by decide +kernel
theorem dTs_settle_25 : decode cTs_settle 25 = .ok (.putfield 29, 3) := by decide +kernel
theorem dTs_settle_28 : decode cTs_settle 28 = .ok (.return_, 1) := by decide +kernel
