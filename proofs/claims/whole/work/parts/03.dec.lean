theorem dSe_init_0 : decode cSe_init 0 = .ok (.aload_n 0, 1) := by decide +kernel
theorem dSe_init_1 : decode cSe_init 1 = .ok (.invokespecial 3, 3) := by decide +kernel
theorem dSe_init_4 : decode cSe_init 4 = .ok (.aload_n 0, 1) := by decide +kernel
theorem dSe_init_5 : decode cSe_init 5 = .ok (.iconst 3, 1) := by decide +kernel
theorem dSe_init_6 : decode cSe_init 6 = .ok (.newarray .int, 2) := by decide +kernel
theorem dSe_init_8 : decode cSe_init 8 = .ok (.putfield 9, 3) := by decide +kernel
theorem dSe_init_11 : decode cSe_init 11 = .ok (.aload_n 0, 1) := by decide +kernel
theorem dSe_init_12 : decode cSe_init 12 = .ok (.iconst 0, 1) := by decide +kernel
theorem dSe_init_13 : decode cSe_init 13 = .ok (.putfield 15, 3) := by decide +kernel
theorem dSe_init_16 : decode cSe_init 16 = .ok (.aload_n 0, 1) := by decide +kernel
theorem dSe_init_17 : decode cSe_init 17 = .ok (.iconst 0, 1) := by decide +kernel
theorem dSe_init_18 : decode cSe_init 18 = .ok (.putfield 19, 3) := by decide +kernel
theorem dSe_init_21 : decode cSe_init 21 = .ok (.aload_n 0, 1) := by decide +kernel
theorem dSe_init_22 : decode cSe_init 22 = .ok (.iconst 0, 1) := by decide +kernel
theorem dSe_init_23 : decode cSe_init 23 = .ok (.putfield 22, 3) := by decide +kernel
theorem dSe_init_26 : decode cSe_init 26 = .ok (.aload_n 0, 1) := by decide +kernel
theorem dSe_init_27 : decode cSe_init 27 = .ok (.bipush 12, 2) := by decide +kernel
theorem dSe_init_29 : decode cSe_init 29 = .ok (.newarray .int, 2) := by decide +kernel
theorem dSe_init_31 : decode cSe_init 31 = .ok (.putfield 25, 3) := by decide +kernel
theorem dSe_init_34 : decode cSe_init 34 = .ok (.aload_n 0, 1) := by decide +kernel
theorem dSe_init_35 : decode cSe_init 35 = .ok (.bipush 72, 2) := by decide +kernel
theorem dSe_init_37 : decode cSe_init 37 = .ok (.newarray .long, 2) := by decide +kernel
theorem dSe_init_39 : decode cSe_init 39 = .ok (.putfield 28, 3) := by decide +kernel
theorem dSe_init_42 : decode cSe_init 42 = .ok (.aload_n 0, 1) := by decide +kernel
theorem dSe_init_43 : decode cSe_init 43 = .ok (.bipush 16, 2) := by decide +kernel
theorem dSe_init_45 : decode cSe_init 45 = .ok (.newarray .long, 2) := by decide +kernel
theorem dSe_init_47 : decode cSe_init 47 = .ok (.putfield 32, 3) := by decide +kernel
theorem dSe_init_50 : decode cSe_init 50 = .ok (.aload_n 0, 1) := by decide +kernel
theorem dSe_init_51 : decode cSe_init 51 = .ok (.iconst 3, 1) := by decide +kernel
theorem dSe_init_52 : decode cSe_init 52 = .ok (.newarray .int, 2) := by decide +kernel
theorem dSe_init_54 : decode cSe_init 54 = .ok (.putfield 35, 3) := by decide +kernel
theorem dSe_init_57 : decode cSe_init 57 = .ok (.aload_n 0, 1) := by decide +kernel
theorem dSe_init_58 : decode cSe_init 58 = .ok (.sipush 600, 3) := by decide +kernel
theorem dSe_init_61 : decode cSe_init 61 = .ok (.newarray .int, 2) := by decide +kernel
theorem dSe_init_63 : decode cSe_init 63 = .ok (.putfield 38, 3) := by decide +kernel
theorem dSe_init_66 : decode cSe_init 66 = .ok (.aload_n 0, 1) := by decide +kernel
theorem dSe_init_67 : decode cSe_init 67 = .ok (.iconst 0, 1) := by decide +kernel
theorem dSe_init_68 : decode cSe_init 68 = .ok (.putfield 41, 3) := by decide +kernel
theorem dSe_init_71 : decode cSe_init 71 = .ok (.aload_n 0, 1) := by decide +kernel
theorem dSe_init_72 : decode cSe_init 72 = .ok (.iconst 0, 1) := by decide +kernel
theorem dSe_init_73 : decode cSe_init 73 = .ok (.putfield 44, 3) := by decide +kernel
theorem dSe_init_76 : decode cSe_init 76 = .ok (.return_, 1) := by decide +kernel
theorem dSe_begin_0 : decode cSe_begin 0 = .ok (.aload_n 0, 1) := by decide +kernel
theorem dSe_begin_1 : decode cSe_begin 1 = .ok (.iconst 0, 1) := by decide +kernel
theorem dSe_begin_2 : decode cSe_begin 2 = .ok (.putfield 15, 3) := by decide +kernel
theorem dSe_begin_5 : decode cSe_begin 5 = .ok (.aload_n 0, 1) := by decide +kernel
theorem dSe_begin_6 : decode cSe_begin 6 = .ok (.iload_n 1, 1) := by decide +kernel
theorem dSe_begin_7 : decode cSe_begin 7 = .ok (.invokevirtual 47, 3) := by decide +kernel
theorem dSe_begin_10 : decode cSe_begin 10 = .ok (.aload_n 0, 1) := by decide +kernel
theorem dSe_begin_11 : decode cSe_begin 11 = .ok (.iload_n 2, 1) := by decide +kernel
theorem dSe_begin_12 : decode cSe_begin 12 = .ok (.invokevirtual 47, 3) := by decide +kernel
theorem dSe_begin_15 : decode cSe_begin 15 = .ok (.aload_n 0, 1) := by decide +kernel
theorem dSe_begin_16 : decode cSe_begin 16 = .ok (.iload_n 3, 1) := by decide +kernel
theorem dSe_begin_17 : decode cSe_begin 17 = .ok (.invokevirtual 47, 3) := by decide +kernel
theorem dSe_begin_20 : decode cSe_begin 20 = .ok (.iconst 0, 1) := by decide +kernel
theorem dSe_begin_21 : decode cSe_begin 21 = .ok (.istore 4, 2) := by decide +kernel
theorem dSe_begin_23 : decode cSe_begin 23 = .ok (.iload 4, 2) := by decide +kernel
theorem dSe_begin_25 : decode cSe_begin 25 = .ok (.iconst 3, 1) := by decide +kernel
theorem dSe_begin_26 : decode cSe_begin 26 = .ok (.if_icmp .ge 17, 3) := by decide +kernel
theorem dSe_begin_29 : decode cSe_begin 29 = .ok (.aload_n 0, 1) := by decide +kernel
theorem dSe_begin_30 : decode cSe_begin 30 = .ok (.getfield 35, 3) := by decide +kernel
theorem dSe_begin_33 : decode cSe_begin 33 = .ok (.iload 4, 2) := by decide +kernel
theorem dSe_begin_35 : decode cSe_begin 35 = .ok (.iconst (-1), 1) := by decide +kernel
theorem dSe_begin_36 : decode cSe_begin 36 = .ok (.iastore, 1) := by decide +kernel
theorem dSe_begin_37 : decode cSe_begin 37 = .ok (.iinc 4 1, 3) := by decide +kernel
theorem dSe_begin_40 : decode cSe_begin 40 = .ok (.goto (-17), 3) := by decide +kernel
theorem dSe_begin_43 : decode cSe_begin 43 = .ok (.aload_n 0, 1) := by decide +kernel
theorem dSe_begin_44 : decode cSe_begin 44 = .ok (.iconst 0, 1) := by decide +kernel
theorem dSe_begin_45 : decode cSe_begin 45 = .ok (.putfield 41, 3) := by decide +kernel
theorem dSe_begin_48 : decode cSe_begin 48 = .ok (.aload_n 0, 1) := by decide +kernel
theorem dSe_begin_49 : decode cSe_begin 49 = .ok (.iconst 0, 1) := by decide +kernel
theorem dSe_begin_50 : decode cSe_begin 50 = .ok (.putfield 44, 3) := by decide +kernel
theorem dSe_begin_53 : decode cSe_begin 53 = .ok (.return_, 1) := by decide +kernel
theorem dSe_lengthenRow_0 : decode cSe_lengthenRow 0 = .ok (.iload_n 1, 1) := by decide +kernel
theorem dSe_lengthenRow_1 : decode cSe_lengthenRow 1 = .ok (.invokestatic 51, 3) := by decide +kernel
theorem dSe_lengthenRow_4 : decode cSe_lengthenRow 4 = .ok (.ifCond .eq 34, 3) := by decide +kernel
theorem dSe_lengthenRow_7 : decode cSe_lengthenRow 7 = .ok (.aload_n 0, 1) := by decide +kernel
theorem dSe_lengthenRow_8 : decode cSe_lengthenRow 8 = .ok (.getfield 15, 3) := by decide +kernel
theorem dSe_lengthenRow_11 : decode cSe_lengthenRow 11 = .ok (.iconst 3, 1) := by decide +kernel
theorem dSe_lengthenRow_12 : decode cSe_lengthenRow 12 = .ok (.if_icmp .ge 26, 3) := by decide +kernel
theorem dSe_lengthenRow_15 : decode cSe_lengthenRow 15 = .ok (.aload_n 0, 1) := by decide +kernel
theorem dSe_lengthenRow_16 : decode cSe_lengthenRow 16 = .ok (.getfield 9, 3) := by decide +kernel
theorem dSe_lengthenRow_19 : decode cSe_lengthenRow 19 = .ok (.aload_n 0, 1) := by decide +kernel
theorem dSe_lengthenRow_20 : decode cSe_lengthenRow 20 = .ok (.getfield 15, 3) := by decide +kernel
theorem dSe_lengthenRow_23 : decode cSe_lengthenRow 23 = .ok (.iload_n 1, 1) := by decide +kernel
theorem dSe_lengthenRow_24 : decode cSe_lengthenRow 24 = .ok (.bipush 32, 2) := by decide +kernel
theorem dSe_lengthenRow_26 : decode cSe_lengthenRow 26 = .ok (.isub, 1) := by decide +kernel
theorem dSe_lengthenRow_27 : decode cSe_lengthenRow 27 = .ok (.iastore, 1) := by decide +kernel
theorem dSe_lengthenRow_28 : decode cSe_lengthenRow 28 = .ok (.aload_n 0, 1) := by decide +kernel
theorem dSe_lengthenRow_29 : decode cSe_lengthenRow 29 = .ok (.dup, 1) := by decide +kernel
theorem dSe_lengthenRow_30 : decode cSe_lengthenRow 30 = .ok (.getfield 15, 3) := by decide +kernel
theorem dSe_lengthenRow_33 : decode cSe_lengthenRow 33 = .ok (.iconst 1, 1) := by decide +kernel
theorem dSe_lengthenRow_34 : decode cSe_lengthenRow 34 = .ok (.iadd, 1) := by decide +kernel
theorem dSe_lengthenRow_35 : decode cSe_lengthenRow 35 = .ok (.putfield 15, 3) := by decide +kernel
theorem dSe_lengthenRow_38 : decode cSe_lengthenRow 38 = .ok (.return_, 1) := by decide +kernel
theorem dSe_prepare_0 : decode cSe_prepare 0 = .ok (.aload_n 0, 1) := by decide +kernel
theorem dSe_prepare_1 : decode cSe_prepare 1 = .ok (.iload_n 3, 1) := by decide +kernel
theorem dSe_prepare_2 : decode cSe_prepare 2 = .ok (.putfield 19, 3) := by decide +kernel
theorem dSe_prepare_5 : decode cSe_prepare 5 = .ok (.aload_n 0, 1) := by decide +kernel
theorem dSe_prepare_6 : decode cSe_prepare 6 = .ok (.aload_n 1, 1) := by decide +kernel
theorem dSe_prepare_7 : decode cSe_prepare 7 = .ok (.getfield 55, 3) := by decide +kernel
theorem dSe_prepare_10 : decode cSe_prepare 10 = .ok (.putfield 22, 3) := by decide +kernel
theorem dSe_prepare_13 : decode cSe_prepare 13 = .ok (.aload_n 0, 1) := by decide +kernel
theorem dSe_prepare_14 : decode cSe_prepare 14 = .ok (.aload_n 1, 1) := by decide +kernel
theorem dSe_prepare_15 : decode cSe_prepare 15 = .ok (.invokevirtual 60, 3) := by decide +kernel
theorem dSe_prepare_18 : decode cSe_prepare 18 = .ok (.aload_n 0, 1) := by decide +kernel
theorem dSe_prepare_19 : decode cSe_prepare 19 = .ok (.aload_n 2, 1) := by decide +kernel
theorem dSe_prepare_20 : decode cSe_prepare 20 = .ok (.invokevirtual 64, 3) := by decide +kernel
theorem dSe_prepare_23 : decode cSe_prepare 23 = .ok (.iconst 0, 1) := by decide +kernel
theorem dSe_prepare_24 : decode cSe_prepare 24 = .ok (.istore 4, 2) := by decide +kernel
theorem dSe_prepare_26 : decode cSe_prepare 26 = .ok (.iload 4, 2) := by decide +kernel
theorem dSe_prepare_28 : decode cSe_prepare 28 = .ok (.aload_n 0, 1) := by decide +kernel
theorem dSe_prepare_29 : decode cSe_prepare 29 = .ok (.getfield 22, 3) := by decide +kernel
theorem dSe_prepare_32 : decode cSe_prepare 32 = .ok (.if_icmp .ge 23, 3) := by decide +kernel
theorem dSe_prepare_35 : decode cSe_prepare 35 = .ok (.aload_n 0, 1) := by decide +kernel
theorem dSe_prepare_36 : decode cSe_prepare 36 = .ok (.getfield 32, 3) := by decide +kernel
theorem dSe_prepare_39 : decode cSe_prepare 39 = .ok (.iload 4, 2) := by decide +kernel
theorem dSe_prepare_41 : decode cSe_prepare 41 = .ok (.aload_n 1, 1) := by decide +kernel
theorem dSe_prepare_42 : decode cSe_prepare 42 = .ok (.iload 4, 2) := by decide +kernel
theorem dSe_prepare_44 : decode cSe_prepare 44 = .ok (.aload_n 2, 1) := by decide +kernel
theorem dSe_prepare_45 : decode cSe_prepare 45 = .ok (.invokestatic 68, 3) := by decide +kernel
theorem dSe_prepare_48 : decode cSe_prepare 48 = .ok (.lastore, 1) := by decide +kernel
theorem dSe_prepare_49 : decode cSe_prepare 49 = .ok (.iinc 4 1, 3) := by decide +kernel
theorem dSe_prepare_52 : decode cSe_prepare 52 = .ok (.goto (-26), 3) := by decide +kernel
theorem dSe_prepare_55 : decode cSe_prepare 55 = .ok (.return_, 1) := by decide +kernel
theorem dSe_findPlaces_0 : decode cSe_findPlaces 0 = .ok (.iconst 0, 1) := by decide +kernel
theorem dSe_findPlaces_1 : decode cSe_findPlaces 1 = .ok (.istore_n 2, 1) := by decide +kernel
theorem dSe_findPlaces_2 : decode cSe_findPlaces 2 = .ok (.iload_n 2, 1) := by decide +kernel
theorem dSe_findPlaces_3 : decode cSe_findPlaces 3 = .ok (.aload_n 0, 1) := by decide +kernel
theorem dSe_findPlaces_4 : decode cSe_findPlaces 4 = .ok (.getfield 22, 3) := by decide +kernel
theorem dSe_findPlaces_7 : decode cSe_findPlaces 7 = .ok (.if_icmp .ge 41, 3) := by decide +kernel
theorem dSe_findPlaces_10 : decode cSe_findPlaces 10 = .ok (.iconst 0, 1) := by decide +kernel
theorem dSe_findPlaces_11 : decode cSe_findPlaces 11 = .ok (.istore_n 3, 1) := by decide +kernel
theorem dSe_findPlaces_12 : decode cSe_findPlaces 12 = .ok (.iload_n 3, 1) := by decide +kernel
theorem dSe_findPlaces_13 : decode cSe_findPlaces 13 = .ok (.iconst 3, 1) := by decide +kernel
theorem dSe_findPlaces_14 : decode cSe_findPlaces 14 = .ok (.if_icmp .ge 28, 3) := by decide +kernel
theorem dSe_findPlaces_17 : decode cSe_findPlaces 17 = .ok (.aload_n 0, 1) := by decide +kernel
theorem dSe_findPlaces_18 : decode cSe_findPlaces 18 = .ok (.getfield 25, 3) := by decide +kernel
theorem dSe_findPlaces_21 : decode cSe_findPlaces 21 = .ok (.iload_n 2, 1) := by decide +kernel
theorem dSe_findPlaces_22 : decode cSe_findPlaces 22 = .ok (.iconst 3, 1) := by decide +kernel
theorem dSe_findPlaces_23 : decode cSe_findPlaces 23 = .ok (.imul, 1) := by decide +kernel
theorem dSe_findPlaces_24 : decode cSe_findPlaces 24 = .ok (.iload_n 3, 1) := by decide +kernel
theorem dSe_findPlaces_25 : decode cSe_findPlaces 25 = .ok (.iadd, 1) := by decide +kernel
theorem dSe_findPlaces_26 : decode cSe_findPlaces 26 = .ok (.aload_n 1, 1) := by decide +kernel
theorem dSe_findPlaces_27 : decode cSe_findPlaces 27 = .ok (.iload_n 2, 1) := by decide +kernel
theorem dSe_findPlaces_28 : decode cSe_findPlaces 28 = .ok (.bipush 32, 2) := by decide +kernel
theorem dSe_findPlaces_30 : decode cSe_findPlaces 30 = .ok (.iload_n 3, 1) := by decide +kernel
theorem dSe_findPlaces_31 : decode cSe_findPlaces 31 = .ok (.iadd, 1) := by decide +kernel
theorem dSe_findPlaces_32 : decode cSe_findPlaces 32 = .ok (.invokevirtual 72, 3) := by decide +kernel
theorem dSe_findPlaces_35 : decode cSe_findPlaces 35 = .ok (.iastore, 1) := by decide +kernel
theorem dSe_findPlaces_36 : decode cSe_findPlaces 36 = .ok (.iinc 3 1, 3) := by decide +kernel
theorem dSe_findPlaces_39 : decode cSe_findPlaces 39 = .ok (.goto (-27), 3) := by decide +kernel
theorem dSe_findPlaces_42 : decode cSe_findPlaces 42 = .ok (.iinc 2 1, 3) := by decide +kernel
theorem dSe_findPlaces_45 : decode cSe_findPlaces 45 = .ok (.goto (-43), 3) := by decide +kernel
theorem dSe_findPlaces_48 : decode cSe_findPlaces 48 = .ok (.return_, 1) := by decide +kernel
theorem dSe_findHolders_0 : decode cSe_findHolders 0 = .ok (.iconst 0, 1) := by decide +kernel
theorem dSe_findHolders_1 : decode cSe_findHolders 1 = .ok (.istore_n 2, 1) := by decide +kernel
theorem dSe_findHolders_2 : decode cSe_findHolders 2 = .ok (.iload_n 2, 1) := by decide +kernel
theorem dSe_findHolders_3 : decode cSe_findHolders 3 = .ok (.bipush 72, 2) := by decide +kernel
theorem dSe_findHolders_5 : decode cSe_findHolders 5 = .ok (.if_icmp .ge 16, 3) := by decide +kernel
theorem dSe_findHolders_8 : decode cSe_findHolders 8 = .ok (.aload_n 0, 1) := by decide +kernel
theorem dSe_findHolders_9 : decode cSe_findHolders 9 = .ok (.getfield 28, 3) := by decide +kernel
theorem dSe_findHolders_12 : decode cSe_findHolders 12 = .ok (.iload_n 2, 1) := by decide +kernel
theorem dSe_findHolders_13 : decode cSe_findHolders 13 = .ok (.lconst 0, 1) := by decide +kernel
theorem dSe_findHolders_14 : decode cSe_findHolders 14 = .ok (.lastore, 1) := by decide +kernel
theorem dSe_findHolders_15 : decode cSe_findHolders 15 = .ok (.iinc 2 1, 3) := by decide +kernel
theorem dSe_findHolders_18 : decode cSe_findHolders 18 = .ok (.goto (-16), 3) := by decide +kernel
theorem dSe_findHolders_21 : decode cSe_findHolders 21 = .ok (.iconst 0, 1) := by decide +kernel
theorem dSe_findHolders_22 : decode cSe_findHolders 22 = .ok (.istore_n 2, 1) := by decide +kernel
theorem dSe_findHolders_23 : decode cSe_findHolders 23 = .ok (.iload_n 2, 1) := by decide +kernel
theorem dSe_findHolders_24 : decode cSe_findHolders 24 = .ok (.aload_n 1, 1) := by decide +kernel
theorem dSe_findHolders_25 : decode cSe_findHolders 25 = .ok (.invokevirtual 76, 3) := by decide +kernel
theorem dSe_findHolders_28 : decode cSe_findHolders 28 = .ok (.if_icmp .ge 54, 3) := by decide +kernel
theorem dSe_findHolders_31 : decode cSe_findHolders 31 = .ok (.aload_n 1, 1) := by decide +kernel
theorem dSe_findHolders_32 : decode cSe_findHolders 32 = .ok (.iconst 0, 1) := by decide +kernel
theorem dSe_findHolders_33 : decode cSe_findHolders 33 = .ok (.iload_n 2, 1) := by decide +kernel
theorem dSe_findHolders_34 : decode cSe_findHolders 34 = .ok (.invokevirtual 81, 3) := by decide +kernel
theorem dSe_findHolders_37 : decode cSe_findHolders 37 = .ok (.istore_n 3, 1) := by decide +kernel
theorem dSe_findHolders_38 : decode cSe_findHolders 38 = .ok (.iconst 0, 1) := by decide +kernel
theorem dSe_findHolders_39 : decode cSe_findHolders 39 = .ok (.istore 4, 2) := by decide +kernel
theorem dSe_findHolders_41 : decode cSe_findHolders 41 = .ok (.iload 4, 2) := by decide +kernel
theorem dSe_findHolders_43 : decode cSe_findHolders 43 = .ok (.iconst 3, 1) := by decide +kernel
theorem dSe_findHolders_44 : decode cSe_findHolders 44 = .ok (.if_icmp .ge 32, 3) := by decide +kernel
theorem dSe_findHolders_47 : decode cSe_findHolders 47 = .ok (.aload_n 0, 1) := by decide +kernel
theorem dSe_findHolders_48 : decode cSe_findHolders 48 = .ok (.getfield 28, 3) := by decide +kernel
theorem dSe_findHolders_51 : decode cSe_findHolders 51 = .ok (.iload 4, 2) := by decide +kernel
theorem dSe_findHolders_53 : decode cSe_findHolders 53 = .ok (.bipush 24, 2) := by decide +kernel
theorem dSe_findHolders_55 : decode cSe_findHolders 55 = .ok (.imul, 1) := by decide +kernel
theorem dSe_findHolders_56 : decode cSe_findHolders 56 = .ok (.iload_n 3, 1) := by decide +kernel
theorem dSe_findHolders_57 : decode cSe_findHolders 57 = .ok (.iload 4, 2) := by decide +kernel
theorem dSe_findHolders_59 : decode cSe_findHolders 59 = .ok (.invokestatic 84, 3) := by decide +kernel
theorem dSe_findHolders_62 : decode cSe_findHolders 62 = .ok (.iadd, 1) := by decide +kernel
theorem dSe_findHolders_63 : decode cSe_findHolders 63 = .ok (.dup2, 1) := by decide +kernel
theorem dSe_findHolders_64 : decode cSe_findHolders 64 = .ok (.laload, 1) := by decide +kernel
theorem dSe_findHolders_65 : decode cSe_findHolders 65 = .ok (.lconst 1, 1) := by decide +kernel
theorem dSe_findHolders_66 : decode cSe_findHolders 66 = .ok (.iload_n 2, 1) := by decide +kernel
theorem dSe_findHolders_67 : decode cSe_findHolders 67 = .ok (.lshl, 1) := by decide +kernel
theorem dSe_findHolders_68 : decode cSe_findHolders 68 = .ok (.lor, 1) := by decide +kernel
theorem dSe_findHolders_69 : decode cSe_findHolders 69 = .ok (.lastore, 1) := by decide +kernel
theorem dSe_findHolders_70 : decode cSe_findHolders 70 = .ok (.iinc 4 1, 3) := by decide +kernel
theorem dSe_findHolders_73 : decode cSe_findHolders 73 = .ok (.goto (-32), 3) := by decide +kernel
theorem dSe_findHolders_76 : decode cSe_findHolders 76 = .ok (.iinc 2 1, 3) := by decide +kernel
theorem dSe_findHolders_79 : decode cSe_findHolders 79 = .ok (.goto (-56), 3) := by decide +kernel
theorem dSe_findHolders_82 : decode cSe_findHolders 82 = .ok (.return_, 1) := by decide +kernel
theorem dSe_agreeingUnbound_0 : decode cSe_agreeingUnbound 0 = .ok (.lconst 0, 1) := by decide +kernel
theorem dSe_agreeingUnbound_1 : decode cSe_agreeingUnbound 1 = .ok (.lstore_n 3, 1) := by decide +kernel
theorem dSe_agreeingUnbound_2 : decode cSe_agreeingUnbound 2 = .ok (.iconst 0, 1) := by decide +kernel
theorem dSe_agreeingUnbound_3 : decode cSe_agreeingUnbound 3 = .ok (.istore 5, 2) := by decide +kernel
theorem dSe_agreeingUnbound_5 : decode cSe_agreeingUnbound 5 = .ok (.iload 5, 2) := by decide +kernel
theorem dSe_agreeingUnbound_7 : decode cSe_agreeingUnbound 7 = .ok (.aload_n 2, 1) := by decide +kernel
theorem dSe_agreeingUnbound_8 : decode cSe_agreeingUnbound 8 = .ok (.invokevirtual 76, 3) := by decide +kernel
theorem dSe_agreeingUnbound_11 : decode cSe_agreeingUnbound 11 = .ok (.if_icmp .ge 31, 3) := by decide +kernel
theorem dSe_agreeingUnbound_14 : decode cSe_agreeingUnbound 14 = .ok (.aload_n 0, 1) := by decide +kernel
theorem dSe_agreeingUnbound_15 : decode cSe_agreeingUnbound 15 = .ok (.iload_n 1, 1) := by decide +kernel
theorem dSe_agreeingUnbound_16 : decode cSe_agreeingUnbound 16 = .ok (.aload_n 2, 1) := by decide +kernel
theorem dSe_agreeingUnbound_17 : decode cSe_agreeingUnbound 17 = .ok (.iconst 0, 1) := by decide +kernel
theorem dSe_agreeingUnbound_18 : decode cSe_agreeingUnbound 18 = .ok (.iload 5, 2) := by decide +kernel
theorem dSe_agreeingUnbound_20 : decode cSe_agreeingUnbound 20 = .ok (.invokevirtual 81, 3) := by decide +kernel
theorem dSe_agreeingUnbound_23 : decode cSe_agreeingUnbound 23 = .ok (.invokevirtual 87, 3) := by decide +kernel
theorem dSe_agreeingUnbound_26 : decode cSe_agreeingUnbound 26 = .ok (.ifCond .eq 10, 3) := by decide +kernel
theorem dSe_agreeingUnbound_29 : decode cSe_agreeingUnbound 29 = .ok (.lload_n 3, 1) := by decide +kernel
theorem dSe_agreeingUnbound_30 : decode cSe_agreeingUnbound 30 = .ok (.lconst 1, 1) := by decide +kernel
theorem dSe_agreeingUnbound_31 : decode cSe_agreeingUnbound 31 = .ok (.iload 5, 2) := by decide +kernel
theorem dSe_agreeingUnbound_33 : decode cSe_agreeingUnbound 33 = .ok (.lshl, 1) := by decide +kernel
theorem dSe_agreeingUnbound_34 : decode cSe_agreeingUnbound 34 = .ok (.lor, 1) := by decide +kernel
theorem dSe_agreeingUnbound_35 : decode cSe_agreeingUnbound 35 = .ok (.lstore_n 3, 1) := by decide +kernel
theorem dSe_agreeingUnbound_36 : decode cSe_agreeingUnbound 36 = .ok (.iinc 5 1, 3) := by decide +kernel
theorem dSe_agreeingUnbound_39 : decode cSe_agreeingUnbound 39 = .ok (.goto (-34), 3) := by decide +kernel
theorem dSe_agreeingUnbound_42 : decode cSe_agreeingUnbound 42 = .ok (.lload_n 3, 1) := by decide +kernel
theorem dSe_agreeingUnbound_43 : decode cSe_agreeingUnbound 43 = .ok (.lreturn, 1) := by decide +kernel
theorem dSe_findAll_0 : decode cSe_findAll 0 = .ok (.aload_n 0, 1) := by decide +kernel
theorem dSe_findAll_1 : decode cSe_findAll 1 = .ok (.invokevirtual 91, 3) := by decide +kernel
theorem dSe_findAll_4 : decode cSe_findAll 4 = .ok (.ifCond .eq 8, 3) := by decide +kernel
theorem dSe_findAll_7 : decode cSe_findAll 7 = .ok (.aload_n 0, 1) := by decide +kernel
theorem dSe_findAll_8 : decode cSe_findAll 8 = .ok (.iconst 0, 1) := by decide +kernel
theorem dSe_findAll_9 : decode cSe_findAll 9 = .ok (.invokevirtual 95, 3) := by decide +kernel
theorem dSe_findAll_12 : decode cSe_findAll 12 = .ok (.return_, 1) := by decide +kernel
theorem dSe_fixedPatternsHold_0 : decode cSe_fixedPatternsHold 0 = .ok (.iconst 0, 1) := by decide +kernel
theorem dSe_fixedPatternsHold_1 : decode cSe_fixedPatternsHold 1 = .ok (.istore_n 1, 1) := by decide +kernel
theorem dSe_fixedPatternsHold_2 : decode cSe_fixedPatternsHold 2 = .ok (.iload_n 1, 1) := by decide +kernel
theorem dSe_fixedPatternsHold_3 : decode cSe_fixedPatternsHold 3 = .ok (.aload_n 0, 1) := by decide +kernel
theorem dSe_fixedPatternsHold_4 : decode cSe_fixedPatternsHold 4 = .ok (.getfield 22, 3) := by decide +kernel
theorem dSe_fixedPatternsHold_7 : decode cSe_fixedPatternsHold 7 = .ok (.if_icmp .ge 30, 3) := by decide +kernel
theorem dSe_fixedPatternsHold_10 : decode cSe_fixedPatternsHold 10 = .ok (.aload_n 0, 1) := by decide +kernel
theorem dSe_fixedPatternsHold_11 : decode cSe_fixedPatternsHold 11 = .ok (.iload_n 1, 1) := by decide +kernel
theorem dSe_fixedPatternsHold_12 : decode cSe_fixedPatternsHold 12 = .ok (.invokevirtual 98, 3) := by decide +kernel
theorem dSe_fixedPatternsHold_15 : decode cSe_fixedPatternsHold 15 = .ok (.ifCond .eq 16, 3) := by decide +kernel
theorem dSe_fixedPatternsHold_18 : decode cSe_fixedPatternsHold 18 = .ok (.aload_n 0, 1) := by decide +kernel
theorem dSe_fixedPatternsHold_19 : decode cSe_fixedPatternsHold 19 = .ok (.getfield 32, 3) := by decide +kernel
theorem dSe_fixedPatternsHold_22 : decode cSe_fixedPatternsHold 22 = .ok (.iload_n 1, 1) := by decide +kernel
theorem dSe_fixedPatternsHold_23 : decode cSe_fixedPatternsHold 23 = .ok (.laload, 1) := by decide +kernel
theorem dSe_fixedPatternsHold_24 : decode cSe_fixedPatternsHold 24 = .ok (.lconst 0, 1) := by decide +kernel
theorem dSe_fixedPatternsHold_25 : decode cSe_fixedPatternsHold 25 = .ok (.lcmp, 1) := by decide +kernel
theorem dSe_fixedPatternsHold_26 : decode cSe_fixedPatternsHold 26 = .ok (.ifCond .ne 5, 3) := by decide +kernel
theorem dSe_fixedPatternsHold_29 : decode cSe_fixedPatternsHold 29 = .ok (.iconst 0, 1) := by decide +kernel
theorem dSe_fixedPatternsHold_30 : decode cSe_fixedPatternsHold 30 = .ok (.ireturn, 1) := by decide +kernel
theorem dSe_fixedPatternsHold_31 : decode cSe_fixedPatternsHold 31 = .ok (.iinc 1 1, 3) := by decide +kernel
theorem dSe_fixedPatternsHold_34 : decode cSe_fixedPatternsHold 34 = .ok (.goto (-32), 3) := by decide +kernel
theorem dSe_fixedPatternsHold_37 : decode cSe_fixedPatternsHold 37 = .ok (.iconst 1, 1) := by decide +kernel
theorem dSe_fixedPatternsHold_38 : decode cSe_fixedPatternsHold 38 = .ok (.ireturn, 1) := by decide +kernel
theorem dSe_isFixed_0 : decode cSe_isFixed 0 = .ok (.iconst 0, 1) := by decide +kernel
theorem dSe_isFixed_1 : decode cSe_isFixed 1 = .ok (.istore_n 2, 1) := by decide +kernel
theorem dSe_isFixed_2 : decode cSe_isFixed 2 = .ok (.iload_n 2, 1) := by decide +kernel
theorem dSe_isFixed_3 : decode cSe_isFixed 3 = .ok (.iconst 3, 1) := by decide +kernel
theorem dSe_isFixed_4 : decode cSe_isFixed 4 = .ok (.if_icmp .ge 25, 3) := by decide +kernel
theorem dSe_isFixed_7 : decode cSe_isFixed 7 = .ok (.aload_n 0, 1) := by decide +kernel
theorem dSe_isFixed_8 : decode cSe_isFixed 8 = .ok (.getfield 25, 3) := by decide +kernel
theorem dSe_isFixed_11 : decode cSe_isFixed 11 = .ok (.iload_n 1, 1) := by decide +kernel
theorem dSe_isFixed_12 : decode cSe_isFixed 12 = .ok (.iconst 3, 1) := by decide +kernel
theorem dSe_isFixed_13 : decode cSe_isFixed 13 = .ok (.imul, 1) := by decide +kernel
theorem dSe_isFixed_14 : decode cSe_isFixed 14 = .ok (.iload_n 2, 1) := by decide +kernel
theorem dSe_isFixed_15 : decode cSe_isFixed 15 = .ok (.iadd, 1) := by decide +kernel
theorem dSe_isFixed_16 : decode cSe_isFixed 16 = .ok (.iaload, 1) := by decide +kernel
theorem dSe_isFixed_17 : decode cSe_isFixed 17 = .ok (.iconst (-1), 1) := by decide +kernel
theorem dSe_isFixed_18 : decode cSe_isFixed 18 = .ok (.if_icmp .eq 5, 3) := by decide +kernel
theorem dSe_isFixed_21 : decode cSe_isFixed 21 = .ok (.iconst 0, 1) := by decide +kernel
theorem dSe_isFixed_22 : decode cSe_isFixed 22 = .ok (.ireturn, 1) := by decide +kernel
theorem dSe_isFixed_23 : decode cSe_isFixed 23 = .ok (.iinc 2 1, 3) := by decide +kernel
theorem dSe_isFixed_26 : decode cSe_isFixed 26 = .ok (.goto (-24), 3) := by decide +kernel
theorem dSe_isFixed_29 : decode cSe_isFixed 29 = .ok (.iconst 1, 1) := by decide +kernel
theorem dSe_isFixed_30 : decode cSe_isFixed 30 = .ok (.ireturn, 1) := by decide +kernel
theorem dSe_walk_0 : decode cSe_walk 0 = .ok (.iload_n 1, 1) := by decide +kernel
theorem dSe_walk_1 : decode cSe_walk 1 = .ok (.aload_n 0, 1) := by decide +kernel
theorem dSe_walk_2 : decode cSe_walk 2 = .ok (.getfield 15, 3) := by decide +kernel
theorem dSe_walk_5 : decode cSe_walk 5 = .ok (.if_icmp .lt 8, 3) := by decide +kernel
theorem dSe_walk_8 : decode cSe_walk 8 = .ok (.aload_n 0, 1) := by decide +kernel
theorem dSe_walk_9 : decode cSe_walk 9 = .ok (.invokevirtual 101, 3) := by decide +kernel
theorem dSe_walk_12 : decode cSe_walk 12 = .ok (.return_, 1) := by decide +kernel
theorem dSe_walk_13 : decode cSe_walk 13 = .ok (.iconst 0, 1) := by decide +kernel
theorem dSe_walk_14 : decode cSe_walk 14 = .ok (.istore_n 2, 1) := by decide +kernel
theorem dSe_walk_15 : decode cSe_walk 15 = .ok (.iload_n 2, 1) := by decide +kernel
theorem dSe_walk_16 : decode cSe_walk 16 = .ok (.aload_n 0, 1) := by decide +kernel
theorem dSe_walk_17 : decode cSe_walk 17 = .ok (.getfield 19, 3) := by decide +kernel
theorem dSe_walk_20 : decode cSe_walk 20 = .ok (.if_icmp .ge 15, 3) := by decide +kernel
theorem dSe_walk_23 : decode cSe_walk 23 = .ok (.aload_n 0, 1) := by decide +kernel
theorem dSe_walk_24 : decode cSe_walk 24 = .ok (.iload_n 1, 1) := by decide +kernel
theorem dSe_walk_25 : decode cSe_walk 25 = .ok (.iload_n 2, 1) := by decide +kernel
theorem dSe_walk_26 : decode cSe_walk 26 = .ok (.invokevirtual 104, 3) := by decide +kernel
theorem dSe_walk_29 : decode cSe_walk 29 = .ok (.iinc 2 1, 3) := by decide +kernel
theorem dSe_walk_32 : decode cSe_walk 32 = .ok (.goto (-17), 3) := by decide +kernel
theorem dSe_walk_35 : decode cSe_walk 35 = .ok (.return_, 1) := by decide +kernel
theorem dSe_bind_0 : decode cSe_bind 0 = .ok (.aload_n 0, 1) := by decide +kernel
theorem dSe_bind_1 : decode cSe_bind 1 = .ok (.iload_n 1, 1) := by decide +kernel
theorem dSe_bind_2 : decode cSe_bind 2 = .ok (.iload_n 2, 1) := by decide +kernel
theorem dSe_bind_3 : decode cSe_bind 3 = .ok (.invokevirtual 108, 3) := by decide +kernel
theorem dSe_bind_6 : decode cSe_bind 6 = .ok (.ifCond .eq 32, 3) := by decide +kernel
theorem dSe_bind_9 : decode cSe_bind 9 = .ok (.aload_n 0, 1) := by decide +kernel
theorem dSe_bind_10 : decode cSe_bind 10 = .ok (.getfield 35, 3) := by decide +kernel
theorem dSe_bind_13 : decode cSe_bind 13 = .ok (.aload_n 0, 1) := by decide +kernel
theorem dSe_bind_14 : decode cSe_bind 14 = .ok (.getfield 9, 3) := by decide +kernel
theorem dSe_bind_17 : decode cSe_bind 17 = .ok (.iload_n 1, 1) := by decide +kernel
theorem dSe_bind_18 : decode cSe_bind 18 = .ok (.iaload, 1) := by decide +kernel
theorem dSe_bind_19 : decode cSe_bind 19 = .ok (.iload_n 2, 1) := by decide +kernel
theorem dSe_bind_20 : decode cSe_bind 20 = .ok (.iastore, 1) := by decide +kernel
theorem dSe_bind_21 : decode cSe_bind 21 = .ok (.aload_n 0, 1) := by decide +kernel
theorem dSe_bind_22 : decode cSe_bind 22 = .ok (.dup, 1) := by decide +kernel
theorem dSe_bind_23 : decode cSe_bind 23 = .ok (.getfield 44, 3) := by decide +kernel
theorem dSe_bind_26 : decode cSe_bind 26 = .ok (.iconst 1, 1) := by decide +kernel
theorem dSe_bind_27 : decode cSe_bind 27 = .ok (.iadd, 1) := by decide +kernel
theorem dSe_bind_28 : decode cSe_bind 28 = .ok (.putfield 44, 3) := by decide +kernel
theorem dSe_bind_31 : decode cSe_bind 31 = .ok (.aload_n 0, 1) := by decide +kernel
theorem dSe_bind_32 : decode cSe_bind 32 = .ok (.iload_n 1, 1) := by decide +kernel
theorem dSe_bind_33 : decode cSe_bind 33 = .ok (.iconst 1, 1) := by decide +kernel
theorem dSe_bind_34 : decode cSe_bind 34 = .ok (.iadd, 1) := by decide +kernel
theorem dSe_bind_35 : decode cSe_bind 35 = .ok (.invokevirtual 95, 3) := by decide +kernel
theorem dSe_bind_38 : decode cSe_bind 38 = .ok (.return_, 1) := by decide +kernel
theorem dSe_narrow_0 : decode cSe_narrow 0 = .ok (.iload_n 1, 1) := by decide +kernel
theorem dSe_narrow_1 : decode cSe_narrow 1 = .ok (.iconst 4, 1) := by decide +kernel
theorem dSe_narrow_2 : decode cSe_narrow 2 = .ok (.imul, 1) := by decide +kernel
theorem dSe_narrow_3 : decode cSe_narrow 3 = .ok (.istore_n 3, 1) := by decide +kernel
theorem dSe_narrow_4 : decode cSe_narrow 4 = .ok (.iload_n 3, 1) := by decide +kernel
theorem dSe_narrow_5 : decode cSe_narrow 5 = .ok (.iconst 4, 1) := by decide +kernel
theorem dSe_narrow_6 : decode cSe_narrow 6 = .ok (.iadd, 1) := by decide +kernel
theorem dSe_narrow_7 : decode cSe_narrow 7 = .ok (.istore 4, 2) := by decide +kernel
theorem dSe_narrow_9 : decode cSe_narrow 9 = .ok (.iconst 0, 1) := by decide +kernel
theorem dSe_narrow_10 : decode cSe_narrow 10 = .ok (.istore 5, 2) := by decide +kernel
theorem dSe_narrow_12 : decode cSe_narrow 12 = .ok (.iload 5, 2) := by decide +kernel
theorem dSe_narrow_14 : decode cSe_narrow 14 = .ok (.aload_n 0, 1) := by decide +kernel
theorem dSe_narrow_15 : decode cSe_narrow 15 = .ok (.getfield 22, 3) := by decide +kernel
theorem dSe_narrow_18 : decode cSe_narrow 18 = .ok (.if_icmp .ge 82, 3) := by decide +kernel
theorem dSe_narrow_21 : decode cSe_narrow 21 = .ok (.aload_n 0, 1) := by decide +kernel
theorem dSe_narrow_22 : decode cSe_narrow 22 = .ok (.getfield 32, 3) := by decide +kernel
theorem dSe_narrow_25 : decode cSe_narrow 25 = .ok (.iload_n 3, 1) := by decide +kernel
theorem dSe_narrow_26 : decode cSe_narrow 26 = .ok (.iload 5, 2) := by decide +kernel
theorem dSe_narrow_28 : decode cSe_narrow 28 = .ok (.iadd, 1) := by decide +kernel
theorem dSe_narrow_29 : decode cSe_narrow 29 = .ok (.laload, 1) := by decide +kernel
theorem dSe_narrow_30 : decode cSe_narrow 30 = .ok (.lstore 6, 2) := by decide +kernel
theorem dSe_narrow_32 : decode cSe_narrow 32 = .ok (.aload_n 0, 1) := by decide +kernel
theorem dSe_narrow_33 : decode cSe_narrow 33 = .ok (.getfield 25, 3) := by decide +kernel
theorem dSe_narrow_36 : decode cSe_narrow 36 = .ok (.iload 5, 2) := by decide +kernel
theorem dSe_narrow_38 : decode cSe_narrow 38 = .ok (.iconst 3, 1) := by decide +kernel
theorem dSe_narrow_39 : decode cSe_narrow 39 = .ok (.imul, 1) := by decide +kernel
theorem dSe_narrow_40 : decode cSe_narrow 40 = .ok (.aload_n 0, 1) := by decide +kernel
theorem dSe_narrow_41 : decode cSe_narrow 41 = .ok (.getfield 9, 3) := by decide +kernel
theorem dSe_narrow_44 : decode cSe_narrow 44 = .ok (.iload_n 1, 1) := by decide +kernel
theorem dSe_narrow_45 : decode cSe_narrow 45 = .ok (.iaload, 1) := by decide +kernel
theorem dSe_narrow_46 : decode cSe_narrow 46 = .ok (.iadd, 1) := by decide +kernel
theorem dSe_narrow_47 : decode cSe_narrow 47 = .ok (.iaload, 1) := by decide +kernel
theorem dSe_narrow_48 : decode cSe_narrow 48 = .ok (.istore 8, 2) := by decide +kernel
theorem dSe_narrow_50 : decode cSe_narrow 50 = .ok (.iload 8, 2) := by decide +kernel
theorem dSe_narrow_52 : decode cSe_narrow 52 = .ok (.iconst (-1), 1) := by decide +kernel
theorem dSe_narrow_53 : decode cSe_narrow 53 = .ok (.if_icmp .eq 29, 3) := by decide +kernel
theorem dSe_narrow_56 : decode cSe_narrow 56 = .ok (.lload 6, 2) := by decide +kernel
theorem dSe_narrow_58 : decode cSe_narrow 58 = .ok (.aload_n 0, 1) := by decide +kernel
theorem dSe_narrow_59 : decode cSe_narrow 59 = .ok (.getfield 28, 3) := by decide +kernel
theorem dSe_narrow_62 : decode cSe_narrow 62 = .ok (.iload 8, 2) := by decide +kernel
theorem dSe_narrow_64 : decode cSe_narrow 64 = .ok (.bipush 24, 2) := by decide +kernel
theorem dSe_narrow_66 : decode cSe_narrow 66 = .ok (.imul, 1) := by decide +kernel
theorem dSe_narrow_67 : decode cSe_narrow 67 = .ok (.iload_n 2, 1) := by decide +kernel
theorem dSe_narrow_68 : decode cSe_narrow 68 = .ok (.iadd, 1) := by decide +kernel
theorem dSe_narrow_69 : decode cSe_narrow 69 = .ok (.laload, 1) := by decide +kernel
theorem dSe_narrow_70 : decode cSe_narrow 70 = .ok (.land, 1) := by decide +kernel
theorem dSe_narrow_71 : decode cSe_narrow 71 = .ok (.lstore 6, 2) := by decide +kernel
theorem dSe_narrow_73 : decode cSe_narrow 73 = .ok (.lload 6, 2) := by decide +kernel
theorem dSe_narrow_75 : decode cSe_narrow 75 = .ok (.lconst 0, 1) := by decide +kernel
theorem dSe_narrow_76 : decode cSe_narrow 76 = .ok (.lcmp, 1) := by decide +kernel
theorem dSe_narrow_77 : decode cSe_narrow 77 = .ok (.ifCond .ne 5, 3) := by decide +kernel
theorem dSe_narrow_80 : decode cSe_narrow 80 = .ok (.iconst 0, 1) := by decide +kernel
theorem dSe_narrow_81 : decode cSe_narrow 81 = .ok (.ireturn, 1) := by decide +kernel
theorem dSe_narrow_82 : decode cSe_narrow 82 = .ok (.aload_n 0, 1) := by decide +kernel
theorem dSe_narrow_83 : decode cSe_narrow 83 = .ok (.getfield 32, 3) := by decide +kernel
theorem dSe_narrow_86 : decode cSe_narrow 86 = .ok (.iload 4, 2) := by decide +kernel
theorem dSe_narrow_88 : decode cSe_narrow 88 = .ok (.iload 5, 2) := by decide +kernel
theorem dSe_narrow_90 : decode cSe_narrow 90 = .ok (.iadd, 1) := by decide +kernel
theorem dSe_narrow_91 : decode cSe_narrow 91 = .ok (.lload 6, 2) := by decide +kernel
theorem dSe_narrow_93 : decode cSe_narrow 93 = .ok (.lastore, 1) := by decide +kernel
theorem dSe_narrow_94 : decode cSe_narrow 94 = .ok (.iinc 5 1, 3) := by decide +kernel
theorem dSe_narrow_97 : decode cSe_narrow 97 = .ok (.goto (-85), 3) := by decide +kernel
theorem dSe_narrow_100 : decode cSe_narrow 100 = .ok (.iconst 1, 1) := by decide +kernel
theorem dSe_narrow_101 : decode cSe_narrow 101 = .ok (.ireturn, 1) := by decide +kernel
theorem dSe_keepAnswer_0 : decode cSe_keepAnswer 0 = .ok (.aload_n 0, 1) := by decide +kernel
theorem dSe_keepAnswer_1 : decode cSe_keepAnswer 1 = .ok (.getfield 41, 3) := by decide +kernel
theorem dSe_keepAnswer_4 : decode cSe_keepAnswer 4 = .ok (.sipush 200, 3) := by decide +kernel
theorem dSe_keepAnswer_7 : decode cSe_keepAnswer 7 = .ok (.if_icmp .ge 22, 3) := by decide +kernel
theorem dSe_keepAnswer_10 : decode cSe_keepAnswer 10 = .ok (.aload_n 0, 1) := by decide +kernel
theorem dSe_keepAnswer_11 : decode cSe_keepAnswer 11 = .ok (.getfield 35, 3) := by decide +kernel
theorem dSe_keepAnswer_14 : decode cSe_keepAnswer 14 = .ok (.iconst 0, 1) := by decide +kernel
theorem dSe_keepAnswer_15 : decode cSe_keepAnswer 15 = .ok (.aload_n 0, 1) := by decide +kernel
theorem dSe_keepAnswer_16 : decode cSe_keepAnswer 16 = .ok (.getfield 38, 3) := by decide +kernel
theorem dSe_keepAnswer_19 : decode cSe_keepAnswer 19 = .ok (.aload_n 0, 1) := by decide +kernel
theorem dSe_keepAnswer_20 : decode cSe_keepAnswer 20 = .ok (.getfield 41, 3) := by decide +kernel
theorem dSe_keepAnswer_23 : decode cSe_keepAnswer 23 = .ok (.iconst 3, 1) := by decide +kernel
theorem dSe_keepAnswer_24 : decode cSe_keepAnswer 24 = .ok (.imul, 1) := by decide +kernel
theorem dSe_keepAnswer_25 : decode cSe_keepAnswer 25 = .ok (.iconst 3, 1) := by decide +kernel
theorem dSe_keepAnswer_26 : decode cSe_keepAnswer 26 = .ok (.invokestatic 111, 3) := by decide +kernel
theorem dSe_keepAnswer_29 : decode cSe_keepAnswer 29 = .ok (.aload_n 0, 1) := by decide +kernel
theorem dSe_keepAnswer_30 : decode cSe_keepAnswer 30 = .ok (.dup, 1) := by decide +kernel
theorem dSe_keepAnswer_31 : decode cSe_keepAnswer 31 = .ok (.getfield 41, 3) := by decide +kernel
theorem dSe_keepAnswer_34 : decode cSe_keepAnswer 34 = .ok (.iconst 1, 1) := by decide +kernel
theorem dSe_keepAnswer_35 : decode cSe_keepAnswer 35 = .ok (.iadd, 1) := by decide +kernel
theorem dSe_keepAnswer_36 : decode cSe_keepAnswer 36 = .ok (.putfield 41, 3) := by decide +kernel
theorem dSe_keepAnswer_39 : decode cSe_keepAnswer 39 = .ok (.return_, 1) := by decide +kernel
theorem dSe_termAt_0 : decode cSe_termAt 0 = .ok (.iload_n 1, 1) := by decide +kernel
theorem dSe_termAt_1 : decode cSe_termAt 1 = .ok (.ifCond .lt 18, 3) := by decide +kernel
theorem dSe_termAt_4 : decode cSe_termAt 4 = .ok (.iload_n 1, 1) := by decide +kernel
theorem dSe_termAt_5 : decode cSe_termAt 5 = .ok (.aload_n 0, 1) := by decide +kernel
theorem dSe_termAt_6 : decode cSe_termAt 6 = .ok (.getfield 41, 3) := by decide +kernel
theorem dSe_termAt_9 : decode cSe_termAt 9 = .ok (.if_icmp .ge 10, 3) := by decide +kernel
theorem dSe_termAt_12 : decode cSe_termAt 12 = .ok (.iload_n 1, 1) := by decide +kernel
theorem dSe_termAt_13 : decode cSe_termAt 13 = .ok (.sipush 200, 3) := by decide +kernel
theorem dSe_termAt_16 : decode cSe_termAt 16 = .ok (.if_icmp .lt 5, 3) := by decide +kernel
theorem dSe_termAt_19 : decode cSe_termAt 19 = .ok (.iconst (-1), 1) := by decide +kernel
theorem dSe_termAt_20 : decode cSe_termAt 20 = .ok (.ireturn, 1) := by decide +kernel
theorem dSe_termAt_21 : decode cSe_termAt 21 = .ok (.aload_n 0, 1) := by decide +kernel
theorem dSe_termAt_22 : decode cSe_termAt 22 = .ok (.getfield 38, 3) := by decide +kernel
theorem dSe_termAt_25 : decode cSe_termAt 25 = .ok (.iload_n 1, 1) := by decide +kernel
theorem dSe_termAt_26 : decode cSe_termAt 26 = .ok (.iconst 3, 1) := by decide +kernel
theorem dSe_termAt_27 : decode cSe_termAt 27 = .ok (.imul, 1) := by decide +kernel
theorem dSe_termAt_28 : decode cSe_termAt 28 = .ok (.iload_n 2, 1) := by decide +kernel
theorem dSe_termAt_29 : decode cSe_termAt 29 = .ok (.iadd, 1) := by decide +kernel
theorem dSe_termAt_30 : decode cSe_termAt 30 = .ok (.iaload, 1) := by decide +kernel
theorem dSe_termAt_31 : decode cSe_termAt 31 = .ok (.ireturn, 1) := by decide +kernel
