theorem dX0_init_0 : decode cX0_init 0 = .ok (.aload_n 0, 1) := by decide +kernel
theorem dX0_init_1 : decode cX0_init 1 = .ok (.invokespecial 5, 3) := by decide +kernel
theorem dX0_init_4 : decode cX0_init 4 = .ok (.aload_n 0, 1) := by decide +kernel
theorem dX0_init_5 : decode cX0_init 5 = .ok (.sipush 1024, 3) := by decide +kernel
theorem dX0_init_8 : decode cX0_init 8 = .ok (.newarray .long, 2) := by decide +kernel
theorem dX0_init_10 : decode cX0_init 10 = .ok (.putfield 11, 3) := by decide +kernel
theorem dX0_init_13 : decode cX0_init 13 = .ok (.aload_n 0, 1) := by decide +kernel
theorem dX0_init_14 : decode cX0_init 14 = .ok (.bipush 10, 2) := by decide +kernel
theorem dX0_init_16 : decode cX0_init 16 = .ok (.newarray .int, 2) := by decide +kernel
theorem dX0_init_18 : decode cX0_init 18 = .ok (.putfield 15, 3) := by decide +kernel
theorem dX0_init_21 : decode cX0_init 21 = .ok (.aload_n 0, 1) := by decide +kernel
theorem dX0_init_22 : decode cX0_init 22 = .ok (.bipush 91, 2) := by decide +kernel
theorem dX0_init_24 : decode cX0_init 24 = .ok (.newarray .int, 2) := by decide +kernel
theorem dX0_init_26 : decode cX0_init 26 = .ok (.putfield 19, 3) := by decide +kernel
theorem dX0_init_29 : decode cX0_init 29 = .ok (.return_, 1) := by decide +kernel
theorem dX0_fewestWords_0 : decode cX0_fewestWords 0 = .ok (.aload_n 0, 1) := by decide +kernel
theorem dX0_fewestWords_1 : decode cX0_fewestWords 1 = .ok (.aload_n 2, 1) := by decide +kernel
theorem dX0_fewestWords_2 : decode cX0_fewestWords 2 = .ok (.invokevirtual 22, 3) := by decide +kernel
theorem dX0_fewestWords_5 : decode cX0_fewestWords 5 = .ok (.istore_n 3, 1) := by decide +kernel
theorem dX0_fewestWords_6 : decode cX0_fewestWords 6 = .ok (.iconst (-1), 1) := by decide +kernel
theorem dX0_fewestWords_7 : decode cX0_fewestWords 7 = .ok (.istore 4, 2) := by decide +kernel
theorem dX0_fewestWords_9 : decode cX0_fewestWords 9 = .ok (.bipush 11, 2) := by decide +kernel
theorem dX0_fewestWords_11 : decode cX0_fewestWords 11 = .ok (.istore 5, 2) := by decide +kernel
theorem dX0_fewestWords_13 : decode cX0_fewestWords 13 = .ok (.iconst 0, 1) := by decide +kernel
theorem dX0_fewestWords_14 : decode cX0_fewestWords 14 = .ok (.istore 6, 2) := by decide +kernel
theorem dX0_fewestWords_16 : decode cX0_fewestWords 16 = .ok (.iload 6, 2) := by decide +kernel
theorem dX0_fewestWords_18 : decode cX0_fewestWords 18 = .ok (.aload_n 1, 1) := by decide +kernel
theorem dX0_fewestWords_19 : decode cX0_fewestWords 19 = .ok (.invokevirtual 26, 3) := by decide +kernel
theorem dX0_fewestWords_22 : decode cX0_fewestWords 22 = .ok (.if_icmp .gt 40, 3) := by decide +kernel
theorem dX0_fewestWords_25 : decode cX0_fewestWords 25 = .ok (.iload 6, 2) := by decide +kernel
theorem dX0_fewestWords_27 : decode cX0_fewestWords 27 = .ok (.invokestatic 32, 3) := by decide +kernel
theorem dX0_fewestWords_30 : decode cX0_fewestWords 30 = .ok (.iload 5, 2) := by decide +kernel
theorem dX0_fewestWords_32 : decode cX0_fewestWords 32 = .ok (.if_icmp .ge 24, 3) := by decide +kernel
theorem dX0_fewestWords_35 : decode cX0_fewestWords 35 = .ok (.aload_n 0, 1) := by decide +kernel
theorem dX0_fewestWords_36 : decode cX0_fewestWords 36 = .ok (.iload 6, 2) := by decide +kernel
theorem dX0_fewestWords_38 : decode cX0_fewestWords 38 = .ok (.iload_n 3, 1) := by decide +kernel
theorem dX0_fewestWords_39 : decode cX0_fewestWords 39 = .ok (.invokevirtual 38, 3) := by decide +kernel
theorem dX0_fewestWords_42 : decode cX0_fewestWords 42 = .ok (.ifCond .eq 14, 3) := by decide +kernel
theorem dX0_fewestWords_45 : decode cX0_fewestWords 45 = .ok (.iload 6, 2) := by decide +kernel
theorem dX0_fewestWords_47 : decode cX0_fewestWords 47 = .ok (.istore 4, 2) := by decide +kernel
theorem dX0_fewestWords_49 : decode cX0_fewestWords 49 = .ok (.iload 6, 2) := by decide +kernel
theorem dX0_fewestWords_51 : decode cX0_fewestWords 51 = .ok (.invokestatic 32, 3) := by decide +kernel
theorem dX0_fewestWords_54 : decode cX0_fewestWords 54 = .ok (.istore 5, 2) := by decide +kernel
theorem dX0_fewestWords_56 : decode cX0_fewestWords 56 = .ok (.iinc 6 1, 3) := by decide +kernel
theorem dX0_fewestWords_59 : decode cX0_fewestWords 59 = .ok (.goto (-43), 3) := by decide +kernel
theorem dX0_fewestWords_62 : decode cX0_fewestWords 62 = .ok (.iload 4, 2) := by decide +kernel
theorem dX0_fewestWords_64 : decode cX0_fewestWords 64 = .ok (.ireturn, 1) := by decide +kernel
theorem dX0_learnPairs_0 : decode cX0_learnPairs 0 = .ok (.iconst 0, 1) := by decide +kernel
theorem dX0_learnPairs_1 : decode cX0_learnPairs 1 = .ok (.istore_n 2, 1) := by decide +kernel
theorem dX0_learnPairs_2 : decode cX0_learnPairs 2 = .ok (.iconst 1, 1) := by decide +kernel
theorem dX0_learnPairs_3 : decode cX0_learnPairs 3 = .ok (.istore_n 3, 1) := by decide +kernel
theorem dX0_learnPairs_4 : decode cX0_learnPairs 4 = .ok (.iload_n 3, 1) := by decide +kernel
theorem dX0_learnPairs_5 : decode cX0_learnPairs 5 = .ok (.bipush 14, 2) := by decide +kernel
theorem dX0_learnPairs_7 : decode cX0_learnPairs 7 = .ok (.if_icmp .ge 71, 3) := by decide +kernel
theorem dX0_learnPairs_10 : decode cX0_learnPairs 10 = .ok (.iconst 0, 1) := by decide +kernel
theorem dX0_learnPairs_11 : decode cX0_learnPairs 11 = .ok (.istore 4, 2) := by decide +kernel
theorem dX0_learnPairs_13 : decode cX0_learnPairs 13 = .ok (.iload 4, 2) := by decide +kernel
theorem dX0_learnPairs_15 : decode cX0_learnPairs 15 = .ok (.iload_n 3, 1) := by decide +kernel
theorem dX0_learnPairs_16 : decode cX0_learnPairs 16 = .ok (.if_icmp .ge 56, 3) := by decide +kernel
theorem dX0_learnPairs_19 : decode cX0_learnPairs 19 = .ok (.iload_n 2, 1) := by decide +kernel
theorem dX0_learnPairs_20 : decode cX0_learnPairs 20 = .ok (.aload_n 0, 1) := by decide +kernel
theorem dX0_learnPairs_21 : decode cX0_learnPairs 21 = .ok (.getfield 19, 3) := by decide +kernel
theorem dX0_learnPairs_24 : decode cX0_learnPairs 24 = .ok (.arraylength, 1) := by decide +kernel
theorem dX0_learnPairs_25 : decode cX0_learnPairs 25 = .ok (.if_icmp .ge 47, 3) := by decide +kernel
theorem dX0_learnPairs_28 : decode cX0_learnPairs 28 = .ok (.aload_n 1, 1) := by decide +kernel
theorem dX0_learnPairs_29 : decode cX0_learnPairs 29 = .ok (.iload_n 3, 1) := by decide +kernel
theorem dX0_learnPairs_30 : decode cX0_learnPairs 30 = .ok (.invokevirtual 42, 3) := by decide +kernel
theorem dX0_learnPairs_33 : decode cX0_learnPairs 33 = .ok (.ifCond .eq 33, 3) := by decide +kernel
theorem dX0_learnPairs_36 : decode cX0_learnPairs 36 = .ok (.aload_n 1, 1) := by decide +kernel
theorem dX0_learnPairs_37 : decode cX0_learnPairs 37 = .ok (.iload 4, 2) := by decide +kernel
theorem dX0_learnPairs_39 : decode cX0_learnPairs 39 = .ok (.invokevirtual 42, 3) := by decide +kernel
theorem dX0_learnPairs_42 : decode cX0_learnPairs 42 = .ok (.ifCond .eq 24, 3) := by decide +kernel
theorem dX0_learnPairs_45 : decode cX0_learnPairs 45 = .ok (.aload_n 0, 1) := by decide +kernel
theorem dX0_learnPairs_46 : decode cX0_learnPairs 46 = .ok (.getfield 19, 3) := by decide +kernel
theorem dX0_learnPairs_49 : decode cX0_learnPairs 49 = .ok (.iload_n 2, 1) := by decide +kernel
theorem dX0_learnPairs_50 : decode cX0_learnPairs 50 = .ok (.aload_n 1, 1) := by decide +kernel
theorem dX0_learnPairs_51 : decode cX0_learnPairs 51 = .ok (.iload_n 3, 1) := by decide +kernel
theorem dX0_learnPairs_52 : decode cX0_learnPairs 52 = .ok (.invokevirtual 48, 3) := by decide +kernel
theorem dX0_learnPairs_55 : decode cX0_learnPairs 55 = .ok (.aload_n 1, 1) := by decide +kernel
theorem dX0_learnPairs_56 : decode cX0_learnPairs 56 = .ok (.iload 4, 2) := by decide +kernel
theorem dX0_learnPairs_58 : decode cX0_learnPairs 58 = .ok (.invokevirtual 48, 3) := by decide +kernel
theorem dX0_learnPairs_61 : decode cX0_learnPairs 61 = .ok (.ixor, 1) := by decide +kernel
theorem dX0_learnPairs_62 : decode cX0_learnPairs 62 = .ok (.iastore, 1) := by decide +kernel
theorem dX0_learnPairs_63 : decode cX0_learnPairs 63 = .ok (.iinc 2 1, 3) := by decide +kernel
theorem dX0_learnPairs_66 : decode cX0_learnPairs 66 = .ok (.iinc 4 1, 3) := by decide +kernel
theorem dX0_learnPairs_69 : decode cX0_learnPairs 69 = .ok (.goto (-56), 3) := by decide +kernel
theorem dX0_learnPairs_72 : decode cX0_learnPairs 72 = .ok (.iinc 3 1, 3) := by decide +kernel
theorem dX0_learnPairs_75 : decode cX0_learnPairs 75 = .ok (.goto (-71), 3) := by decide +kernel
theorem dX0_learnPairs_78 : decode cX0_learnPairs 78 = .ok (.iload_n 2, 1) := by decide +kernel
theorem dX0_learnPairs_79 : decode cX0_learnPairs 79 = .ok (.ireturn, 1) := by decide +kernel
theorem dX0_partsAll_0 : decode cX0_partsAll 0 = .ok (.iconst 0, 1) := by decide +kernel
theorem dX0_partsAll_1 : decode cX0_partsAll 1 = .ok (.istore_n 3, 1) := by decide +kernel
theorem dX0_partsAll_2 : decode cX0_partsAll 2 = .ok (.iload_n 3, 1) := by decide +kernel
theorem dX0_partsAll_3 : decode cX0_partsAll 3 = .ok (.iload_n 2, 1) := by decide +kernel
theorem dX0_partsAll_4 : decode cX0_partsAll 4 = .ok (.if_icmp .ge 22, 3) := by decide +kernel
theorem dX0_partsAll_7 : decode cX0_partsAll 7 = .ok (.aload_n 0, 1) := by decide +kernel
theorem dX0_partsAll_8 : decode cX0_partsAll 8 = .ok (.getfield 19, 3) := by decide +kernel
theorem dX0_partsAll_11 : decode cX0_partsAll 11 = .ok (.iload_n 3, 1) := by decide +kernel
theorem dX0_partsAll_12 : decode cX0_partsAll 12 = .ok (.iaload, 1) := by decide +kernel
theorem dX0_partsAll_13 : decode cX0_partsAll 13 = .ok (.iload_n 1, 1) := by decide +kernel
theorem dX0_partsAll_14 : decode cX0_partsAll 14 = .ok (.iand, 1) := by decide +kernel
theorem dX0_partsAll_15 : decode cX0_partsAll 15 = .ok (.ifCond .ne 5, 3) := by decide +kernel
theorem dX0_partsAll_18 : decode cX0_partsAll 18 = .ok (.iconst 0, 1) := by decide +kernel
theorem dX0_partsAll_19 : decode cX0_partsAll 19 = .ok (.ireturn, 1) := by decide +kernel
theorem dX0_partsAll_20 : decode cX0_partsAll 20 = .ok (.iinc 3 1, 3) := by decide +kernel
theorem dX0_partsAll_23 : decode cX0_partsAll 23 = .ok (.goto (-21), 3) := by decide +kernel
theorem dX0_partsAll_26 : decode cX0_partsAll 26 = .ok (.iconst 1, 1) := by decide +kernel
theorem dX0_partsAll_27 : decode cX0_partsAll 27 = .ok (.ireturn, 1) := by decide +kernel
theorem dX0_questions_0 : decode cX0_questions 0 = .ok (.aload_n 0, 1) := by decide +kernel
theorem dX0_questions_1 : decode cX0_questions 1 = .ok (.aload_n 1, 1) := by decide +kernel
theorem dX0_questions_2 : decode cX0_questions 2 = .ok (.aload_n 2, 1) := by decide +kernel
theorem dX0_questions_3 : decode cX0_questions 3 = .ok (.invokevirtual 51, 3) := by decide +kernel
theorem dX0_questions_6 : decode cX0_questions 6 = .ok (.ifCond .eq 15, 3) := by decide +kernel
theorem dX0_questions_9 : decode cX0_questions 9 = .ok (.aload_n 0, 1) := by decide +kernel
theorem dX0_questions_10 : decode cX0_questions 10 = .ok (.aload_n 2, 1) := by decide +kernel
theorem dX0_questions_11 : decode cX0_questions 11 = .ok (.getfield 55, 3) := by decide +kernel
theorem dX0_questions_14 : decode cX0_questions 14 = .ok (.iconst 0, 1) := by decide +kernel
theorem dX0_questions_15 : decode cX0_questions 15 = .ok (.invokevirtual 59, 3) := by decide +kernel
theorem dX0_questions_18 : decode cX0_questions 18 = .ok (.goto 4, 3) := by decide +kernel
theorem dX0_questions_21 : decode cX0_questions 21 = .ok (.iconst (-1), 1) := by decide +kernel
theorem dX0_questions_22 : decode cX0_questions 22 = .ok (.ireturn, 1) := by decide +kernel
theorem dX0_firstQuestion_0 : decode cX0_firstQuestion 0 = .ok (.aload_n 0, 1) := by decide +kernel
theorem dX0_firstQuestion_1 : decode cX0_firstQuestion 1 = .ok (.aload_n 1, 1) := by decide +kernel
theorem dX0_firstQuestion_2 : decode cX0_firstQuestion 2 = .ok (.aload_n 2, 1) := by decide +kernel
theorem dX0_firstQuestion_3 : decode cX0_firstQuestion 3 = .ok (.invokevirtual 51, 3) := by decide +kernel
theorem dX0_firstQuestion_6 : decode cX0_firstQuestion 6 = .ok (.ifCond .ne 5, 3) := by decide +kernel
theorem dX0_firstQuestion_9 : decode cX0_firstQuestion 9 = .ok (.iconst (-1), 1) := by decide +kernel
theorem dX0_firstQuestion_10 : decode cX0_firstQuestion 10 = .ok (.ireturn, 1) := by decide +kernel
theorem dX0_firstQuestion_11 : decode cX0_firstQuestion 11 = .ok (.aload_n 0, 1) := by decide +kernel
theorem dX0_firstQuestion_12 : decode cX0_firstQuestion 12 = .ok (.aload_n 2, 1) := by decide +kernel
theorem dX0_firstQuestion_13 : decode cX0_firstQuestion 13 = .ok (.getfield 55, 3) := by decide +kernel
theorem dX0_firstQuestion_16 : decode cX0_firstQuestion 16 = .ok (.iconst 0, 1) := by decide +kernel
theorem dX0_firstQuestion_17 : decode cX0_firstQuestion 17 = .ok (.invokevirtual 59, 3) := by decide +kernel
theorem dX0_firstQuestion_20 : decode cX0_firstQuestion 20 = .ok (.istore_n 3, 1) := by decide +kernel
theorem dX0_firstQuestion_21 : decode cX0_firstQuestion 21 = .ok (.iconst 0, 1) := by decide +kernel
theorem dX0_firstQuestion_22 : decode cX0_firstQuestion 22 = .ok (.istore 4, 2) := by decide +kernel
theorem dX0_firstQuestion_24 : decode cX0_firstQuestion 24 = .ok (.iload 4, 2) := by decide +kernel
theorem dX0_firstQuestion_26 : decode cX0_firstQuestion 26 = .ok (.aload_n 0, 1) := by decide +kernel
theorem dX0_firstQuestion_27 : decode cX0_firstQuestion 27 = .ok (.getfield 63, 3) := by decide +kernel
theorem dX0_firstQuestion_30 : decode cX0_firstQuestion 30 = .ok (.if_icmp .ge 75, 3) := by decide +kernel
theorem dX0_firstQuestion_33 : decode cX0_firstQuestion 33 = .ok (.aload_n 2, 1) := by decide +kernel
theorem dX0_firstQuestion_34 : decode cX0_firstQuestion 34 = .ok (.getfield 55, 3) := by decide +kernel
theorem dX0_firstQuestion_37 : decode cX0_firstQuestion 37 = .ok (.aload_n 0, 1) := by decide +kernel
theorem dX0_firstQuestion_38 : decode cX0_firstQuestion 38 = .ok (.getfield 15, 3) := by decide +kernel
theorem dX0_firstQuestion_41 : decode cX0_firstQuestion 41 = .ok (.iload 4, 2) := by decide +kernel
theorem dX0_firstQuestion_43 : decode cX0_firstQuestion 43 = .ok (.iaload, 1) := by decide +kernel
theorem dX0_firstQuestion_44 : decode cX0_firstQuestion 44 = .ok (.iand, 1) := by decide +kernel
theorem dX0_firstQuestion_45 : decode cX0_firstQuestion 45 = .ok (.istore 5, 2) := by decide +kernel
theorem dX0_firstQuestion_47 : decode cX0_firstQuestion 47 = .ok (.aload_n 2, 1) := by decide +kernel
theorem dX0_firstQuestion_48 : decode cX0_firstQuestion 48 = .ok (.getfield 55, 3) := by decide +kernel
theorem dX0_firstQuestion_51 : decode cX0_firstQuestion 51 = .ok (.aload_n 0, 1) := by decide +kernel
theorem dX0_firstQuestion_52 : decode cX0_firstQuestion 52 = .ok (.getfield 15, 3) := by decide +kernel
theorem dX0_firstQuestion_55 : decode cX0_firstQuestion 55 = .ok (.iload 4, 2) := by decide +kernel
theorem dX0_firstQuestion_57 : decode cX0_firstQuestion 57 = .ok (.iaload, 1) := by decide +kernel
theorem dX0_firstQuestion_58 : decode cX0_firstQuestion 58 = .ok (.iconst (-1), 1) := by decide +kernel
theorem dX0_firstQuestion_59 : decode cX0_firstQuestion 59 = .ok (.ixor, 1) := by decide +kernel
theorem dX0_firstQuestion_60 : decode cX0_firstQuestion 60 = .ok (.iand, 1) := by decide +kernel
theorem dX0_firstQuestion_61 : decode cX0_firstQuestion 61 = .ok (.istore 6, 2) := by decide +kernel
theorem dX0_firstQuestion_63 : decode cX0_firstQuestion 63 = .ok (.iload 5, 2) := by decide +kernel
theorem dX0_firstQuestion_65 : decode cX0_firstQuestion 65 = .ok (.ifCond .eq 34, 3) := by decide +kernel
theorem dX0_firstQuestion_68 : decode cX0_firstQuestion 68 = .ok (.iload 6, 2) := by decide +kernel
theorem dX0_firstQuestion_70 : decode cX0_firstQuestion 70 = .ok (.ifCond .eq 29, 3) := by decide +kernel
theorem dX0_firstQuestion_73 : decode cX0_firstQuestion 73 = .ok (.aload_n 0, 1) := by decide +kernel
theorem dX0_firstQuestion_74 : decode cX0_firstQuestion 74 = .ok (.iload 5, 2) := by decide +kernel
theorem dX0_firstQuestion_76 : decode cX0_firstQuestion 76 = .ok (.iconst 1, 1) := by decide +kernel
theorem dX0_firstQuestion_77 : decode cX0_firstQuestion 77 = .ok (.invokevirtual 59, 3) := by decide +kernel
theorem dX0_firstQuestion_80 : decode cX0_firstQuestion 80 = .ok (.aload_n 0, 1) := by decide +kernel
theorem dX0_firstQuestion_81 : decode cX0_firstQuestion 81 = .ok (.iload 6, 2) := by decide +kernel
theorem dX0_firstQuestion_83 : decode cX0_firstQuestion 83 = .ok (.iconst 1, 1) := by decide +kernel
theorem dX0_firstQuestion_84 : decode cX0_firstQuestion 84 = .ok (.invokevirtual 59, 3) := by decide +kernel
theorem dX0_firstQuestion_87 : decode cX0_firstQuestion 87 = .ok (.invokestatic 66, 3) := by decide +kernel
theorem dX0_firstQuestion_90 : decode cX0_firstQuestion 90 = .ok (.iconst 1, 1) := by decide +kernel
theorem dX0_firstQuestion_91 : decode cX0_firstQuestion 91 = .ok (.iadd, 1) := by decide +kernel
theorem dX0_firstQuestion_92 : decode cX0_firstQuestion 92 = .ok (.iload_n 3, 1) := by decide +kernel
theorem dX0_firstQuestion_93 : decode cX0_firstQuestion 93 = .ok (.if_icmp .ne 6, 3) := by decide +kernel
theorem dX0_firstQuestion_96 : decode cX0_firstQuestion 96 = .ok (.iload 4, 2) := by decide +kernel
theorem dX0_firstQuestion_98 : decode cX0_firstQuestion 98 = .ok (.ireturn, 1) := by decide +kernel
theorem dX0_firstQuestion_99 : decode cX0_firstQuestion 99 = .ok (.iinc 4 1, 3) := by decide +kernel
theorem dX0_firstQuestion_102 : decode cX0_firstQuestion 102 = .ok (.goto (-78), 3) := by decide +kernel
theorem dX0_firstQuestion_105 : decode cX0_firstQuestion 105 = .ok (.iconst (-1), 1) := by decide +kernel
theorem dX0_firstQuestion_106 : decode cX0_firstQuestion 106 = .ok (.ireturn, 1) := by decide +kernel
theorem dX0_begin_0 : decode cX0_begin 0 = .ok (.aload_n 0, 1) := by decide +kernel
theorem dX0_begin_1 : decode cX0_begin 1 = .ok (.aload_n 1, 1) := by decide +kernel
theorem dX0_begin_2 : decode cX0_begin 2 = .ok (.getfield 71, 3) := by decide +kernel
theorem dX0_begin_5 : decode cX0_begin 5 = .ok (.putfield 63, 3) := by decide +kernel
theorem dX0_begin_8 : decode cX0_begin 8 = .ok (.aload_n 0, 1) := by decide +kernel
theorem dX0_begin_9 : decode cX0_begin 9 = .ok (.getfield 11, 3) := by decide +kernel
theorem dX0_begin_12 : decode cX0_begin 12 = .ok (.lconst 0, 1) := by decide +kernel
theorem dX0_begin_13 : decode cX0_begin 13 = .ok (.invokestatic 72, 3) := by decide +kernel
theorem dX0_begin_16 : decode cX0_begin 16 = .ok (.iconst 0, 1) := by decide +kernel
theorem dX0_begin_17 : decode cX0_begin 17 = .ok (.istore_n 3, 1) := by decide +kernel
theorem dX0_begin_18 : decode cX0_begin 18 = .ok (.iload_n 3, 1) := by decide +kernel
theorem dX0_begin_19 : decode cX0_begin 19 = .ok (.aload_n 0, 1) := by decide +kernel
theorem dX0_begin_20 : decode cX0_begin 20 = .ok (.getfield 63, 3) := by decide +kernel
theorem dX0_begin_23 : decode cX0_begin 23 = .ok (.if_icmp .ge 20, 3) := by decide +kernel
theorem dX0_begin_26 : decode cX0_begin 26 = .ok (.aload_n 0, 1) := by decide +kernel
theorem dX0_begin_27 : decode cX0_begin 27 = .ok (.getfield 15, 3) := by decide +kernel
theorem dX0_begin_30 : decode cX0_begin 30 = .ok (.iload_n 3, 1) := by decide +kernel
theorem dX0_begin_31 : decode cX0_begin 31 = .ok (.aload_n 2, 1) := by decide +kernel
theorem dX0_begin_32 : decode cX0_begin 32 = .ok (.iload_n 3, 1) := by decide +kernel
theorem dX0_begin_33 : decode cX0_begin 33 = .ok (.invokevirtual 78, 3) := by decide +kernel
theorem dX0_begin_36 : decode cX0_begin 36 = .ok (.iastore, 1) := by decide +kernel
theorem dX0_begin_37 : decode cX0_begin 37 = .ok (.iinc 3 1, 3) := by decide +kernel
theorem dX0_begin_40 : decode cX0_begin 40 = .ok (.goto (-22), 3) := by decide +kernel
theorem dX0_begin_43 : decode cX0_begin 43 = .ok (.aload_n 0, 1) := by decide +kernel
theorem dX0_begin_44 : decode cX0_begin 44 = .ok (.aload_n 1, 1) := by decide +kernel
theorem dX0_begin_45 : decode cX0_begin 45 = .ok (.invokevirtual 26, 3) := by decide +kernel
theorem dX0_begin_48 : decode cX0_begin 48 = .ok (.aload_n 0, 1) := by decide +kernel
theorem dX0_begin_49 : decode cX0_begin 49 = .ok (.aload_n 2, 1) := by decide +kernel
theorem dX0_begin_50 : decode cX0_begin 50 = .ok (.invokevirtual 22, 3) := by decide +kernel
theorem dX0_begin_53 : decode cX0_begin 53 = .ok (.invokevirtual 38, 3) := by decide +kernel
theorem dX0_begin_56 : decode cX0_begin 56 = .ok (.ireturn, 1) := by decide +kernel
theorem dX0_needed_0 : decode cX0_needed 0 = .ok (.iload_n 1, 1) := by decide +kernel
theorem dX0_needed_1 : decode cX0_needed 1 = .ok (.invokestatic 32, 3) := by decide +kernel
theorem dX0_needed_4 : decode cX0_needed 4 = .ok (.iconst 2, 1) := by decide +kernel
theorem dX0_needed_5 : decode cX0_needed 5 = .ok (.if_icmp .lt 9, 3) := by decide +kernel
theorem dX0_needed_8 : decode cX0_needed 8 = .ok (.iload_n 2, 1) := by decide +kernel
theorem dX0_needed_9 : decode cX0_needed 9 = .ok (.bipush 10, 2) := by decide +kernel
theorem dX0_needed_11 : decode cX0_needed 11 = .ok (.if_icmp .le 5, 3) := by decide +kernel
theorem dX0_needed_14 : decode cX0_needed 14 = .ok (.iconst 0, 1) := by decide +kernel
theorem dX0_needed_15 : decode cX0_needed 15 = .ok (.ireturn, 1) := by decide +kernel
theorem dX0_needed_16 : decode cX0_needed 16 = .ok (.iload_n 1, 1) := by decide +kernel
theorem dX0_needed_17 : decode cX0_needed 17 = .ok (.bipush 16, 2) := by decide +kernel
theorem dX0_needed_19 : decode cX0_needed 19 = .ok (.idiv, 1) := by decide +kernel
theorem dX0_needed_20 : decode cX0_needed 20 = .ok (.istore_n 3, 1) := by decide +kernel
theorem dX0_needed_21 : decode cX0_needed 21 = .ok (.iload_n 1, 1) := by decide +kernel
theorem dX0_needed_22 : decode cX0_needed 22 = .ok (.bipush 16, 2) := by decide +kernel
theorem dX0_needed_24 : decode cX0_needed 24 = .ok (.irem, 1) := by decide +kernel
theorem dX0_needed_25 : decode cX0_needed 25 = .ok (.iconst 4, 1) := by decide +kernel
theorem dX0_needed_26 : decode cX0_needed 26 = .ok (.imul, 1) := by decide +kernel
theorem dX0_needed_27 : decode cX0_needed 27 = .ok (.istore 4, 2) := by decide +kernel
theorem dX0_needed_29 : decode cX0_needed 29 = .ok (.iload_n 3, 1) := by decide +kernel
theorem dX0_needed_30 : decode cX0_needed 30 = .ok (.ifCond .lt 12, 3) := by decide +kernel
theorem dX0_needed_33 : decode cX0_needed 33 = .ok (.iload_n 3, 1) := by decide +kernel
theorem dX0_needed_34 : decode cX0_needed 34 = .ok (.aload_n 0, 1) := by decide +kernel
theorem dX0_needed_35 : decode cX0_needed 35 = .ok (.getfield 11, 3) := by decide +kernel
theorem dX0_needed_38 : decode cX0_needed 38 = .ok (.arraylength, 1) := by decide +kernel
theorem dX0_needed_39 : decode cX0_needed 39 = .ok (.if_icmp .lt 5, 3) := by decide +kernel
theorem dX0_needed_42 : decode cX0_needed 42 = .ok (.iconst 0, 1) := by decide +kernel
theorem dX0_needed_43 : decode cX0_needed 43 = .ok (.ireturn, 1) := by decide +kernel
theorem dX0_needed_44 : decode cX0_needed 44 = .ok (.aload_n 0, 1) := by decide +kernel
theorem dX0_needed_45 : decode cX0_needed 45 = .ok (.getfield 11, 3) := by decide +kernel
theorem dX0_needed_48 : decode cX0_needed 48 = .ok (.iload_n 3, 1) := by decide +kernel
theorem dX0_needed_49 : decode cX0_needed 49 = .ok (.laload, 1) := by decide +kernel
theorem dX0_needed_50 : decode cX0_needed 50 = .ok (.iload 4, 2) := by decide +kernel
theorem dX0_needed_52 : decode cX0_needed 52 = .ok (.lshr, 1) := by decide +kernel
theorem dX0_needed_53 : decode cX0_needed 53 = .ok (.l2i, 1) := by decide +kernel
theorem dX0_needed_54 : decode cX0_needed 54 = .ok (.bipush 15, 2) := by decide +kernel
theorem dX0_needed_56 : decode cX0_needed 56 = .ok (.iand, 1) := by decide +kernel
theorem dX0_needed_57 : decode cX0_needed 57 = .ok (.istore 5, 2) := by decide +kernel
theorem dX0_needed_59 : decode cX0_needed 59 = .ok (.iload 5, 2) := by decide +kernel
theorem dX0_needed_61 : decode cX0_needed 61 = .ok (.ifCond .ne 26, 3) := by decide +kernel
theorem dX0_needed_64 : decode cX0_needed 64 = .ok (.aload_n 0, 1) := by decide +kernel
theorem dX0_needed_65 : decode cX0_needed 65 = .ok (.iload_n 1, 1) := by decide +kernel
theorem dX0_needed_66 : decode cX0_needed 66 = .ok (.iload_n 2, 1) := by decide +kernel
theorem dX0_needed_67 : decode cX0_needed 67 = .ok (.invokevirtual 80, 3) := by decide +kernel
theorem dX0_needed_70 : decode cX0_needed 70 = .ok (.istore 5, 2) := by decide +kernel
theorem dX0_needed_72 : decode cX0_needed 72 = .ok (.aload_n 0, 1) := by decide +kernel
theorem dX0_needed_73 : decode cX0_needed 73 = .ok (.getfield 11, 3) := by decide +kernel
theorem dX0_needed_76 : decode cX0_needed 76 = .ok (.iload_n 3, 1) := by decide +kernel
theorem dX0_needed_77 : decode cX0_needed 77 = .ok (.dup2, 1) := by decide +kernel
theorem dX0_needed_78 : decode cX0_needed 78 = .ok (.laload, 1) := by decide +kernel
theorem dX0_needed_79 : decode cX0_needed 79 = .ok (.iload 5, 2) := by decide +kernel
theorem dX0_needed_81 : decode cX0_needed 81 = .ok (.i2l, 1) := by decide +kernel
theorem dX0_needed_82 : decode cX0_needed 82 = .ok (.iload 4, 2) := by decide +kernel
theorem dX0_needed_84 : decode cX0_needed 84 = .ok (.lshl, 1) := by decide +kernel
theorem dX0_needed_85 : decode cX0_needed 85 = .ok (.lor, 1) := by decide +kernel
theorem dX0_needed_86 : decode cX0_needed 86 = .ok (.lastore, 1) := by decide +kernel
theorem dX0_needed_87 : decode cX0_needed 87 = .ok (.iload 5, 2) := by decide +kernel
theorem dX0_needed_89 : decode cX0_needed 89 = .ok (.ireturn, 1) := by decide +kernel
theorem dX0_leastNeeded_0 : decode cX0_leastNeeded 0 = .ok (.bipush 32, 2) := by decide +kernel
theorem dX0_leastNeeded_2 : decode cX0_leastNeeded 2 = .ok (.iload_n 1, 1) := by decide +kernel
theorem dX0_leastNeeded_3 : decode cX0_leastNeeded 3 = .ok (.invokestatic 32, 3) := by decide +kernel
theorem dX0_leastNeeded_6 : decode cX0_leastNeeded 6 = .ok (.iconst 1, 1) := by decide +kernel
theorem dX0_leastNeeded_7 : decode cX0_leastNeeded 7 = .ok (.isub, 1) := by decide +kernel
theorem dX0_leastNeeded_8 : decode cX0_leastNeeded 8 = .ok (.invokestatic 83, 3) := by decide +kernel
theorem dX0_leastNeeded_11 : decode cX0_leastNeeded 11 = .ok (.isub, 1) := by decide +kernel
theorem dX0_leastNeeded_12 : decode cX0_leastNeeded 12 = .ok (.istore_n 3, 1) := by decide +kernel
theorem dX0_leastNeeded_13 : decode cX0_leastNeeded 13 = .ok (.bipush 11, 2) := by decide +kernel
theorem dX0_leastNeeded_15 : decode cX0_leastNeeded 15 = .ok (.istore 4, 2) := by decide +kernel
theorem dX0_leastNeeded_17 : decode cX0_leastNeeded 17 = .ok (.iconst 0, 1) := by decide +kernel
theorem dX0_leastNeeded_18 : decode cX0_leastNeeded 18 = .ok (.istore 5, 2) := by decide +kernel
theorem dX0_leastNeeded_20 : decode cX0_leastNeeded 20 = .ok (.iload 5, 2) := by decide +kernel
theorem dX0_leastNeeded_22 : decode cX0_leastNeeded 22 = .ok (.aload_n 0, 1) := by decide +kernel
theorem dX0_leastNeeded_23 : decode cX0_leastNeeded 23 = .ok (.getfield 63, 3) := by decide +kernel
theorem dX0_leastNeeded_26 : decode cX0_leastNeeded 26 = .ok (.if_icmp .ge 92, 3) := by decide +kernel
theorem dX0_leastNeeded_29 : decode cX0_leastNeeded 29 = .ok (.iload 4, 2) := by decide +kernel
theorem dX0_leastNeeded_31 : decode cX0_leastNeeded 31 = .ok (.iload_n 3, 1) := by decide +kernel
theorem dX0_leastNeeded_32 : decode cX0_leastNeeded 32 = .ok (.if_icmp .le 86, 3) := by decide +kernel
theorem dX0_leastNeeded_35 : decode cX0_leastNeeded 35 = .ok (.iload_n 1, 1) := by decide +kernel
theorem dX0_leastNeeded_36 : decode cX0_leastNeeded 36 = .ok (.aload_n 0, 1) := by decide +kernel
theorem dX0_leastNeeded_37 : decode cX0_leastNeeded 37 = .ok (.getfield 15, 3) := by decide +kernel
theorem dX0_leastNeeded_40 : decode cX0_leastNeeded 40 = .ok (.iload 5, 2) := by decide +kernel
theorem dX0_leastNeeded_42 : decode cX0_leastNeeded 42 = .ok (.iaload, 1) := by decide +kernel
theorem dX0_leastNeeded_43 : decode cX0_leastNeeded 43 = .ok (.iand, 1) := by decide +kernel
theorem dX0_leastNeeded_44 : decode cX0_leastNeeded 44 = .ok (.istore 6, 2) := by decide +kernel
theorem dX0_leastNeeded_46 : decode cX0_leastNeeded 46 = .ok (.iload_n 1, 1) := by decide +kernel
theorem dX0_leastNeeded_47 : decode cX0_leastNeeded 47 = .ok (.aload_n 0, 1) := by decide +kernel
theorem dX0_leastNeeded_48 : decode cX0_leastNeeded 48 = .ok (.getfield 15, 3) := by decide +kernel
theorem dX0_leastNeeded_51 : decode cX0_leastNeeded 51 = .ok (.iload 5, 2) := by decide +kernel
theorem dX0_leastNeeded_53 : decode cX0_leastNeeded 53 = .ok (.iaload, 1) := by decide +kernel
theorem dX0_leastNeeded_54 : decode cX0_leastNeeded 54 = .ok (.iconst (-1), 1) := by decide +kernel
theorem dX0_leastNeeded_55 : decode cX0_leastNeeded 55 = .ok (.ixor, 1) := by decide +kernel
theorem dX0_leastNeeded_56 : decode cX0_leastNeeded 56 = .ok (.iand, 1) := by decide +kernel
theorem dX0_leastNeeded_57 : decode cX0_leastNeeded 57 = .ok (.istore 7, 2) := by decide +kernel
theorem dX0_leastNeeded_59 : decode cX0_leastNeeded 59 = .ok (.iload 6, 2) := by decide +kernel
theorem dX0_leastNeeded_61 : decode cX0_leastNeeded 61 = .ok (.ifCond .eq 51, 3) := by decide +kernel
theorem dX0_leastNeeded_64 : decode cX0_leastNeeded 64 = .ok (.iload 7, 2) := by decide +kernel
theorem dX0_leastNeeded_66 : decode cX0_leastNeeded 66 = .ok (.ifCond .eq 46, 3) := by decide +kernel
theorem dX0_leastNeeded_69 : decode cX0_leastNeeded 69 = .ok (.aload_n 0, 1) := by decide +kernel
theorem dX0_leastNeeded_70 : decode cX0_leastNeeded 70 = .ok (.iload 6, 2) := by decide +kernel
theorem dX0_leastNeeded_72 : decode cX0_leastNeeded 72 = .ok (.iload_n 2, 1) := by decide +kernel
theorem dX0_leastNeeded_73 : decode cX0_leastNeeded 73 = .ok (.iconst 1, 1) := by decide +kernel
theorem dX0_leastNeeded_74 : decode cX0_leastNeeded 74 = .ok (.iadd, 1) := by decide +kernel
theorem dX0_leastNeeded_75 : decode cX0_leastNeeded 75 = .ok (.invokevirtual 59, 3) := by decide +kernel
theorem dX0_leastNeeded_78 : decode cX0_leastNeeded 78 = .ok (.iconst 1, 1) := by decide +kernel
theorem dX0_leastNeeded_79 : decode cX0_leastNeeded 79 = .ok (.iadd, 1) := by decide +kernel
theorem dX0_leastNeeded_80 : decode cX0_leastNeeded 80 = .ok (.istore 8, 2) := by decide +kernel
theorem dX0_leastNeeded_82 : decode cX0_leastNeeded 82 = .ok (.iload 8, 2) := by decide +kernel
theorem dX0_leastNeeded_84 : decode cX0_leastNeeded 84 = .ok (.iload 4, 2) := by decide +kernel
theorem dX0_leastNeeded_86 : decode cX0_leastNeeded 86 = .ok (.if_icmp .ge 26, 3) := by decide +kernel
theorem dX0_leastNeeded_89 : decode cX0_leastNeeded 89 = .ok (.iload 4, 2) := by decide +kernel
theorem dX0_leastNeeded_91 : decode cX0_leastNeeded 91 = .ok (.iload 8, 2) := by decide +kernel
theorem dX0_leastNeeded_93 : decode cX0_leastNeeded 93 = .ok (.aload_n 0, 1) := by decide +kernel
theorem dX0_leastNeeded_94 : decode cX0_leastNeeded 94 = .ok (.iload 7, 2) := by decide +kernel
theorem dX0_leastNeeded_96 : decode cX0_leastNeeded 96 = .ok (.iload_n 2, 1) := by decide +kernel
theorem dX0_leastNeeded_97 : decode cX0_leastNeeded 97 = .ok (.iconst 1, 1) := by decide +kernel
theorem dX0_leastNeeded_98 : decode cX0_leastNeeded 98 = .ok (.iadd, 1) := by decide +kernel
theorem dX0_leastNeeded_99 : decode cX0_leastNeeded 99 = .ok (.invokevirtual 59, 3) := by decide +kernel
theorem dX0_leastNeeded_102 : decode cX0_leastNeeded 102 = .ok (.iconst 1, 1) := by decide +kernel
theorem dX0_leastNeeded_103 : decode cX0_leastNeeded 103 = .ok (.iadd, 1) := by decide +kernel
theorem dX0_leastNeeded_104 : decode cX0_leastNeeded 104 = .ok (.invokestatic 66, 3) := by decide +kernel
theorem dX0_leastNeeded_107 : decode cX0_leastNeeded 107 = .ok (.invokestatic 86, 3) := by decide +kernel
theorem dX0_leastNeeded_110 : decode cX0_leastNeeded 110 = .ok (.istore 4, 2) := by decide +kernel
theorem dX0_leastNeeded_112 : decode cX0_leastNeeded 112 = .ok (.iinc 5 1, 3) := by decide +kernel
theorem dX0_leastNeeded_115 : decode cX0_leastNeeded 115 = .ok (.goto (-95), 3) := by decide +kernel
theorem dX0_leastNeeded_118 : decode cX0_leastNeeded 118 = .ok (.iload 4, 2) := by decide +kernel
theorem dX0_leastNeeded_120 : decode cX0_leastNeeded 120 = .ok (.ireturn, 1) := by decide +kernel
